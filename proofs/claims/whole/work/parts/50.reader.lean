/-! ===== the reader ===== -/
theorem srX5_92 : (RX5, 92, "web", 0) ∈ strTab := List.mem_of_getElem? (i := 0) (by decide +kernel)
theorem srX5_98 : (RX5, 98, "nail", 1) ∈ strTab := List.mem_of_getElem? (i := 1) (by decide +kernel)
theorem srX5_100 : (RX5, 100, "thread", 2) ∈ strTab := List.mem_of_getElem? (i := 2) (by decide +kernel)
theorem srX5_102 : (RX5, 102, "clash", 3) ∈ strTab := List.mem_of_getElem? (i := 3) (by decide +kernel)
theorem srX5_104 : (RX5, 104, "load", 4) ∈ strTab := List.mem_of_getElem? (i := 4) (by decide +kernel)
theorem srX5_106 : (RX5, 106, "offer", 5) ∈ strTab := List.mem_of_getElem? (i := 5) (by decide +kernel)
theorem srX5_108 : (RX5, 108, "unsure", 6) ∈ strTab := List.mem_of_getElem? (i := 6) (by decide +kernel)
theorem srX5_110 : (RX5, 110, "hair", 7) ∈ strTab := List.mem_of_getElem? (i := 7) (by decide +kernel)
theorem srX5_112 : (RX5, 112, "slips", 8) ∈ strTab := List.mem_of_getElem? (i := 8) (by decide +kernel)
theorem srX5_121 : (RX5, 121, "clerks", 9) ∈ strTab := List.mem_of_getElem? (i := 9) (by decide +kernel)
theorem srX5_174 : (RX5, 174, "kept", 10) ∈ strTab := List.mem_of_getElem? (i := 10) (by decide +kernel)
theorem srX5_176 : (RX5, 176, "fading", 11) ∈ strTab := List.mem_of_getElem? (i := 11) (by decide +kernel)
theorem srX5_178 : (RX5, 178, "proving", 12) ∈ strTab := List.mem_of_getElem? (i := 12) (by decide +kernel)
theorem srX5_180 : (RX5, 180, "lied", 13) ∈ strTab := List.mem_of_getElem? (i := 13) (by decide +kernel)
theorem srX5_135 : (RX5, 135, "strong", 14) ∈ strTab := List.mem_of_getElem? (i := 14) (by decide +kernel)
theorem srX5_137 : (RX5, 137, "step", 15) ∈ strTab := List.mem_of_getElem? (i := 15) (by decide +kernel)
theorem srX5_142 : (RX5, 142, "costs", 16) ∈ strTab := List.mem_of_getElem? (i := 16) (by decide +kernel)
theorem srX5_182 : (RX5, 182, "brown", 17) ∈ strTab := List.mem_of_getElem? (i := 17) (by decide +kernel)
theorem srX5_184 : (RX5, 184, "clear", 18) ∈ strTab := List.mem_of_getElem? (i := 18) (by decide +kernel)
theorem srX13_133 : (RX13, 133, "web", 0) ∈ strTab := List.mem_of_getElem? (i := 19) (by decide +kernel)
theorem srX13_221 : (RX13, 221, "slips", 8) ∈ strTab := List.mem_of_getElem? (i := 20) (by decide +kernel)
theorem srX13_226 : (RX13, 226, "clerks", 9) ∈ strTab := List.mem_of_getElem? (i := 21) (by decide +kernel)
theorem srX13_135 : (RX13, 135, "nail", 1) ∈ strTab := List.mem_of_getElem? (i := 22) (by decide +kernel)
theorem srX13_137 : (RX13, 137, "thread", 2) ∈ strTab := List.mem_of_getElem? (i := 23) (by decide +kernel)
theorem srX13_139 : (RX13, 139, "clash", 3) ∈ strTab := List.mem_of_getElem? (i := 24) (by decide +kernel)
theorem srX13_141 : (RX13, 141, "load", 4) ∈ strTab := List.mem_of_getElem? (i := 25) (by decide +kernel)
theorem srX13_143 : (RX13, 143, "offer", 5) ∈ strTab := List.mem_of_getElem? (i := 26) (by decide +kernel)
theorem srX13_145 : (RX13, 145, "unsure", 6) ∈ strTab := List.mem_of_getElem? (i := 27) (by decide +kernel)
theorem srX13_147 : (RX13, 147, "hair", 7) ∈ strTab := List.mem_of_getElem? (i := 28) (by decide +kernel)
theorem srX13_244 : (RX13, 244, "kept", 10) ∈ strTab := List.mem_of_getElem? (i := 29) (by decide +kernel)
theorem srX13_245 : (RX13, 245, "fading", 11) ∈ strTab := List.mem_of_getElem? (i := 30) (by decide +kernel)
theorem srX13_247 : (RX13, 247, "proving", 12) ∈ strTab := List.mem_of_getElem? (i := 31) (by decide +kernel)
theorem srX13_249 : (RX13, 249, "lied", 13) ∈ strTab := List.mem_of_getElem? (i := 32) (by decide +kernel)
theorem srX13_254 : (RX13, 254, "strong", 14) ∈ strTab := List.mem_of_getElem? (i := 33) (by decide +kernel)
theorem srX13_256 : (RX13, 256, "step", 15) ∈ strTab := List.mem_of_getElem? (i := 34) (by decide +kernel)
theorem srX13_301 : (RX13, 301, "costs", 16) ∈ strTab := List.mem_of_getElem? (i := 35) (by decide +kernel)
theorem srX13_324 : (RX13, 324, "brown", 17) ∈ strTab := List.mem_of_getElem? (i := 36) (by decide +kernel)
theorem srX13_326 : (RX13, 326, "clear", 18) ∈ strTab := List.mem_of_getElem? (i := 37) (by decide +kernel)
abbrev rdL : List Nat := [1, 2, 3, 4, 5, 6, 7, 10, 11, 12, 13, 14, 15, 16, 17, 18, 19, 20, 21, 22, 23, 24, 25]
def RT7 (tp : Nat → Int32) (e p st : Nat) (A : AH) : Prop := TB tp e A ∧ A.1 7 2 = nI e ∧ A.1 7 3 = nI p ∧ p ≤ e ∧ A.1 7 5 = nI st
def RR (row : List Nat) (A : AH) : Prop := A.1 1 2 = nI row.length ∧ row.length ≤ 6 ∧ (∀ i, i < 6 → A.1 6 i = nI (row.getD i 0)) ∧ ∀ v ∈ row, v < 1000
def R0 (A : AH) : Prop := A.1 1 5 = nI 0 ∧ A.1 1 6 = -1
/-- the reader, behind place p of the text; the latest token began at st -/
def RS (tp : Nat → Int32) (e p st : Nat) (row : List Nat) (w : WT) (nm : NT) (A : AH) : Prop := RT7 tp e p st A ∧ RR row A ∧ RepT w 9 A ∧ RepN nm A ∧ R0 A
def FL (f pl : Nat) (A : AH) : Prop := A.1 1 5 = nI f ∧ A.1 1 6 = nI pl
theorem RS.adv {tp : Nat → Int32} {e p st : Nat} {row : List Nat} {w : WT} {nm : NT} {A A1 : AH} (h : RS tp e p st row w nm A) (k : TK tp e p A1) (o : OffT A A1) : RS tp e (tkE (gB tp) e p) (tkS (gB tp) e p) row w nm A1 := by
  obtain ⟨⟨h1, h2, h3, h4, h5⟩, ⟨r1, r2, r3, r4⟩, hT, hN, h0⟩ := h
  refine ⟨⟨h1.cong (o.1 8 (by decide)).1, k.1, k.2.1, tkE_le h4, k.2.2.2.1⟩, ⟨by rw [(o.1 1 (by decide)).1]; exact r1, r2, fun i hi => by rw [(o.1 6 (by decide)).1]; exact r3 i hi, r4⟩, hT.cong (fun x a b => (o.1 x (by simp; omega)).1), hN.cong (o.1 2 (by decide)).1 (o.1 3 (by decide)).2 (o.1 4 (by decide)).1 (o.1 5 (by decide)).1, by unfold R0; rw [(o.1 1 (by decide)).1]; exact h0⟩
theorem RR.lt {row : List Nat} {A : AH} (h : RR row A) (i : Nat) : row.getD i 0 < 1000 := by
  rw [List.getD_eq_getElem?_getD]
  cases q : row[i]? with
  | none => simp
  | some v => exact h.2.2.2 v (List.mem_of_getElem? q)
theorem OffT.r {A0 A A1 : AH} (o : OffL rdL A0 A) (h : OffT A A1) : OffL rdL A0 A1 := o.tr (h.1.mono (by decide))
theorem fst1_none {p : Nat → Bool} : ∀ {n : Nat}, (∀ i, i < n → p i = false) → fst1 p n = none
  | 0, _ => rfl
  | n + 1, h => by simp [fst1, fst1_none (n := n) (fun i hi => h i (by omega)), h n (by omega)]
theorem lnS_some {g : Nat → Nat} {e p j : Nat} (hj : j < 8) (h : ∀ i, i < j → tkW g e p i = false) (ht : tkW g e p j = true) : lnS g e p = some j := fst1_some (fst1_none h) ht hj
theorem nNum_lt {nm : NT} (h : okN nm) {c j k : Nat} (hk : nNum nm c j = some k) : k < 8 := by
  unfold nNum at hk
  cases q : fst1 (fun i => decide (nm.2.1 i = c) && decide (nm.2.2.1 i = j)) nm.1 with
  | none => rw [q] at hk; cases hk
  | some i =>
    rw [q] at hk
    cases hk
    exact (h.2 i (fst1_lt q).1).2.2
theorem c_X9_isWordT {K : Option Value → AH → Prop} {A : AH} {tp : Nat → Int32} {e p j : Nat} (hj : j < 19) (hK : TK tp e p A) (h : K (some (.int (b2i (tkW (gB tp) e p j)))) A) : Ct yX9_isWord mX9_isWord 4 dC gC [.ref 7, .ref (1000 + j)] A K := c_X9_isWord hj hK.2.2.1 (tkK_le _ _ _) hK.2.2.2.2.1 (fun z => tkC_lt z) h
set_option maxRecDepth 4000 in
theorem c_X5_fail {K : Option Value → AH → Prop} {A : AH} {f st : Nat} (hs : A.1 7 5 = nI st) (h : K (some (.int (b2i false))) (upd2 (upd2 A.1 1 5 (nI f)) 1 6 (nI st), A.2)) : Ct yX5_fail mX5_fail 0 dC gC [.ref 1, .int (nI f)] A K := by
  refine Ct.of [some (.ref 1), some (.int (nI f))] rfl rfl rfl (Nat.le_of_ble_eq_true rfl) ?_
  refine w_aload_n 1 dX5_fail_0 rfl rfl ?_
  refine w_iload_n 2 dX5_fail_1 rfl rfl ?_
  refine w_puti 5 dX5_fail_2 rfl faX5_36 rfl rfl rfl rfl ?_
  refine w_aload_n 6 dX5_fail_5 rfl rfl ?_
  refine w_aload_n 7 dX5_fail_6 rfl rfl ?_
  refine w_getr 10 dX5_fail_7 rfl faX5_25 rfl rfl rfl (r := .ref 7) rfl ?_
  refine w_getiv 13 dX5_fail_10 rfl faX5_66 rfl rfl rfl (v := nI st) (by dsimp only; rw [upd2_ne (by decide)]; exact hs) ?_
  refine w_puti 16 dX5_fail_13 rfl faX5_40 rfl rfl rfl rfl ?_
  refine w_iconst 17 dX5_fail_16 rfl (v := nI 0) rfl ?_
  refine wr_z dX5_fail_17 rfl (by first | rfl | exact nb_b2i _) ?_
  exact kq h rfl

theorem c_X5_failR {K : Option Value → AH → Prop} {A0 A : AH} {f st : Nat} (hs : A.1 7 5 = nI st) (hO : OffL rdL A0 A) (h : ∀ A', FL f st A' → OffL rdL A0 A' → K (some (.int (b2i false))) A') : Ct yX5_fail mX5_fail 0 dC gC [.ref 1, .int (nI f)] A K :=
  c_X5_fail hs (h _ ⟨by dsimp only; rw [upd2_off (by decide), upd2_at], by dsimp only; rw [upd2_at]⟩ ((hO.upd (by decide) _ _).upd (by decide) _ _))
set_option maxRecDepth 4000 in
theorem c_X5_put {K : Option Value → AH → Prop} {A0 A : AH} {tp : Nat → Int32} {e p st : Nat} {row : List Nat} {w : WT} {nm : NT} (hO : OffL rdL A0 A) (hR : RS tp e p st row w nm A) {x : Nat} (hl : row.length < 6) (hx : x < 1000) (h : ∀ A', RS tp e p st (row ++ [x]) w nm A' → OffL rdL A0 A' → K (some (.int (b2i true))) A') : Ct yX5_put mX5_put 0 dC gC [.ref 1, .int (nI x)] A K := by
  refine Ct.of [some (.ref 1), some (.int (nI x))] rfl rfl rfl (Nat.le_of_ble_eq_true rfl) ?_
  obtain ⟨⟨h1, h2, h3, h4, h5⟩, ⟨r1, r2, r3, r4⟩, hT, hN, h0⟩ := id hR
  refine w_aload_n 1 dX5_put_0 rfl rfl ?_
  refine w_getiv 4 dX5_put_1 rfl faX5_150 rfl rfl rfl r1 ?_
  refine w_bipush 6 dX5_put_4 rfl (v := nI 6) rfl ?_
  refine w_icgeN 29 9 dX5_put_6 rfl rfl (by omega) (by omega) (fun c6 => (by omega)) (fun c6 => ?_)
  refine w_aload_n 10 dX5_put_9 rfl rfl ?_
  refine w_getr 13 dX5_put_10 rfl faX5_18 rfl rfl rfl (r := .ref 6) rfl ?_
  refine w_aload_n 14 dX5_put_13 rfl rfl ?_
  refine w_getiv 17 dX5_put_14 rfl faX5_150 rfl rfl rfl r1 ?_
  refine w_iload_n 18 dX5_put_17 rfl rfl ?_
  refine w_iastN 19 dX5_put_18 rfl rfl rfl (by decide) (by omega) ?_
  refine w_aload_n 20 dX5_put_19 rfl rfl ?_
  refine w_dup_r 21 dX5_put_20 rfl ?_
  refine w_getiv 24 dX5_put_21 rfl faX5_150 rfl rfl rfl (v := nI row.length) (by dsimp only; rw [upd2_ne (by decide)]; exact r1) ?_
  refine w_iconst 25 dX5_put_24 rfl (v := nI 1) rfl ?_
  refine w_iaddN 26 dX5_put_25 rfl ?_
  refine w_puti 29 dX5_put_26 rfl faX5_150 rfl rfl rfl rfl ?_
  refine w_iconst 30 dX5_put_29 rfl (v := nI 1) rfl ?_
  refine wr_z dX5_put_30 rfl (by first | rfl | exact nb_b2i _) ?_
  refine kq (h _ ⟨⟨h1.cong (by dsimp only; rw [upd2_ne (by decide), upd2_ne (by decide)]), ?_, ?_, h4, ?_⟩, ⟨?_, ?_, fun i hi => ?_, fun v hv => ?_⟩, hT.cong (fun y a b => by dsimp only; rw [upd2_ne (by omega), upd2_ne (by omega)]), hN.cong ?_ rfl ?_ ?_, ?_, ?_⟩ ((hO.upd (by decide) _ _).upd (by decide) _ _)) rfl
  · dsimp only; rw [upd2_ne (by decide), upd2_ne (by decide)]; exact h2
  · dsimp only; rw [upd2_ne (by decide), upd2_ne (by decide)]; exact h3
  · dsimp only; rw [upd2_ne (by decide), upd2_ne (by decide)]; exact h5
  · dsimp only; rw [upd2_at, List.length_append]; rfl
  · rw [List.length_append]; exact hl
  · dsimp only
    rw [upd2_ne (by decide)]
    by_cases q : i = row.length
    · subst q
      rw [upd2_at]
      simp
    · rw [upd2_off q, r3 i hi]
      congr 1
      simp only [List.getD_eq_getElem?_getD]
      by_cases z : i < row.length
      · rw [List.getElem?_append_left z]
      · rw [List.getElem?_eq_none (by omega), List.getElem?_eq_none (by simp; omega)]
  · rcases List.mem_append.mp hv with z | z
    · exact r4 v z
    · rw [List.mem_singleton.mp z]; exact hx
  · dsimp only; rw [upd2_ne (by decide), upd2_ne (by decide)]
  · dsimp only; rw [upd2_ne (by decide), upd2_ne (by decide)]
  · dsimp only; rw [upd2_ne (by decide), upd2_ne (by decide)]
  · dsimp only; rw [upd2_off (by decide), upd2_ne (by decide)]; exact h0.1
  · dsimp only; rw [upd2_off (by decide), upd2_ne (by decide)]; exact h0.2

set_option maxRecDepth 4000 in
theorem c_X5_takeWord {K : Option Value → AH → Prop} {A0 A : AH} {tp : Nat → Int32} {e p st : Nat} {row : List Nat} {w : WT} {nm : NT} (hO : OffL rdL A0 A) (hR : RS tp e p st row w nm A) {j : Nat} (hj : j < 19) (hf : ∀ f pl, sWd (gB tp) e j (p, row) = .inl (f, pl) → ∀ A', FL f pl A' → OffL rdL A0 A' → K (some (.int (b2i false))) A') (hs : sWd (gB tp) e j (p, row) = .inr ((tkE (gB tp) e p), row) → ∀ A', RS tp e (tkE (gB tp) e p) (tkS (gB tp) e p) row w nm A' → OffL rdL A0 A' → K (some (.int (b2i true))) A') : Ct yX5_takeWord mX5_takeWord 5 dC gC [.ref 1, .ref (1000 + j)] A K := by
  refine Ct.of [some (.ref 1), some (.ref (1000 + j))] rfl rfl rfl (Nat.le_of_ble_eq_true rfl) ?_
  refine w_aload_n 1 dX5_takeWord_0 rfl rfl ?_
  refine w_getr 4 dX5_takeWord_1 rfl faX5_25 rfl rfl rfl (r := .ref 7) rfl ?_
  refine w_inv0 7 dX5_takeWord_4 rfl mlX5_69 rfl rfl (d' := 1) (by decide) (Nat.le_of_ble_eq_true rfl) (c_X9_advance hR.1.1 hR.1.2.1 hR.1.2.2.1 hR.1.2.2.2.1 (fun A1 hK hT1 => ?_))
  have hR1 := hR.adv hK hT1
  have hO1 := OffT.r hO hT1
  refine w_aload_n 8 dX5_takeWord_7 rfl rfl ?_
  refine w_getr 11 dX5_takeWord_8 rfl faX5_25 rfl rfl rfl (r := .ref 7) rfl ?_
  refine w_aload_n 12 dX5_takeWord_11 rfl rfl ?_
  refine w_inv1 15 dX5_takeWord_12 rfl mlX5_94 rfl rfl (d' := 4) (by decide) (Nat.le_of_ble_eq_true rfl) (c_X9_isWordT hj hK ?_)
  refine w_ifneB 26 18 dX5_takeWord_15 rfl rfl (fun c15 => ?_) (fun c15 => ?_)
  · skip
    refine w_iconst 27 dX5_takeWord_26 rfl (v := nI 1) rfl ?_
    refine w_goto 31 dX5_takeWord_27 rfl ?_
    refine wr_z dX5_takeWord_31 rfl (by first | rfl | exact nb_b2i _) ?_
    exact kq (hs (by unfold sWd; rw [if_pos c15]) A1 hR1 hO1) rfl
  · skip
    refine w_aload_n 19 dX5_takeWord_18 rfl rfl ?_
    refine w_iconst 20 dX5_takeWord_19 rfl (v := nI 1) rfl ?_
    refine w_inv1 23 dX5_takeWord_20 rfl mlX5_62 rfl rfl (d' := 0) (by decide) (Nat.le_of_ble_eq_true rfl) (c_X5_failR hR1.1.2.2.2.2 hO1 (fun A2 hF hO2 => ?_))
    refine w_ifeqB 30 26 dX5_takeWord_23 rfl rfl (fun _ => ?_) (fun cc => by cases cc)
    refine w_iconst 31 dX5_takeWord_30 rfl (v := nI 0) rfl ?_
    refine wr_z dX5_takeWord_31 rfl (by first | rfl | exact nb_b2i _) ?_
    exact kq (hf 1 _ (by unfold sWd; rw [if_neg (by rw [c15]; decide)]) A2 hF hO2) rfl

set_option maxRecDepth 4000 in
theorem c_X5_takeWhole {K : Option Value → AH → Prop} {A0 A : AH} {tp : Nat → Int32} {e p st : Nat} {row : List Nat} {w : WT} {nm : NT} (hO : OffL rdL A0 A) (hR : RS tp e p st row w nm A) {lo hi : Nat} (hlo : lo < 1000) (hhi : hi < 1000) (hl : row.length < 6) (hf : ∀ f pl, sWh (gB tp) e lo hi (p, row) = .inl (f, pl) → ∀ A', FL f pl A' → OffL rdL A0 A' → K (some (.int (b2i false))) A') (hs : ∀ v, sWh (gB tp) e lo hi (p, row) = .inr ((tkE (gB tp) e p), row ++ [v]) → v < 1000 → ∀ A', RS tp e (tkE (gB tp) e p) (tkS (gB tp) e p) (row ++ [v]) w nm A' → OffL rdL A0 A' → K (some (.int (b2i true))) A') : Ct yX5_takeWhole mX5_takeWhole 2 dC gC [.ref 1, .int (nI lo), .int (nI hi)] A K := by
  refine Ct.of [some (.ref 1), some (.int (nI lo)), some (.int (nI hi))] rfl rfl rfl (Nat.le_of_ble_eq_true rfl) ?_
  refine w_aload_n 1 dX5_takeWhole_0 rfl rfl ?_
  refine w_getr 4 dX5_takeWhole_1 rfl faX5_25 rfl rfl rfl (r := .ref 7) rfl ?_
  refine w_inv0 7 dX5_takeWhole_4 rfl mlX5_69 rfl rfl (d' := 1) (by decide) (Nat.le_of_ble_eq_true rfl) (c_X9_advance hR.1.1 hR.1.2.1 hR.1.2.2.1 hR.1.2.2.2.1 (fun A1 hK hT1 => ?_))
  have hR1 := hR.adv hK hT1
  have hO1 := OffT.r hO hT1
  refine w_aload_n 8 dX5_takeWhole_7 rfl rfl ?_
  refine w_getr 11 dX5_takeWhole_8 rfl faX5_25 rfl rfl rfl (r := .ref 7) rfl ?_
  refine w_getiv 14 dX5_takeWhole_11 rfl faX5_72 rfl rfl rfl hK.2.2.1 ?_
  refine w_iconst 15 dX5_takeWhole_14 rfl (v := nI 2) rfl ?_
  refine w_iceqN 24 18 dX5_takeWhole_15 rfl rfl (by have := tkK_le (gB tp) e p; omega) (by omega) (fun c15 => ?_) (fun c15 => ?_)
  · skip
    have hv := tkV_lt c15
    have hvx := hK.2.2.2.2.2 c15
    refine w_aload_n 25 dX5_takeWhole_24 rfl rfl ?_
    refine w_getr 28 dX5_takeWhole_25 rfl faX5_25 rfl rfl rfl (r := .ref 7) rfl ?_
    refine w_getiv 31 dX5_takeWhole_28 rfl faX5_153 rfl rfl rfl hvx ?_
    refine w_iload_n 32 dX5_takeWhole_31 rfl rfl ?_
    refine w_icltN 46 35 dX5_takeWhole_32 rfl rfl (by omega) (by omega) (fun c32 => ?_) (fun c32 => ?_)
    · skip
      refine w_aload_n 47 dX5_takeWhole_46 rfl rfl ?_
      refine w_iconst 48 dX5_takeWhole_47 rfl (v := nI 4) rfl ?_
      refine w_inv1 51 dX5_takeWhole_48 rfl mlX5_62 rfl rfl (d' := 0) (by decide) (Nat.le_of_ble_eq_true rfl) (c_X5_failR hR1.1.2.2.2.2 hO1 (fun A2 hF hO2 => ?_))
      refine wr_z dX5_takeWhole_51 rfl (by first | rfl | exact nb_b2i _) ?_
      exact kq (hf 4 _ (by unfold sWh; rw [if_pos c15, if_neg (fun z => by have : lo ≤ tkV (gB tp) e p := z.1; omega)]) A2 hF hO2) rfl
    · skip
      refine w_aload_n 36 dX5_takeWhole_35 rfl rfl ?_
      refine w_getr 39 dX5_takeWhole_36 rfl faX5_25 rfl rfl rfl (r := .ref 7) rfl ?_
      refine w_getiv 42 dX5_takeWhole_39 rfl faX5_153 rfl rfl rfl hvx ?_
      refine w_iload_n 43 dX5_takeWhole_42 rfl rfl ?_
      refine w_icleN 52 46 dX5_takeWhole_43 rfl rfl (by omega) (by omega) (fun c43 => ?_) (fun c43 => ?_)
      · skip
        refine w_aload_n 53 dX5_takeWhole_52 rfl rfl ?_
        refine w_aload_n 54 dX5_takeWhole_53 rfl rfl ?_
        refine w_getr 57 dX5_takeWhole_54 rfl faX5_25 rfl rfl rfl (r := .ref 7) rfl ?_
        refine w_getiv 60 dX5_takeWhole_57 rfl faX5_153 rfl rfl rfl hvx ?_
        refine w_inv1 63 dX5_takeWhole_60 rfl mlX5_156 rfl rfl (d' := 0) (by decide) (Nat.le_of_ble_eq_true rfl) (c_X5_put hO1 hR1 hl hv (fun A2 hR2 hO2 => ?_))
        refine wr_z dX5_takeWhole_63 rfl (by first | rfl | exact nb_b2i _) ?_
        exact kq (hs _ (by unfold sWh; rw [if_pos c15, if_pos ⟨by omega, by omega⟩]) hv A2 hR2 hO2) rfl
      · skip
        refine w_aload_n 47 dX5_takeWhole_46 rfl rfl ?_
        refine w_iconst 48 dX5_takeWhole_47 rfl (v := nI 4) rfl ?_
        refine w_inv1 51 dX5_takeWhole_48 rfl mlX5_62 rfl rfl (d' := 0) (by decide) (Nat.le_of_ble_eq_true rfl) (c_X5_failR hR1.1.2.2.2.2 hO1 (fun A2 hF hO2 => ?_))
        refine wr_z dX5_takeWhole_51 rfl (by first | rfl | exact nb_b2i _) ?_
        exact kq (hf 4 _ (by unfold sWh; rw [if_pos c15, if_neg (fun z => by have : tkV (gB tp) e p ≤ hi := z.2; omega)]) A2 hF hO2) rfl
  · skip
    refine w_aload_n 19 dX5_takeWhole_18 rfl rfl ?_
    refine w_iconst 20 dX5_takeWhole_19 rfl (v := nI 1) rfl ?_
    refine w_inv1 23 dX5_takeWhole_20 rfl mlX5_62 rfl rfl (d' := 0) (by decide) (Nat.le_of_ble_eq_true rfl) (c_X5_failR hR1.1.2.2.2.2 hO1 (fun A2 hF hO2 => ?_))
    refine wr_z dX5_takeWhole_23 rfl (by first | rfl | exact nb_b2i _) ?_
    exact kq (hf 1 _ (by unfold sWh; rw [if_neg c15]) A2 hF hO2) rfl

set_option maxRecDepth 4000 in
theorem c_X5_sortOfLine {K : Option Value → AH → Prop} {A : AH} {tp : Nat → Int32} {e p : Nat} (hK : TK tp e p A) (h : K (some (.int (encO (lnS (gB tp) e p)))) A) : Ct yX5_sortOfLine mX5_sortOfLine 5 dC gC [.ref 1] A K := by
  refine Ct.of [some (.ref 1)] rfl rfl rfl (Nat.le_of_ble_eq_true rfl) ?_
  refine w_aload_n 1 dX5_sortOfLine_0 rfl rfl ?_
  refine w_getr 4 dX5_sortOfLine_1 rfl faX5_25 rfl rfl rfl (r := .ref 7) rfl ?_
  refine w_ldcS 6 dX5_sortOfLine_4 rfl srX5_92 ?_
  refine w_inv1 9 dX5_sortOfLine_6 rfl mlX5_94 rfl rfl (d' := 4) (by decide) (Nat.le_of_ble_eq_true rfl) (c_X9_isWordT (by decide) hK ?_)
  refine w_ifeqB 14 12 dX5_sortOfLine_9 rfl rfl (fun c9 => ?_) (fun c9 => ?_)
  · skip
    refine w_aload_n 15 dX5_sortOfLine_14 rfl rfl ?_
    refine w_getr 18 dX5_sortOfLine_15 rfl faX5_25 rfl rfl rfl (r := .ref 7) rfl ?_
    refine w_ldcS 20 dX5_sortOfLine_18 rfl srX5_98 ?_
    refine w_inv1 23 dX5_sortOfLine_20 rfl mlX5_94 rfl rfl (d' := 4) (by decide) (Nat.le_of_ble_eq_true rfl) (c_X9_isWordT (by decide) hK ?_)
    refine w_ifeqB 28 26 dX5_sortOfLine_23 rfl rfl (fun c23 => ?_) (fun c23 => ?_)
    · skip
      refine w_aload_n 29 dX5_sortOfLine_28 rfl rfl ?_
      refine w_getr 32 dX5_sortOfLine_29 rfl faX5_25 rfl rfl rfl (r := .ref 7) rfl ?_
      refine w_ldcS 34 dX5_sortOfLine_32 rfl srX5_100 ?_
      refine w_inv1 37 dX5_sortOfLine_34 rfl mlX5_94 rfl rfl (d' := 4) (by decide) (Nat.le_of_ble_eq_true rfl) (c_X9_isWordT (by decide) hK ?_)
      refine w_ifeqB 42 40 dX5_sortOfLine_37 rfl rfl (fun c37 => ?_) (fun c37 => ?_)
      · skip
        refine w_aload_n 43 dX5_sortOfLine_42 rfl rfl ?_
        refine w_getr 46 dX5_sortOfLine_43 rfl faX5_25 rfl rfl rfl (r := .ref 7) rfl ?_
        refine w_ldcS 48 dX5_sortOfLine_46 rfl srX5_102 ?_
        refine w_inv1 51 dX5_sortOfLine_48 rfl mlX5_94 rfl rfl (d' := 4) (by decide) (Nat.le_of_ble_eq_true rfl) (c_X9_isWordT (by decide) hK ?_)
        refine w_ifeqB 56 54 dX5_sortOfLine_51 rfl rfl (fun c51 => ?_) (fun c51 => ?_)
        · skip
          refine w_aload_n 57 dX5_sortOfLine_56 rfl rfl ?_
          refine w_getr 60 dX5_sortOfLine_57 rfl faX5_25 rfl rfl rfl (r := .ref 7) rfl ?_
          refine w_ldcS 62 dX5_sortOfLine_60 rfl srX5_104 ?_
          refine w_inv1 65 dX5_sortOfLine_62 rfl mlX5_94 rfl rfl (d' := 4) (by decide) (Nat.le_of_ble_eq_true rfl) (c_X9_isWordT (by decide) hK ?_)
          refine w_ifeqB 70 68 dX5_sortOfLine_65 rfl rfl (fun c65 => ?_) (fun c65 => ?_)
          · skip
            refine w_aload_n 71 dX5_sortOfLine_70 rfl rfl ?_
            refine w_getr 74 dX5_sortOfLine_71 rfl faX5_25 rfl rfl rfl (r := .ref 7) rfl ?_
            refine w_ldcS 76 dX5_sortOfLine_74 rfl srX5_106 ?_
            refine w_inv1 79 dX5_sortOfLine_76 rfl mlX5_94 rfl rfl (d' := 4) (by decide) (Nat.le_of_ble_eq_true rfl) (c_X9_isWordT (by decide) hK ?_)
            refine w_ifeqB 84 82 dX5_sortOfLine_79 rfl rfl (fun c79 => ?_) (fun c79 => ?_)
            · skip
              refine w_aload_n 85 dX5_sortOfLine_84 rfl rfl ?_
              refine w_getr 88 dX5_sortOfLine_85 rfl faX5_25 rfl rfl rfl (r := .ref 7) rfl ?_
              refine w_ldcS 90 dX5_sortOfLine_88 rfl srX5_108 ?_
              refine w_inv1 93 dX5_sortOfLine_90 rfl mlX5_94 rfl rfl (d' := 4) (by decide) (Nat.le_of_ble_eq_true rfl) (c_X9_isWordT (by decide) hK ?_)
              refine w_ifeqB 99 96 dX5_sortOfLine_93 rfl rfl (fun c93 => ?_) (fun c93 => ?_)
              · skip
                refine w_aload_n 100 dX5_sortOfLine_99 rfl rfl ?_
                refine w_getr 103 dX5_sortOfLine_100 rfl faX5_25 rfl rfl rfl (r := .ref 7) rfl ?_
                refine w_ldcS 105 dX5_sortOfLine_103 rfl srX5_110 ?_
                refine w_inv1 108 dX5_sortOfLine_105 rfl mlX5_94 rfl rfl (d' := 4) (by decide) (Nat.le_of_ble_eq_true rfl) (c_X9_isWordT (by decide) hK ?_)
                refine w_ifeqB 116 111 dX5_sortOfLine_108 rfl rfl (fun c108 => ?_) (fun c108 => ?_)
                · skip
                  refine w_iconst 117 dX5_sortOfLine_116 rfl (v := (-1)) rfl ?_
                  refine wr_i dX5_sortOfLine_117 rfl ?_
                  exact kq h (by rw [lnS, fst1_none (fun i hi => match i, hi with | 0, _ => c9 | 1, _ => c23 | 2, _ => c37 | 3, _ => c51 | 4, _ => c65 | 5, _ => c79 | 6, _ => c93 | 7, _ => c108 | i + 8, hi => absurd hi (by omega))]; rfl)
                · skip
                  refine w_bipush 113 dX5_sortOfLine_111 rfl (v := nI 7) rfl ?_
                  refine w_goto 117 dX5_sortOfLine_113 rfl ?_
                  refine wr_i dX5_sortOfLine_117 rfl ?_
                  exact kq h (by rw [lnS_some (by decide) (fun i hi => match i, hi with | 0, _ => c9 | 1, _ => c23 | 2, _ => c37 | 3, _ => c51 | 4, _ => c65 | 5, _ => c79 | 6, _ => c93 | i + 7, hi => absurd hi (by omega)) c108]; rfl)
              · skip
                refine w_bipush 98 dX5_sortOfLine_96 rfl (v := nI 6) rfl ?_
                refine wr_i dX5_sortOfLine_98 rfl ?_
                exact kq h (by rw [lnS_some (by decide) (fun i hi => match i, hi with | 0, _ => c9 | 1, _ => c23 | 2, _ => c37 | 3, _ => c51 | 4, _ => c65 | 5, _ => c79 | i + 6, hi => absurd hi (by omega)) c93]; rfl)
            · skip
              refine w_iconst 83 dX5_sortOfLine_82 rfl (v := nI 5) rfl ?_
              refine wr_i dX5_sortOfLine_83 rfl ?_
              exact kq h (by rw [lnS_some (by decide) (fun i hi => match i, hi with | 0, _ => c9 | 1, _ => c23 | 2, _ => c37 | 3, _ => c51 | 4, _ => c65 | i + 5, hi => absurd hi (by omega)) c79]; rfl)
          · skip
            refine w_iconst 69 dX5_sortOfLine_68 rfl (v := nI 4) rfl ?_
            refine wr_i dX5_sortOfLine_69 rfl ?_
            exact kq h (by rw [lnS_some (by decide) (fun i hi => match i, hi with | 0, _ => c9 | 1, _ => c23 | 2, _ => c37 | 3, _ => c51 | i + 4, hi => absurd hi (by omega)) c65]; rfl)
        · skip
          refine w_iconst 55 dX5_sortOfLine_54 rfl (v := nI 3) rfl ?_
          refine wr_i dX5_sortOfLine_55 rfl ?_
          exact kq h (by rw [lnS_some (by decide) (fun i hi => match i, hi with | 0, _ => c9 | 1, _ => c23 | 2, _ => c37 | i + 3, hi => absurd hi (by omega)) c51]; rfl)
      · skip
        refine w_iconst 41 dX5_sortOfLine_40 rfl (v := nI 2) rfl ?_
        refine wr_i dX5_sortOfLine_41 rfl ?_
        exact kq h (by rw [lnS_some (by decide) (fun i hi => match i, hi with | 0, _ => c9 | 1, _ => c23 | i + 2, hi => absurd hi (by omega)) c37]; rfl)
    · skip
      refine w_iconst 27 dX5_sortOfLine_26 rfl (v := nI 1) rfl ?_
      refine wr_i dX5_sortOfLine_27 rfl ?_
      exact kq h (by rw [lnS_some (by decide) (fun i hi => match i, hi with | 0, _ => c9 | i + 1, hi => absurd hi (by omega)) c23]; rfl)
  · skip
    refine w_iconst 13 dX5_sortOfLine_12 rfl (v := nI 0) rfl ?_
    refine wr_i dX5_sortOfLine_13 rfl ?_
    exact kq h (by rw [lnS_some (by decide) (fun i hi => absurd hi (Nat.not_lt_zero i)) c9]; rfl)

set_option maxRecDepth 4000 in
theorem c_X5_takeNewName {K : Option Value → AH → Prop} {A0 A : AH} {tp : Nat → Int32} {e p st : Nat} {row : List Nat} {w : WT} {nm : NT} (hO : OffL rdL A0 A) (hR : RS tp e p st row w nm A) {j : Nat} (hj : j ≤ 2) (h14 : nm.1 < 14) (hk : w.1 j < 8) (hf : ∀ f pl, sFr (gB tp) e nm (p, row) = .inl (f, pl) → ∀ A', FL f pl A' → OffL rdL A0 A' → K (some (.int (b2i false))) A') (hs : sFr (gB tp) e nm (p, row) = .inr ((tkE (gB tp) e p), row) → ∀ A', RS tp e (tkE (gB tp) e p) (tkS (gB tp) e p) row w (nAdd nm (tkC (gB tp) e p) j (w.1 j)) A' → OffL rdL A0 A' → K (some (.int (b2i true))) A') : Ct yX5_takeNewName mX5_takeNewName 6 dC gC [.ref 1, .int (nI j)] A K := by
  refine Ct.of [some (.ref 1), some (.int (nI j))] rfl rfl rfl (Nat.le_of_ble_eq_true rfl) ?_
  refine w_aload_n 1 dX5_takeNewName_0 rfl rfl ?_
  refine w_getr 4 dX5_takeNewName_1 rfl faX5_25 rfl rfl rfl (r := .ref 7) rfl ?_
  refine w_inv0 7 dX5_takeNewName_4 rfl mlX5_69 rfl rfl (d' := 1) (by decide) (Nat.le_of_ble_eq_true rfl) (c_X9_advance hR.1.1 hR.1.2.1 hR.1.2.2.1 hR.1.2.2.2.1 (fun A1 hK hT1 => ?_))
  have hR1 := hR.adv hK hT1
  have hO1 := OffT.r hO hT1
  refine w_aload_n 8 dX5_takeNewName_7 rfl rfl ?_
  refine w_getr 11 dX5_takeNewName_8 rfl faX5_25 rfl rfl rfl (r := .ref 7) rfl ?_
  refine w_getiv 14 dX5_takeNewName_11 rfl faX5_72 rfl rfl rfl hK.2.2.1 ?_
  refine w_iconst 15 dX5_takeNewName_14 rfl (v := nI 1) rfl ?_
  refine w_icneN 26 18 dX5_takeNewName_15 rfl rfl (by have := tkK_le (gB tp) e p; omega) (by omega) (fun c15 => ?_) (fun c15 => ?_)
  · skip
    refine w_aload_n 27 dX5_takeNewName_26 rfl rfl ?_
    refine w_iconst 28 dX5_takeNewName_27 rfl (v := nI 1) rfl ?_
    refine w_inv1 31 dX5_takeNewName_28 rfl mlX5_62 rfl rfl (d' := 0) (by decide) (Nat.le_of_ble_eq_true rfl) (c_X5_failR hR1.1.2.2.2.2 hO1 (fun A2 hF hO2 => ?_))
    refine wr_z dX5_takeNewName_31 rfl (by first | rfl | exact nb_b2i _) ?_
    exact kq (hf 1 _ (by unfold sFr isNm; rw [decide_eq_false c15]; rfl) A2 hF hO2) rfl
  · skip
    have hcl := tkC_lt c15
    have hcx := hK.2.2.2.2.1 c15
    refine w_aload_n 19 dX5_takeNewName_18 rfl rfl ?_
    refine w_inv0 22 dX5_takeNewName_19 rfl mlX5_75 rfl rfl (d' := 5) (by decide) (Nat.le_of_ble_eq_true rfl) (c_X5_sortOfLine hK ?_)
    refine w_iconst 23 dX5_takeNewName_22 rfl (v := (-1)) rfl ?_
    refine w_iceq 32 26 dX5_takeNewName_23 rfl rfl (fun c23 => ?_) (fun c23 => ?_)
    · skip
      have hnm : isNm (gB tp) e p = true := by
        unfold isNm
        rw [decide_eq_true c15]
        cases q : lnS (gB tp) e p with
        | none => rfl
        | some z => rw [q] at c23; exact absurd c23 (nI_m1 (by have := (fst1_lt q).1; omega))
      refine w_aload_n 33 dX5_takeNewName_32 rfl rfl ?_
      refine w_getr 36 dX5_takeNewName_33 rfl faX5_12 rfl rfl rfl (r := .ref 2) rfl ?_
      refine w_aload_n 37 dX5_takeNewName_36 rfl rfl ?_
      refine w_getr 40 dX5_takeNewName_37 rfl faX5_25 rfl rfl rfl (r := .ref 7) rfl ?_
      refine w_getjv 43 dX5_takeNewName_40 rfl faX5_159 rfl rfl rfl hcx ?_
      refine w_inv1 46 dX5_takeNewName_43 rfl mlX5_163 rfl rfl (d' := 0) (by decide) (Nat.le_of_ble_eq_true rfl) (c_X3_isTold hR1.2.2.2.1 hcl ?_)
      refine w_ifeqB 55 49 dX5_takeNewName_46 rfl rfl (fun c46 => ?_) (fun c46 => ?_)
      · skip
        refine w_aload_n 56 dX5_takeNewName_55 rfl rfl ?_
        refine w_getr 59 dX5_takeNewName_56 rfl faX5_12 rfl rfl rfl (r := .ref 2) rfl ?_
        refine w_aload_n 60 dX5_takeNewName_59 rfl rfl ?_
        refine w_getr 63 dX5_takeNewName_60 rfl faX5_25 rfl rfl rfl (r := .ref 7) rfl ?_
        refine w_getjv 66 dX5_takeNewName_63 rfl faX5_159 rfl rfl rfl hcx ?_
        refine w_iload_n 67 dX5_takeNewName_66 rfl rfl ?_
        refine w_aload_n 68 dX5_takeNewName_67 rfl rfl ?_
        refine w_getr 71 dX5_takeNewName_68 rfl faX5_32 rfl rfl rfl (r := .ref 9) rfl ?_
        refine w_iload_n 72 dX5_takeNewName_71 rfl rfl ?_
        refine w_inv1 75 dX5_takeNewName_72 rfl mlX5_58 rfl rfl (d' := 1) (by decide) (Nat.le_of_ble_eq_true rfl) (c_X10_howMany_9 hR1.2.2.1 (by omega) ?_)
        refine w_inv3 78 dX5_takeNewName_75 rfl mlX5_167 rfl rfl (d' := 0) (by decide) (Nat.le_of_ble_eq_true rfl) (c_X3_add hR1.2.2.2.1 h14 hcl hj hk (fun A2 hN2 hO2 => ?_))
        refine w_iconst 79 dX5_takeNewName_78 rfl (v := nI 1) rfl ?_
        refine wr_z dX5_takeNewName_79 rfl (by first | rfl | exact nb_b2i _) ?_
        refine kq (hs (by unfold sFr; rw [if_pos hnm, if_neg (by rw [c46]; decide)]) A2 ?_ (hO1.tr (hO2.mono (by decide)))) rfl
        obtain ⟨⟨h1, h2, h3, h4, h5⟩, ⟨r1, r2, r3, r4⟩, hT, hN, h0⟩ := hR1
        exact ⟨⟨h1.cong (hO2 8 (by decide)).1, by rw [(hO2 7 (by decide)).1]; exact h2, by rw [(hO2 7 (by decide)).1]; exact h3, h4, by rw [(hO2 7 (by decide)).1]; exact h5⟩, ⟨by rw [(hO2 1 (by decide)).1]; exact r1, r2, fun i hi => by rw [(hO2 6 (by decide)).1]; exact r3 i hi, r4⟩, hT.cong (fun x a b => (hO2 x (by simp; omega)).1), hN2, by unfold R0; rw [(hO2 1 (by decide)).1]; exact h0⟩
      · skip
        refine w_aload_n 50 dX5_takeNewName_49 rfl rfl ?_
        refine w_iconst 51 dX5_takeNewName_50 rfl (v := nI 3) rfl ?_
        refine w_inv1 54 dX5_takeNewName_51 rfl mlX5_62 rfl rfl (d' := 0) (by decide) (Nat.le_of_ble_eq_true rfl) (c_X5_failR hR1.1.2.2.2.2 hO1 (fun A2 hF hO2 => ?_))
        refine wr_z dX5_takeNewName_54 rfl (by first | rfl | exact nb_b2i _) ?_
        exact kq (hf 3 _ (by unfold sFr; rw [if_pos hnm, if_pos c46]) A2 hF hO2) rfl
    · skip
      refine w_aload_n 27 dX5_takeNewName_26 rfl rfl ?_
      refine w_iconst 28 dX5_takeNewName_27 rfl (v := nI 1) rfl ?_
      refine w_inv1 31 dX5_takeNewName_28 rfl mlX5_62 rfl rfl (d' := 0) (by decide) (Nat.le_of_ble_eq_true rfl) (c_X5_failR hR1.1.2.2.2.2 hO1 (fun A2 hF hO2 => ?_))
      refine wr_z dX5_takeNewName_31 rfl (by first | rfl | exact nb_b2i _) ?_
      exact kq (hf 1 _ (by unfold sFr isNm; cases q : lnS (gB tp) e p with
        | none => rw [q] at c23; exact absurd rfl c23
        | some z => simp) A2 hF hO2) rfl

set_option maxRecDepth 4000 in
theorem c_X5_takeName {K : Option Value → AH → Prop} {A0 A : AH} {tp : Nat → Int32} {e p st : Nat} {row : List Nat} {w : WT} {nm : NT} (hO : OffL rdL A0 A) (hR : RS tp e p st row w nm A) {j : Nat} (hj : j ≤ 2) (hl : row.length < 6) (hf : ∀ f pl, sNm (gB tp) e nm j (p, row) = .inl (f, pl) → ∀ A', FL f pl A' → OffL rdL A0 A' → K (some (.int (b2i false))) A') (hs : ∀ v, sNm (gB tp) e nm j (p, row) = .inr ((tkE (gB tp) e p), row ++ [v]) → v < 1000 → v < 8 → ∀ A', RS tp e (tkE (gB tp) e p) (tkS (gB tp) e p) (row ++ [v]) w nm A' → OffL rdL A0 A' → K (some (.int (b2i true))) A') : Ct yX5_takeName mX5_takeName 6 dC gC [.ref 1, .int (nI j)] A K := by
  refine Ct.of [some (.ref 1), some (.int (nI j)), none] rfl rfl rfl (Nat.le_of_ble_eq_true rfl) ?_
  refine w_aload_n 1 dX5_takeName_0 rfl rfl ?_
  refine w_getr 4 dX5_takeName_1 rfl faX5_25 rfl rfl rfl (r := .ref 7) rfl ?_
  refine w_inv0 7 dX5_takeName_4 rfl mlX5_69 rfl rfl (d' := 1) (by decide) (Nat.le_of_ble_eq_true rfl) (c_X9_advance hR.1.1 hR.1.2.1 hR.1.2.2.1 hR.1.2.2.2.1 (fun A1 hK hT1 => ?_))
  have hR1 := hR.adv hK hT1
  have hO1 := OffT.r hO hT1
  refine w_aload_n 8 dX5_takeName_7 rfl rfl ?_
  refine w_getr 11 dX5_takeName_8 rfl faX5_25 rfl rfl rfl (r := .ref 7) rfl ?_
  refine w_getiv 14 dX5_takeName_11 rfl faX5_72 rfl rfl rfl hK.2.2.1 ?_
  refine w_iconst 15 dX5_takeName_14 rfl (v := nI 1) rfl ?_
  refine w_icneN 26 18 dX5_takeName_15 rfl rfl (by have := tkK_le (gB tp) e p; omega) (by omega) (fun c15 => ?_) (fun c15 => ?_)
  · skip
    refine w_aload_n 27 dX5_takeName_26 rfl rfl ?_
    refine w_iconst 28 dX5_takeName_27 rfl (v := nI 1) rfl ?_
    refine w_inv1 31 dX5_takeName_28 rfl mlX5_62 rfl rfl (d' := 0) (by decide) (Nat.le_of_ble_eq_true rfl) (c_X5_failR hR1.1.2.2.2.2 hO1 (fun A2 hF hO2 => ?_))
    refine wr_z dX5_takeName_31 rfl (by first | rfl | exact nb_b2i _) ?_
    exact kq (hf 1 _ (by unfold sNm isNm; rw [decide_eq_false c15]; rfl) A2 hF hO2) rfl
  · skip
    have hcl := tkC_lt c15
    have hcx := hK.2.2.2.2.1 c15
    refine w_aload_n 19 dX5_takeName_18 rfl rfl ?_
    refine w_inv0 22 dX5_takeName_19 rfl mlX5_75 rfl rfl (d' := 5) (by decide) (Nat.le_of_ble_eq_true rfl) (c_X5_sortOfLine hK ?_)
    refine w_iconst 23 dX5_takeName_22 rfl (v := (-1)) rfl ?_
    refine w_iceq 32 26 dX5_takeName_23 rfl rfl (fun c23 => ?_) (fun c23 => ?_)
    · skip
      have hnm : isNm (gB tp) e p = true := by
        unfold isNm
        rw [decide_eq_true c15]
        cases q : lnS (gB tp) e p with
        | none => rfl
        | some z => rw [q] at c23; exact absurd c23 (nI_m1 (by have := (fst1_lt q).1; omega))
      refine w_aload_n 33 dX5_takeName_32 rfl rfl ?_
      refine w_getr 36 dX5_takeName_33 rfl faX5_12 rfl rfl rfl (r := .ref 2) rfl ?_
      refine w_aload_n 37 dX5_takeName_36 rfl rfl ?_
      refine w_getr 40 dX5_takeName_37 rfl faX5_25 rfl rfl rfl (r := .ref 7) rfl ?_
      refine w_getjv 43 dX5_takeName_40 rfl faX5_159 rfl rfl rfl hcx ?_
      refine w_iload_n 44 dX5_takeName_43 rfl rfl ?_
      refine w_inv2 47 dX5_takeName_44 rfl mlX5_170 rfl rfl (d' := 0) (by decide) (Nat.le_of_ble_eq_true rfl) (c_X3_numberOf hR1.2.2.2.1 hcl hj ?_)
      refine w_ist2 48 dX5_takeName_47 rfl (by decide) rfl ?_
      refine w_iload_n 49 dX5_takeName_48 rfl rfl ?_
      refine w_iconst 50 dX5_takeName_49 rfl (v := (-1)) rfl ?_
      refine w_icne 61 53 dX5_takeName_50 rfl rfl (fun c50 => ?_) (fun c50 => ?_)
      · skip
        have hex : ∃ k, nNum nm (tkC (gB tp) e p) j = some k := by
          cases q : nNum nm (tkC (gB tp) e p) j with
          | none => rw [q] at c50; exact absurd rfl c50
          | some k => exact ⟨k, rfl⟩
        obtain ⟨k, hk⟩ := hex
        have hk8 := nNum_lt hR1.2.2.2.1.1 hk
        rw [hk]
        refine w_aload_n 62 dX5_takeName_61 rfl rfl ?_
        refine w_iload_n 63 dX5_takeName_62 rfl rfl ?_
        refine w_inv1 66 dX5_takeName_63 rfl mlX5_156 rfl rfl (d' := 0) (by decide) (Nat.le_of_ble_eq_true rfl) (c_X5_put (x := k) hO1 hR1 hl (by omega) (fun A2 hR2 hO2 => ?_))
        refine wr_z dX5_takeName_66 rfl (by first | rfl | exact nb_b2i _) ?_
        exact kq (hs k (by unfold sNm; rw [if_pos hnm, hk]) (by omega) hk8 A2 hR2 hO2) rfl
      · skip
        have hno : nNum nm (tkC (gB tp) e p) j = none := by
          cases q : nNum nm (tkC (gB tp) e p) j with
          | none => rfl
          | some k => rw [q] at c50; exact absurd c50 (nI_m1 (by have := nNum_lt hR1.2.2.2.1.1 q; omega))
        refine w_aload_n 54 dX5_takeName_53 rfl rfl ?_
        refine w_iconst 55 dX5_takeName_54 rfl (v := nI 2) rfl ?_
        refine w_inv1 58 dX5_takeName_55 rfl mlX5_62 rfl rfl (d' := 0) (by decide) (Nat.le_of_ble_eq_true rfl) (c_X5_failR hR1.1.2.2.2.2 hO1 (fun A2 hF hO2 => ?_))
        refine w_goto 66 dX5_takeName_58 rfl ?_
        refine wr_z dX5_takeName_66 rfl (by first | rfl | exact nb_b2i _) ?_
        exact kq (hf 2 _ (by unfold sNm; rw [if_pos hnm, hno]) A2 hF hO2) rfl
    · skip
      refine w_aload_n 27 dX5_takeName_26 rfl rfl ?_
      refine w_iconst 28 dX5_takeName_27 rfl (v := nI 1) rfl ?_
      refine w_inv1 31 dX5_takeName_28 rfl mlX5_62 rfl rfl (d' := 0) (by decide) (Nat.le_of_ble_eq_true rfl) (c_X5_failR hR1.1.2.2.2.2 hO1 (fun A2 hF hO2 => ?_))
      refine wr_z dX5_takeName_31 rfl (by first | rfl | exact nb_b2i _) ?_
      exact kq (hf 1 _ (by unfold sNm isNm; cases q : lnS (gB tp) e p with
        | none => rw [q] at c23; exact absurd rfl c23
        | some z => simp) A2 hF hO2) rfl

