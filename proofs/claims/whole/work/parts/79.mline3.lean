/-! ===== the reference reads: hairs, clashes ===== -/
theorem RepM.a7 {w : WT} {A A' : AH} {row : Nat → Nat} (h : RepM w A) (h111 : ∀ k, k ≠ 8 → k ≠ 9 → k ≠ 10 → A'.1 111 k = A.1 111 k) (h9 : A'.1 111 9 = nI (brM (addW w 7 row))) (hc : A'.1 111 8 = nI (w.1 7 + 1)) (hoff : ∀ x, 112 ≤ x → x ≤ 129 → x ≠ 128 → x ≠ 129 → A'.1 x = A.1 x) (h128 : ∀ i, A'.1 128 i = if i = w.1 7 then nI (row 0) else A.1 128 i) (h129 : ∀ i, A'.1 129 i = if i = w.1 7 then nI (row 1) else A.1 129 i) : RepM (addW w 7 row) A' := by
  obtain ⟨⟨a1, a2, a3⟩, b, c2, c3, c4, c5, c6, c7, c8⟩ := h
  refine ⟨⟨?_, ?_, ?_⟩, ?_, ?_, ?_, ?_, ?_, ?_, ?_, ?_⟩
  · rw [h111 0 (by decide) (by decide) (by decide)]; exact a1
  · rw [h111 1 (by decide) (by decide) (by decide)]; exact a2
  · exact h9
  · intro J h1 h8
    by_cases q : J = 7
    · subst q; rw [hc]; rfl
    · rw [h111 (J + 1) (by omega) (by omega) (by omega), b J h1 h8]
      show nI (w.1 J) = nI (if J = 7 then _ else w.1 J)
      rw [if_neg q]
  · intro k hk
    rw [hoff 112 (by decide) (by decide) (by decide) (by decide), hoff 113 (by decide) (by decide) (by decide) (by decide), hoff 114 (by decide) (by decide) (by decide) (by decide), hoff 115 (by decide) (by decide) (by decide) (by decide), hoff 116 (by decide) (by decide) (by decide) (by decide)]
    exact c2 k hk
  · intro t ht
    rw [hoff 117 (by decide) (by decide) (by decide) (by decide)]
    have e : foesTo (addW w 7 row) t ((addW w 7 row).1 3) = foesTo w t (w.1 3) := foes_eq (w := w) (w' := addW w 7 row) (fun _ _ => rfl) (w.1 3)
    rw [e]
    exact c3 t ht
  · intro k hk
    rw [hoff 118 (by decide) (by decide) (by decide) (by decide), hoff 119 (by decide) (by decide) (by decide) (by decide), hoff 120 (by decide) (by decide) (by decide) (by decide)]
    exact c4 k hk
  · intro k hk
    rw [hoff 121 (by decide) (by decide) (by decide) (by decide), hoff 122 (by decide) (by decide) (by decide) (by decide), hoff 123 (by decide) (by decide) (by decide) (by decide), hoff 124 (by decide) (by decide) (by decide) (by decide)]
    exact c5 k hk
  · intro k hk
    rw [hoff 125 (by decide) (by decide) (by decide) (by decide), hoff 126 (by decide) (by decide) (by decide) (by decide)]
    exact c6 k hk
  · intro k hk
    rw [hoff 127 (by decide) (by decide) (by decide) (by decide)]
    exact c7 k hk
  · intro k hk
    have hk : k < w.1 7 + 1 := hk
    rw [h128, h129]
    by_cases q : k = w.1 7
    · subst q
      rw [if_pos rfl, if_pos rfl, addW_new, addW_new]
      exact ⟨rfl, rfl⟩
    · rw [if_neg q, if_neg q, addW_old (fun z => q z.2), addW_old (fun z => q z.2)]
      exact c8 k (by omega)
theorem RepM.a3 {w : WT} {A A' : AH} {row : Nat → Nat} (h : RepM w A) (h111 : ∀ k, k ≠ 4 → k ≠ 10 → A'.1 111 k = A.1 111 k) (hc : A'.1 111 4 = nI (w.1 3 + 1)) (h117 : ∀ t, t < 7 → A'.1 117 t = nI (foesTo (addW w 3 row) t (w.1 3 + 1))) (hoff : ∀ x, 112 ≤ x → x ≤ 129 → x ≠ 117 → x ≠ 125 → x ≠ 126 → A'.1 x = A.1 x) (h125 : ∀ i, A'.1 125 i = if i = w.1 3 then nI (row 0) else A.1 125 i) (h126 : ∀ i, A'.1 126 i = if i = w.1 3 then nI (row 1) else A.1 126 i) : RepM (addW w 3 row) A' := by
  obtain ⟨⟨a1, a2, a3⟩, b, c2, c3, c4, c5, c6, c7, c8⟩ := h
  refine ⟨⟨?_, ?_, ?_⟩, ?_, ?_, ?_, ?_, ?_, ?_, ?_, ?_⟩
  · rw [h111 0 (by decide) (by decide)]; exact a1
  · rw [h111 1 (by decide) (by decide)]; exact a2
  · rw [h111 9 (by decide) (by decide)]; exact a3
  · intro J h1 h8
    by_cases q : J = 3
    · subst q; rw [hc]; rfl
    · rw [h111 (J + 1) (by omega) (by omega), b J h1 h8]
      show nI (w.1 J) = nI (if J = 3 then _ else w.1 J)
      rw [if_neg q]
  · intro k hk
    rw [hoff 112 (by decide) (by decide) (by decide) (by decide) (by decide), hoff 113 (by decide) (by decide) (by decide) (by decide) (by decide), hoff 114 (by decide) (by decide) (by decide) (by decide) (by decide), hoff 115 (by decide) (by decide) (by decide) (by decide) (by decide), hoff 116 (by decide) (by decide) (by decide) (by decide) (by decide)]
    exact c2 k hk
  · intro t ht
    exact h117 t ht
  · intro k hk
    rw [hoff 118 (by decide) (by decide) (by decide) (by decide) (by decide), hoff 119 (by decide) (by decide) (by decide) (by decide) (by decide), hoff 120 (by decide) (by decide) (by decide) (by decide) (by decide)]
    exact c4 k hk
  · intro k hk
    rw [hoff 121 (by decide) (by decide) (by decide) (by decide) (by decide), hoff 122 (by decide) (by decide) (by decide) (by decide) (by decide), hoff 123 (by decide) (by decide) (by decide) (by decide) (by decide), hoff 124 (by decide) (by decide) (by decide) (by decide) (by decide)]
    exact c5 k hk
  · intro k hk
    have hk : k < w.1 3 + 1 := hk
    rw [h125, h126]
    by_cases q : k = w.1 3
    · subst q
      rw [if_pos rfl, if_pos rfl, addW_new, addW_new]
      exact ⟨rfl, rfl⟩
    · rw [if_neg q, if_neg q, addW_old (fun z => q z.2), addW_old (fun z => q z.2)]
      exact c6 k (by omega)
  · intro k hk
    rw [hoff 127 (by decide) (by decide) (by decide) (by decide) (by decide)]
    exact c7 k hk
  · intro k hk
    rw [hoff 128 (by decide) (by decide) (by decide) (by decide) (by decide), hoff 129 (by decide) (by decide) (by decide) (by decide) (by decide)]
    exact c8 k hk
theorem brM_add {w : WT} {row : Nat → Nat} : brM (addW w 7 row) = if row 2 = 1 then brM w + 2 ^ w.1 7 else brM w := by
  have hk : ∀ m, m ≤ w.1 7 → maskTo (fun k => decide ((addW w 7 row).2 7 k 2 = 1)) m = maskTo (fun k => decide (w.2 7 k 2 = 1)) m := by
    intro m
    induction m with
    | zero => intro _; rfl
    | succ m ih =>
      intro hm
      have e : (addW w 7 row).2 7 m 2 = w.2 7 m 2 := addW_old (fun z => by omega)
      simp only [maskTo, ih (by omega), e]
  show maskTo (fun k => decide ((addW w 7 row).2 7 k 2 = 1)) (w.1 7 + 1) = _
  have e : (addW w 7 row).2 7 (w.1 7) 2 = row 2 := addW_new
  simp only [maskTo, hk _ (Nat.le_refl _), e]
  unfold brM
  by_cases q : row 2 = 1
  · simp [q]
  · simp [q]
theorem foes_add {w : WT} {row : Nat → Nat} {t : Nat} : foesTo (addW w 3 row) t (w.1 3 + 1) = foesTo w t (w.1 3) ||| (if row 0 = t then 2 ^ row 1 else if row 1 = t then 2 ^ row 0 else 0) := by
  have hk : ∀ m, m ≤ w.1 3 → foesTo (addW w 3 row) t m = foesTo w t m := by
    intro m
    induction m with
    | zero => intro _; rfl
    | succ m ih =>
      intro hm
      simp only [foesTo]
      rw [ih (by omega), addW_old (fun z => by omega), addW_old (fun z => by omega)]
  simp only [foesTo]
  rw [hk _ (Nat.le_refl _), addW_new, addW_new]
theorem foes_lt {w : WT} {nm : NT} (hP : PI w nm) {t : Nat} : ∀ k, k ≤ w.1 3 → foesTo w t k < 2 ^ 7
  | 0, _ => by show 0 < 2 ^ 7; decide
  | k + 1, hk => by
    have ih := foes_lt hP (t := t) k (by omega)
    have he := (hP.2.2.1 3 k (by decide) (by omega)).1
    have h2 := hP.1 2 (by decide)
    have hr : roomN 2 = 7 := rfl
    simp only [eOK] at he
    simp only [foesTo]
    refine Nat.or_lt_two_pow ih ?_
    split
    · exact Nat.pow_lt_pow_right (by decide) (by omega)
    · split
      · exact Nat.pow_lt_pow_right (by decide) (by omega)
      · decide
theorem nm_lt {w : WT} {nm : NT} (hP : PI w nm) {g : Nat → Nat} {n j k : Nat} (hj : j = 1 ∨ j = 2) {x : PR} {z : Nat × List Nat} (hl : Ln x k) (h : bindP x (sNm g n nm j) = .inr z) : z.2.getD k 0 < w.1 j := by
  rw [← nk_nm] at h
  cases q : bindP x (sNk g n nm j) with
  | inl u => rw [q] at h; cases h
  | inr u =>
    rw [q] at h
    cases h
    have h9 := nk_lt hP hj hl q
    exact h9
theorem bd_inr {x : PR} {f : Nat × List Nat → PR} {z : Nat × List Nat} (h : bindP x f = .inr z) : ∃ y, x = .inr y ∧ f y = .inr z := by
  cases x with
  | inl q => cases h
  | inr y => exact ⟨y, rfl, h⟩
theorem hw_b {g : Nat → Nat} {n : Nat} {x : PR} (h : tkWx g n x 17 = true) {k : Nat} (hl : Ln x k) : bindP x (sHw g n) = adP g n (bindP x (fun y => .inr (y.1, y.2 ++ [1]))) ∧ ∀ z, bindP x (sHw g n) = .inr z → z.2.getD k 0 = 1 := by
  obtain ⟨y, rfl, h1, _⟩ := tkWx_t h
  have e : bindP (.inr y) (sHw g n) = .inr (tkE g n y.1, y.2 ++ [1]) := by
    show sHw g n y = _
    unfold sHw
    rw [h1]; rfl
  refine ⟨e, fun z hz => ?_⟩
  rw [e] at hz
  cases hz
  have := hl y.1 y.2 rfl
  subst this
  exact getD_last _ _
theorem hw_c {g : Nat → Nat} {n : Nat} {x : PR} (h0 : tkWx g n x 17 = false) (h : tkWx g n x 18 = true) {k : Nat} (hl : Ln x k) : bindP x (sHw g n) = adP g n (bindP x (fun y => .inr (y.1, y.2 ++ [0]))) ∧ ∀ z, bindP x (sHw g n) = .inr z → z.2.getD k 0 = 0 := by
  obtain ⟨y, rfl, h1, _⟩ := tkWx_t h
  have h2 : tkW g n y.1 17 = false := h0
  have e : bindP (.inr y) (sHw g n) = .inr (tkE g n y.1, y.2 ++ [0]) := by
    show sHw g n y = _
    unfold sHw
    rw [h1, h2]; rfl
  refine ⟨e, fun z hz => ?_⟩
  rw [e] at hz
  cases hz
  have := hl y.1 y.2 rfl
  subst this
  exact getD_last _ _
theorem hw_f {g : Nat → Nat} {n : Nat} {x : PR} (h0 : tkWx g n x 17 = false) (h : tkWx g n x 18 = false) : bindP x (sHw g n) = flP g n 1 x := by
  cases x with
  | inl z => rfl
  | inr y =>
    have h1 : tkW g n y.1 17 = false := h0
    have h2 : tkW g n y.1 18 = false := h
    show sHw g n y = _
    unfold sHw
    rw [h1, h2]; rfl
theorem ad_sr {g : Nat → Nat} {n : Nat} {x : PR} {A : AH} {c : Nat} (h : SR g n (adP g n x) A) : SR g n (adP g n (bindP x (fun y => .inr (y.1, y.2 ++ [c])))) A := by cases x <;> exact h
set_option maxRecDepth 4000 in
theorem a_X13_readHair {K : Option Value → AH → Prop} {A : AH} {v : Value} {n p : Nat} {tp : Nat → Int32} {w : WT} {nm : NT} {u1 u2 : Int32} {bw : Bool} (hM : RepM w A) (hN : RN nm A) (hP : PI w nm) (hj : lnS (gB tp) n p = some 7) (hS : SR (gB tp) n (bindP (bindP (bindP (lb0 (gB tp) n w 7 p) (sNm (gB tp) n nm 2)) (sNm (gB tp) n nm 2)) (sHw (gB tp) n)) A) (hV1 : PV (bindP (bindP (bindP (lb0 (gB tp) n w 7 p) (sNm (gB tp) n nm 2)) (sNm (gB tp) n nm 2)) (sHw (gB tp) n)) 0 u1) (hV2 : PV (bindP (bindP (bindP (lb0 (gB tp) n w 7 p) (sNm (gB tp) n nm 2)) (sNm (gB tp) n nm 2)) (sHw (gB tp) n)) 1 u2) (hB : ∀ z, bindP (bindP (bindP (lb0 (gB tp) n w 7 p) (sNm (gB tp) n nm 2)) (sNm (gB tp) n nm 2)) (sHw (gB tp) n) = .inr z → z.2.getD 2 0 = if bw then 1 else 0) (hlp : lineP (gB tp) n w nm p = ofP (gB tp) n w nm 7 p (bindP (lb0 (gB tp) n w 7 p) (fun y => lineB (gB tp) n w nm 7 y.1))) (h : ∀ A', LSx (gB tp) n (lineP (gB tp) n w nm p) A' → FW A A' → K none A') : WP mX13_readHair 9 dM (GG v (.ref 111)) 56 [some (.ref 100), some (.int u1), some (.int u2), some (.int (b2i bw))] [] A K := by
  have hrj := hP.1 7 (by decide)
  have hrn : roomN 7 = 6 := rfl
  have hb1 := hM.2.1 7 (by decide) (by decide)
  refine w_aload_n 57 dX13_readHair_56 rfl rfl ?_
  have hsx := sx_le (g := gB tp) (n := n) (x := bindP (bindP (bindP (lb0 (gB tp) n w 7 p) (sNm (gB tp) n nm 2)) (sNm (gB tp) n nm 2)) (sHw (gB tp) n))
  have hch : lineP (gB tp) n w nm p = ofP (gB tp) n w nm 7 p (bindP (bindP (bindP (lb0 (gB tp) n w 7 p) (sNm (gB tp) n nm 2)) (sNm (gB tp) n nm 2)) (sHw (gB tp) n)) := by
    rw [hlp]
    rw [bindP_as, bindP_as]
    refine congrArg _ ?_
    unfold lb0
    split
    · rfl
    · split <;> rfl
  refine w_getiv 60 dX13_readHair_57 rfl faX13_78 rfl rfl rfl (hS).srt ?_
  refine w_iconst 61 dX13_readHair_60 rfl (v := nI 5) rfl ?_
  refine w_icneN 65 64 dX13_readHair_61 rfl rfl (by omega) (by omega) (fun c61 => ?_) (fun c61 => ?_)
  · skip
    obtain ⟨z, hz⟩ := sx_n5 (by omega : ¬ sx (gB tp) n (bindP (bindP (bindP (lb0 (gB tp) n w 7 p) (sNm (gB tp) n nm 2)) (sNm (gB tp) n nm 2)) (sHw (gB tp) n)) = 5)
    have hLA := SR.la hS hz
    rw [hz] at hch
    have hroom := line_room hj hch
    refine w_aload_n 66 dX13_readHair_65 rfl rfl ?_
    refine w_getr 69 dX13_readHair_66 rfl faX13_149 rfl rfl rfl (r := .ref 111) rfl ?_
    refine w_getr 72 dX13_readHair_69 rfl faX13_328 rfl rfl rfl (r := .ref 128) rfl ?_
    refine w_aload_n 73 dX13_readHair_72 rfl rfl ?_
    refine w_getr 76 dX13_readHair_73 rfl faX13_149 rfl rfl rfl (r := .ref 111) rfl ?_
    refine w_getiv 79 dX13_readHair_76 rfl faX13_321 rfl rfl rfl hb1 ?_
    refine w_iload_n 80 dX13_readHair_79 rfl rfl ?_
    refine w_iastN 81 dX13_readHair_80 rfl rfl rfl (by decide) (by omega) ?_
    refine w_aload_n 82 dX13_readHair_81 rfl rfl ?_
    refine w_getr 85 dX13_readHair_82 rfl faX13_149 rfl rfl rfl (r := .ref 111) rfl ?_
    refine w_getr 88 dX13_readHair_85 rfl faX13_331 rfl rfl rfl (r := .ref 129) rfl ?_
    refine w_aload_n 89 dX13_readHair_88 rfl rfl ?_
    refine w_getr 92 dX13_readHair_89 rfl faX13_149 rfl rfl rfl (r := .ref 111) rfl ?_
    refine w_getiv 95 dX13_readHair_92 rfl faX13_321 rfl rfl rfl (v := nI (w.1 7)) (by dsimp only; rw [upd2_ne (by decide)]; exact hb1) ?_
    refine w_iload_n 96 dX13_readHair_95 rfl rfl ?_
    refine w_iastN 97 dX13_readHair_96 rfl rfl rfl (by decide) (by omega) ?_
    refine w_aload_n 98 dX13_readHair_97 rfl rfl ?_
    refine w_getr 101 dX13_readHair_98 rfl faX13_149 rfl rfl rfl (r := .ref 111) rfl ?_
    refine w_dup_r 102 dX13_readHair_101 rfl ?_
    refine w_getiv 105 dX13_readHair_102 rfl faX13_334 rfl rfl rfl (v := nI (brM w)) (by dsimp only; rw [upd2_ne (by decide), upd2_ne (by decide)]; exact hM.1.2.2) ?_
    refine w_iload_n 106 dX13_readHair_105 rfl rfl ?_
    refine w_ifeqB 121 109 dX13_readHair_106 rfl rfl (fun c106 => ?_) (fun c106 => ?_)
    · skip
      refine w_iconst 122 dX13_readHair_121 rfl (v := nI 0) rfl ?_
      refine w_ior 123 dX13_readHair_122 rfl ?_
      refine w_top (mask_or0 _ _) ?_
      refine w_puti 126 dX13_readHair_123 rfl faX13_334 rfl rfl rfl rfl ?_
      refine w_aload_n 127 dX13_readHair_126 rfl rfl ?_
      refine w_getr 130 dX13_readHair_127 rfl faX13_149 rfl rfl rfl (r := .ref 111) rfl ?_
      refine w_dup_r 131 dX13_readHair_130 rfl ?_
      refine w_getiv 134 dX13_readHair_131 rfl faX13_321 rfl rfl rfl (v := nI (w.1 7)) (by dsimp only; rw [upd2_off (by decide), upd2_ne (by decide), upd2_ne (by decide)]; exact hb1) ?_
      refine w_iconst 135 dX13_readHair_134 rfl (v := nI 1) rfl ?_
      refine w_iaddN 136 dX13_readHair_135 rfl ?_
      refine w_puti 139 dX13_readHair_136 rfl faX13_321 rfl rfl rfl rfl ?_
      refine wr_v dX13_readHair_139 rfl ?_
      obtain ⟨a1, a2, a3⟩ := hV1 z.1 z.2 hz
      obtain ⟨b1, b2, b3⟩ := hV2 z.1 z.2 hz
      have hbw := hB z hz
      rw [c106] at hbw
      have hO : OffL [111, 128, 129] A (upd2 (upd2 (upd2 (upd2 A.1 128 (w.1 7) u1) 129 (w.1 7) u2) 111 9 (nI (brM w))) 111 8 (nI (w.1 7 + 1)), A.2) := (((OffL.rf.upd (by decide) _ _).upd (by decide) _ _).upd (by decide) _ _).upd (by decide) _ _
      have hM9 : RepM (addW w 7 (fun k => z.2.getD k 0)) (upd2 (upd2 (upd2 (upd2 A.1 128 (w.1 7) u1) 129 (w.1 7) u2) 111 9 (nI (brM w))) 111 8 (nI (w.1 7 + 1)), A.2) := RepM.a7 hM (fun k hk h9 _ => by dsimp only; rw [upd2_off hk, upd2_off h9, upd2_ne (by decide), upd2_ne (by decide)]) (by dsimp only; rw [upd2_off (by decide), upd2_at, brM_add, if_neg (show ¬ z.2.getD 2 0 = 1 by rw [hbw]; decide)]) (by dsimp only; rw [upd2_at]) (fun x _ _ e1 e2 => by exact (hO x (by simp; omega)).1) (fun i => by simp only [upd2, a3]; simp) (fun i => by simp only [upd2, b3]; simp)
      refine h _ ?_ (FW.o hO (by decide) (by decide))
      rw [hch]
      exact ⟨hLA.o (hO 100 (by decide)).1 (hO 100 (by decide)).2, hM9, hN.o (by dsimp only; rw [upd2_off (by decide), upd2_off (by decide), upd2_ne (by decide), upd2_ne (by decide)]) (hO 130 (by decide)).2 (hO 131 (by decide)).1 (hO 132 (by decide)).1⟩
    · skip
      refine w_iconst 110 dX13_readHair_109 rfl (v := nI 1) rfl ?_
      refine w_aload_n 111 dX13_readHair_110 rfl rfl ?_
      refine w_getr 114 dX13_readHair_111 rfl faX13_149 rfl rfl rfl (r := .ref 111) rfl ?_
      refine w_getiv 117 dX13_readHair_114 rfl faX13_321 rfl rfl rfl (v := nI (w.1 7)) (by dsimp only; rw [upd2_ne (by decide), upd2_ne (by decide)]; exact hb1) ?_
      refine w_shl1 118 dX13_readHair_117 rfl (by omega) ?_
      refine w_goto 122 dX13_readHair_118 rfl ?_
      refine w_ior 123 dX13_readHair_122 rfl ?_
      refine w_top (mask_or _ _) ?_
      refine w_puti 126 dX13_readHair_123 rfl faX13_334 rfl rfl rfl rfl ?_
      refine w_aload_n 127 dX13_readHair_126 rfl rfl ?_
      refine w_getr 130 dX13_readHair_127 rfl faX13_149 rfl rfl rfl (r := .ref 111) rfl ?_
      refine w_dup_r 131 dX13_readHair_130 rfl ?_
      refine w_getiv 134 dX13_readHair_131 rfl faX13_321 rfl rfl rfl (v := nI (w.1 7)) (by dsimp only; rw [upd2_off (by decide), upd2_ne (by decide), upd2_ne (by decide)]; exact hb1) ?_
      refine w_iconst 135 dX13_readHair_134 rfl (v := nI 1) rfl ?_
      refine w_iaddN 136 dX13_readHair_135 rfl ?_
      refine w_puti 139 dX13_readHair_136 rfl faX13_321 rfl rfl rfl rfl ?_
      refine wr_v dX13_readHair_139 rfl ?_
      obtain ⟨a1, a2, a3⟩ := hV1 z.1 z.2 hz
      obtain ⟨b1, b2, b3⟩ := hV2 z.1 z.2 hz
      have hbw := hB z hz
      rw [c106] at hbw
      have hO : OffL [111, 128, 129] A (upd2 (upd2 (upd2 (upd2 A.1 128 (w.1 7) u1) 129 (w.1 7) u2) 111 9 (nI (brM w + 2 ^ w.1 7))) 111 8 (nI (w.1 7 + 1)), A.2) := (((OffL.rf.upd (by decide) _ _).upd (by decide) _ _).upd (by decide) _ _).upd (by decide) _ _
      have hM9 : RepM (addW w 7 (fun k => z.2.getD k 0)) (upd2 (upd2 (upd2 (upd2 A.1 128 (w.1 7) u1) 129 (w.1 7) u2) 111 9 (nI (brM w + 2 ^ w.1 7))) 111 8 (nI (w.1 7 + 1)), A.2) := RepM.a7 hM (fun k hk h9 _ => by dsimp only; rw [upd2_off hk, upd2_off h9, upd2_ne (by decide), upd2_ne (by decide)]) (by dsimp only; rw [upd2_off (by decide), upd2_at, brM_add, if_pos (show z.2.getD 2 0 = 1 from hbw)]) (by dsimp only; rw [upd2_at]) (fun x _ _ e1 e2 => by exact (hO x (by simp; omega)).1) (fun i => by simp only [upd2, a3]; simp) (fun i => by simp only [upd2, b3]; simp)
      refine h _ ?_ (FW.o hO (by decide) (by decide))
      rw [hch]
      exact ⟨hLA.o (hO 100 (by decide)).1 (hO 100 (by decide)).2, hM9, hN.o (by dsimp only; rw [upd2_off (by decide), upd2_off (by decide), upd2_ne (by decide), upd2_ne (by decide)]) (hO 130 (by decide)).2 (hO 131 (by decide)).1 (hO 132 (by decide)).1⟩
  · skip
    obtain ⟨z, hz⟩ := sx_5 (by omega : sx (gB tp) n (bindP (bindP (bindP (lb0 (gB tp) n w 7 p) (sNm (gB tp) n nm 2)) (sNm (gB tp) n nm 2)) (sHw (gB tp) n)) = 5)
    refine wr_v dX13_readHair_64 rfl ?_
    have h9 := hS
    rw [hz] at h9 hch
    exact h _ (by rw [hch]; exact h9) (FQ.rf.w)

set_option maxRecDepth 4000 in
theorem c_X13_readHair {K : Option Value → AH → Prop} {A : AH} {v : Value} {n p : Nat} {tp : Nat → Int32} {w : WT} {nm : NT} (hT : TA n tp A) (hA : LA (gB tp) n p A) (hM : RepM w A) (hN : RN nm A) (hP : PI w nm) (hj : lnS (gB tp) n p = some 7) (h : ∀ A', LSx (gB tp) n (lineP (gB tp) n w nm p) A' → FW A A' → K none A') : Ct yX13_readHair mX13_readHair 9 dM (GG v (.ref 111)) [.ref 100] A K := by
  refine Ct.of [some (.ref 100), none, none, none] rfl rfl rfl (Nat.le_of_ble_eq_true rfl) ?_
  have hk1 := kind1 hj
  have hr1 := hP.1 1 (by decide)
  have hr2 := hP.1 2 (by decide)
  have hrj := hP.1 7 (by decide)
  have hrn : roomN 7 = 6 := rfl
  have hb1 := hM.2.1 7 (by decide) (by decide)
  have hlp := line_of hP hj (by decide) (by decide)
  refine w_aload_n 1 dX13_readHair_0 rfl rfl ?_
  refine w_aload_n 2 dX13_readHair_1 rfl rfl ?_
  refine w_getr 5 dX13_readHair_2 rfl faX13_149 rfl rfl rfl (r := .ref 111) rfl ?_
  refine w_getiv 8 dX13_readHair_5 rfl faX13_321 rfl rfl rfl hb1 ?_
  refine w_bipush 10 dX13_readHair_8 rfl (v := nI 6) rfl ?_
  refine w_inv2 13 dX13_readHair_10 rfl mlX13_230 rfl rfl (d' := 2) (by decide) (Nat.le_of_ble_eq_true rfl) (c_X13_lineBegins (x := .inr (p, [])) (w := w) (b := roomN 7) hT hA (fun y e => by cases e; rw [hk1]; decide) (hM.sl hP) (by omega) (by decide) (fun A1 hS1 hF1 => ?_))
  refine w_aload_n 14 dX13_readHair_13 rfl rfl ?_
  refine w_iconst 15 dX13_readHair_14 rfl (v := nI 1) rfl ?_
  refine w_inv1 18 dX13_readHair_15 rfl mlX13_182 rfl rfl (d' := 8) (by decide) (Nat.le_of_ble_eq_true rfl) (c_X13_readKnown (x := (lb0 (gB tp) n w 7 p)) (k := 0) (j := 1) (hT.fp hF1) hS1 Ln_0 (hN.fp hF1) (by decide) (fun A2 u1 hS2 hV2 hF2 => ?_))
  have hS2 : SR (gB tp) n (bindP (lb0 (gB tp) n w 7 p) (sNm (gB tp) n nm 2)) A2 := hS2
  have hV2 : PV (bindP (lb0 (gB tp) n w 7 p) (sNm (gB tp) n nm 2)) 0 u1 := hV2
  have hF12 := hF1.q.tr hF2.q
  refine w_ist1 19 dX13_readHair_18 rfl (by decide) rfl ?_
  refine w_aload_n 20 dX13_readHair_19 rfl rfl ?_
  refine w_iconst 21 dX13_readHair_20 rfl (v := nI 1) rfl ?_
  refine w_inv1 24 dX13_readHair_21 rfl mlX13_182 rfl rfl (d' := 8) (by decide) (Nat.le_of_ble_eq_true rfl) (c_X13_readKnown (x := bindP (lb0 (gB tp) n w 7 p) (sNm (gB tp) n nm 2)) (k := 0 + 1) (j := 1) (hT.fq hF12) hS2 (Ln_0.bd (ap_nm _ _ _ _)) (hN.fq hF12) (by decide) (fun A3 u2 hS3 hV3 hF3 => ?_))
  have hS3 : SR (gB tp) n (bindP (bindP (lb0 (gB tp) n w 7 p) (sNm (gB tp) n nm 2)) (sNm (gB tp) n nm 2)) A3 := hS3
  have hV3 : PV (bindP (bindP (lb0 (gB tp) n w 7 p) (sNm (gB tp) n nm 2)) (sNm (gB tp) n nm 2)) 1 u2 := hV3
  have hF13 := hF12.tr hF3.q
  have hl3 : Ln (bindP (bindP (lb0 (gB tp) n w 7 p) (sNm (gB tp) n nm 2)) (sNm (gB tp) n nm 2)) 2 := ((Ln_0.bd (ap_nm _ _ _ _)).bd (ap_nm _ _ _ _))
  refine w_ist2 25 dX13_readHair_24 rfl (by decide) rfl ?_
  refine w_aload_n 26 dX13_readHair_25 rfl rfl ?_
  refine w_ldcwS 29 dX13_readHair_26 rfl srX13_324 ?_
  refine w_inv1 32 dX13_readHair_29 rfl mlX13_125 rfl rfl (d' := 5) (by decide) (Nat.le_of_ble_eq_true rfl) (c_X13_isWord (x := bindP (bindP (lb0 (gB tp) n w 7 p) (sNm (gB tp) n nm 2)) (sNm (gB tp) n nm 2)) (j := 17) (by decide) hS3 ?_)
  refine w_ist3 33 dX13_readHair_32 rfl (by decide) rfl ?_
  refine w_iload_n 34 dX13_readHair_33 rfl rfl ?_
  refine w_ifneB 52 37 dX13_readHair_34 rfl rfl (fun c34 => ?_) (fun c34 => ?_)
  · skip
    refine w_aload_n 53 dX13_readHair_52 rfl rfl ?_
    refine w_inv0 56 dX13_readHair_53 rfl mlX13_114 rfl rfl (d' := 1) (by decide) (Nat.le_of_ble_eq_true rfl) (s_X13_goesOn (hT.fq hF13) (hS3) (fun z e => by obtain ⟨y, e2, _, hk⟩ := tkWx_t c34; rw [e] at e2; cases e2; rw [hk]; decide) (fun A4 hS4 hF4 => ?_))
    have hb := hw_b c34 hl3
    exact a_X13_readHair (hM.fq (hF13.tr hF4.q)) (hN.fq (hF13.tr hF4.q)) hP hj (by rw [hb.1]; exact ad_sr hS4) (PV.bd (PV.bd hV2 (ap_nm _ _ _ _)) (ap_hw _ _)) (PV.bd hV3 (ap_hw _ _)) (fun z e => by rw [c34]; exact hb.2 z e) hlp (fun A5 h5 hF5 => h A5 h5 ((hF13.tr hF4.q).w.tr hF5))
  · skip
    refine w_aload_n 38 dX13_readHair_37 rfl rfl ?_
    refine w_ldcwS 41 dX13_readHair_38 rfl srX13_326 ?_
    refine w_inv1 44 dX13_readHair_41 rfl mlX13_125 rfl rfl (d' := 5) (by decide) (Nat.le_of_ble_eq_true rfl) (c_X13_isWord (x := bindP (bindP (lb0 (gB tp) n w 7 p) (sNm (gB tp) n nm 2)) (sNm (gB tp) n nm 2)) (j := 18) (by decide) hS3 ?_)
    refine w_ifneB 52 47 dX13_readHair_44 rfl rfl (fun c44 => ?_) (fun c44 => ?_)
    · skip
      refine w_aload_n 53 dX13_readHair_52 rfl rfl ?_
      refine w_inv0 56 dX13_readHair_53 rfl mlX13_114 rfl rfl (d' := 1) (by decide) (Nat.le_of_ble_eq_true rfl) (s_X13_goesOn (hT.fq hF13) (hS3) (fun z e => by obtain ⟨y, e2, _, hk⟩ := tkWx_t c44; rw [e] at e2; cases e2; rw [hk]; decide) (fun A4 hS4 hF4 => ?_))
      have hb := hw_c c34 c44 hl3
      exact a_X13_readHair (hM.fq (hF13.tr hF4.q)) (hN.fq (hF13.tr hF4.q)) hP hj (by rw [hb.1]; exact ad_sr hS4) (PV.bd (PV.bd hV2 (ap_nm _ _ _ _)) (ap_hw _ _)) (PV.bd hV3 (ap_hw _ _)) (fun z e => by rw [c34]; exact hb.2 z e) hlp (fun A5 h5 hF5 => h A5 h5 ((hF13.tr hF4.q).w.tr hF5))
    · skip
      refine w_aload_n 48 dX13_readHair_47 rfl rfl ?_
      refine w_iconst 49 dX13_readHair_48 rfl (v := nI 1) rfl ?_
      refine w_inv1 52 dX13_readHair_49 rfl mlX13_117 rfl rfl (d' := 0) (by decide) (Nat.le_of_ble_eq_true rfl) (s_X13_flaw (by decide) hS3 (fun A6 hS6 hF6 => ?_))
      refine w_aload_n 53 dX13_readHair_52 rfl rfl ?_
      refine w_inv0 56 dX13_readHair_53 rfl mlX13_114 rfl rfl (d' := 1) (by decide) (Nat.le_of_ble_eq_true rfl) (s_X13_goesOn (hT.fq (hF13.tr hF6.q)) (hS6) (fl_k) (fun A4 hS4 hF4 => ?_))
      have hb := hw_f c34 c44
      rw [flP_ad] at hS4
      exact a_X13_readHair (hM.fq ((hF13.tr hF6.q).tr hF4.q)) (hN.fq ((hF13.tr hF6.q).tr hF4.q)) hP hj (by rw [hb]; exact hS4) (PV.bd (PV.bd hV2 (ap_nm _ _ _ _)) (ap_hw _ _)) (PV.bd hV3 (ap_hw _ _)) (fun z e => absurd e (by rw [hb]; cases bindP (bindP (lb0 (gB tp) n w 7 p) (sNm (gB tp) n nm 2)) (sNm (gB tp) n nm 2) <;> exact fun q => by cases q)) hlp (fun A5 h5 hF5 => h A5 h5 (((hF13.tr hF6.q).tr hF4.q).w.tr hF5))

set_option maxRecDepth 4000 in
theorem a_X13_readClash {K : Option Value → AH → Prop} {A : AH} {v : Value} {n p : Nat} {tp : Nat → Int32} {w : WT} {nm : NT} {t u : Nat} (hM : RepM w A) (hN : RN nm A) (hP : PI w nm) (hj : lnS (gB tp) n p = some 3) (ht : t < 7) (hu : u < 7) (htu : t ≠ u) (hS : SR (gB tp) n (bindP (bindP (lb0 (gB tp) n w 3 p) (sNm (gB tp) n nm 2)) (sNmC (gB tp) n nm 2 (badC w))) A) {z : Nat × List Nat} (hz : bindP (bindP (lb0 (gB tp) n w 3 p) (sNm (gB tp) n nm 2)) (sNmC (gB tp) n nm 2 (badC w)) = .inr z) (hV1 : z.2.getD 0 0 = t) (hV2 : z.2.getD 1 0 = u) (hlp : lineP (gB tp) n w nm p = ofP (gB tp) n w nm 3 p (bindP (lb0 (gB tp) n w 3 p) (fun y => lineB (gB tp) n w nm 3 y.1))) (h : ∀ A', LSx (gB tp) n (lineP (gB tp) n w nm p) A' → FW A A' → K none A') : WP mX13_readClash 9 dM (GG v (.ref 111)) 72 [some (.ref 100), some (.int (nI t)), some (.int (nI u))] [] A K := by
  have hrn : roomN 3 = 8 := rfl
  have hb1 := hM.2.1 3 (by decide) (by decide)
  have hch : lineP (gB tp) n w nm p = ofP (gB tp) n w nm 3 p (bindP (bindP (lb0 (gB tp) n w 3 p) (sNm (gB tp) n nm 2)) (sNmC (gB tp) n nm 2 (badC w))) := by
    rw [hlp]
    rw [bindP_as]
    refine congrArg _ ?_
    unfold lb0
    split
    · rfl
    · split <;> rfl
  have hLA := SR.la hS hz
  rw [hz] at hch
  have hroom := line_room hj hch
  refine w_aload_n 73 dX13_readClash_72 rfl rfl ?_
  refine w_getr 76 dX13_readClash_73 rfl faX13_149 rfl rfl rfl (r := .ref 111) rfl ?_
  refine w_getr 79 dX13_readClash_76 rfl faX13_274 rfl rfl rfl (r := .ref 117) rfl ?_
  refine w_iload_n 80 dX13_readClash_79 rfl rfl ?_
  refine w_dup2 81 dX13_readClash_80 rfl ?_
  refine w_ialdv 82 dX13_readClash_81 rfl rfl rfl (by decide) (by omega) (hM.2.2.2.1 t ht) ?_
  refine w_iconst 83 dX13_readClash_82 rfl (v := nI 1) rfl ?_
  refine w_iload_n 84 dX13_readClash_83 rfl rfl ?_
  refine w_shl1 85 dX13_readClash_84 rfl (by omega) ?_
  refine w_ior 86 dX13_readClash_85 rfl ?_
  refine w_top (nI_or _ _) ?_
  refine w_iastN 87 dX13_readClash_86 rfl rfl rfl (by decide) (by omega) ?_
  refine w_aload_n 88 dX13_readClash_87 rfl rfl ?_
  refine w_getr 91 dX13_readClash_88 rfl faX13_149 rfl rfl rfl (r := .ref 111) rfl ?_
  refine w_getr 94 dX13_readClash_91 rfl faX13_274 rfl rfl rfl (r := .ref 117) rfl ?_
  refine w_iload_n 95 dX13_readClash_94 rfl rfl ?_
  refine w_dup2 96 dX13_readClash_95 rfl ?_
  refine w_ialdv 97 dX13_readClash_96 rfl rfl rfl (by decide) (by omega) (v := nI (foesTo w u (w.1 3))) (by dsimp only; rw [upd2_off (Ne.symm htu)]; exact hM.2.2.2.1 u hu) ?_
  refine w_iconst 98 dX13_readClash_97 rfl (v := nI 1) rfl ?_
  refine w_iload_n 99 dX13_readClash_98 rfl rfl ?_
  refine w_shl1 100 dX13_readClash_99 rfl (by omega) ?_
  refine w_ior 101 dX13_readClash_100 rfl ?_
  refine w_top (nI_or _ _) ?_
  refine w_iastN 102 dX13_readClash_101 rfl rfl rfl (by decide) (by omega) ?_
  refine w_aload_n 103 dX13_readClash_102 rfl rfl ?_
  refine w_getr 106 dX13_readClash_103 rfl faX13_149 rfl rfl rfl (r := .ref 111) rfl ?_
  refine w_getr 109 dX13_readClash_106 rfl faX13_281 rfl rfl rfl (r := .ref 125) rfl ?_
  refine w_aload_n 110 dX13_readClash_109 rfl rfl ?_
  refine w_getr 113 dX13_readClash_110 rfl faX13_149 rfl rfl rfl (r := .ref 111) rfl ?_
  refine w_getiv 116 dX13_readClash_113 rfl faX13_271 rfl rfl rfl (v := nI (w.1 3)) (by dsimp only; rw [upd2_ne (by decide), upd2_ne (by decide)]; exact hb1) ?_
  refine w_iload_n 117 dX13_readClash_116 rfl rfl ?_
  refine w_iastN 118 dX13_readClash_117 rfl rfl rfl (by decide) (by omega) ?_
  refine w_aload_n 119 dX13_readClash_118 rfl rfl ?_
  refine w_getr 122 dX13_readClash_119 rfl faX13_149 rfl rfl rfl (r := .ref 111) rfl ?_
  refine w_getr 125 dX13_readClash_122 rfl faX13_284 rfl rfl rfl (r := .ref 126) rfl ?_
  refine w_aload_n 126 dX13_readClash_125 rfl rfl ?_
  refine w_getr 129 dX13_readClash_126 rfl faX13_149 rfl rfl rfl (r := .ref 111) rfl ?_
  refine w_getiv 132 dX13_readClash_129 rfl faX13_271 rfl rfl rfl (v := nI (w.1 3)) (by dsimp only; rw [upd2_ne (by decide), upd2_ne (by decide), upd2_ne (by decide)]; exact hb1) ?_
  refine w_iload_n 133 dX13_readClash_132 rfl rfl ?_
  refine w_iastN 134 dX13_readClash_133 rfl rfl rfl (by decide) (by omega) ?_
  refine w_aload_n 135 dX13_readClash_134 rfl rfl ?_
  refine w_getr 138 dX13_readClash_135 rfl faX13_149 rfl rfl rfl (r := .ref 111) rfl ?_
  refine w_dup_r 139 dX13_readClash_138 rfl ?_
  refine w_getiv 142 dX13_readClash_139 rfl faX13_271 rfl rfl rfl (v := nI (w.1 3)) (by dsimp only; rw [upd2_ne (by decide), upd2_ne (by decide), upd2_ne (by decide), upd2_ne (by decide)]; exact hb1) ?_
  refine w_iconst 143 dX13_readClash_142 rfl (v := nI 1) rfl ?_
  refine w_iaddN 144 dX13_readClash_143 rfl ?_
  refine w_puti 147 dX13_readClash_144 rfl faX13_271 rfl rfl rfl rfl ?_
  refine wr_v dX13_readClash_147 rfl ?_
  have hO : OffL [111, 117, 125, 126] A (upd2 (upd2 (upd2 (upd2 (upd2 A.1 117 t (nI (foesTo w t (w.1 3) ||| 2 ^ u))) 117 u (nI (foesTo w u (w.1 3) ||| 2 ^ t))) 125 (w.1 3) (nI t)) 126 (w.1 3) (nI u)) 111 4 (nI (w.1 3 + 1)), A.2) := ((((OffL.rf.upd (by decide) _ _).upd (by decide) _ _).upd (by decide) _ _).upd (by decide) _ _).upd (by decide) _ _
  have hM9 : RepM (addW w 3 (fun k => z.2.getD k 0)) (upd2 (upd2 (upd2 (upd2 (upd2 A.1 117 t (nI (foesTo w t (w.1 3) ||| 2 ^ u))) 117 u (nI (foesTo w u (w.1 3) ||| 2 ^ t))) 125 (w.1 3) (nI t)) 126 (w.1 3) (nI u)) 111 4 (nI (w.1 3 + 1)), A.2) := RepM.a3 hM (fun k hk _ => by dsimp only; rw [upd2_off hk, upd2_ne (by decide), upd2_ne (by decide), upd2_ne (by decide), upd2_ne (by decide)]) (by dsimp only; rw [upd2_at]) (fun t' ht' => by
    dsimp only
    rw [upd2_ne (by decide), upd2_ne (by decide), upd2_ne (by decide), foes_add, hV1, hV2]
    by_cases q : t' = u
    · subst q; rw [upd2_at, if_neg htu, if_pos rfl]
    · rw [upd2_off q, if_neg (show ¬ u = t' from fun e => q e.symm)]
      by_cases q2 : t' = t
      · subst q2; rw [upd2_at, if_pos rfl]
      · rw [upd2_off q2, if_neg (fun e => q2 e.symm), Nat.or_zero]; exact hM.2.2.2.1 t' ht') (fun x _ _ e0 e1 e2 => by exact (hO x (by simp; omega)).1) (fun i => by simp only [upd2, hV1]; simp) (fun i => by simp only [upd2, hV2]; simp)
  refine h _ ?_ (FW.o hO (by decide) (by decide))
  rw [hch]
  exact ⟨hLA.o (hO 100 (by decide)).1 (hO 100 (by decide)).2, hM9, hN.o (by dsimp only; rw [upd2_off (by decide), upd2_ne (by decide), upd2_ne (by decide), upd2_ne (by decide), upd2_ne (by decide)]) (hO 130 (by decide)).2 (hO 131 (by decide)).1 (hO 132 (by decide)).1⟩

set_option maxRecDepth 4000 in
theorem c_X13_readClash {K : Option Value → AH → Prop} {A : AH} {v : Value} {n p : Nat} {tp : Nat → Int32} {w : WT} {nm : NT} (hT : TA n tp A) (hA : LA (gB tp) n p A) (hM : RepM w A) (hN : RN nm A) (hP : PI w nm) (hj : lnS (gB tp) n p = some 3) (h : ∀ A', LSx (gB tp) n (lineP (gB tp) n w nm p) A' → FW A A' → K none A') : Ct yX13_readClash mX13_readClash 9 dM (GG v (.ref 111)) [.ref 100] A K := by
  refine Ct.of [some (.ref 100), none, none] rfl rfl rfl (Nat.le_of_ble_eq_true rfl) ?_
  have hk1 := kind1 hj
  have hr1 := hP.1 1 (by decide)
  have hr2 := hP.1 2 (by decide)
  have hrj := hP.1 3 (by decide)
  have hrn : roomN 3 = 8 := rfl
  have hb1 := hM.2.1 3 (by decide) (by decide)
  have hlp := line_of hP hj (by decide) (by decide)
  refine w_aload_n 1 dX13_readClash_0 rfl rfl ?_
  refine w_aload_n 2 dX13_readClash_1 rfl rfl ?_
  refine w_getr 5 dX13_readClash_2 rfl faX13_149 rfl rfl rfl (r := .ref 111) rfl ?_
  refine w_getiv 8 dX13_readClash_5 rfl faX13_271 rfl rfl rfl hb1 ?_
  refine w_bipush 10 dX13_readClash_8 rfl (v := nI 8) rfl ?_
  refine w_inv2 13 dX13_readClash_10 rfl mlX13_230 rfl rfl (d' := 2) (by decide) (Nat.le_of_ble_eq_true rfl) (c_X13_lineBegins (x := .inr (p, [])) (w := w) (b := roomN 3) hT hA (fun y e => by cases e; rw [hk1]; decide) (hM.sl hP) (by omega) (by decide) (fun A1 hS1 hF1 => ?_))
  refine w_aload_n 14 dX13_readClash_13 rfl rfl ?_
  refine w_iconst 15 dX13_readClash_14 rfl (v := nI 1) rfl ?_
  refine w_inv1 18 dX13_readClash_15 rfl mlX13_182 rfl rfl (d' := 8) (by decide) (Nat.le_of_ble_eq_true rfl) (c_X13_readKnown (x := (lb0 (gB tp) n w 3 p)) (k := 0) (j := 1) (hT.fp hF1) hS1 Ln_0 (hN.fp hF1) (by decide) (fun A2 u1 hS2 hV2 hF2 => ?_))
  have hS2 : SR (gB tp) n (bindP (lb0 (gB tp) n w 3 p) (sNm (gB tp) n nm 2)) A2 := hS2
  have hV2 : PV (bindP (lb0 (gB tp) n w 3 p) (sNm (gB tp) n nm 2)) 0 u1 := hV2
  have hF12 := hF1.q.tr hF2.q
  have hl2 : Ln (bindP (lb0 (gB tp) n w 3 p) (sNm (gB tp) n nm 2)) 1 := Ln_0.bd (ap_nm _ _ _ _)
  refine w_ist1 19 dX13_readClash_18 rfl (by decide) rfl ?_
  refine w_aload_n 20 dX13_readClash_19 rfl rfl ?_
  refine w_iconst 21 dX13_readClash_20 rfl (v := nI 1) rfl ?_
  refine w_inv1 24 dX13_readClash_21 rfl mlX13_179 rfl rfl (d' := 7) (by decide) (Nat.le_of_ble_eq_true rfl) (c_X13_knownOne (x := bindP (lb0 (gB tp) n w 3 p) (sNm (gB tp) n nm 2)) (k := 0 + 1) (j := 1) (hT.fq hF12) hS2 (Ln_0.bd (ap_nm _ _ _ _)) (hN.fq hF12) (by decide) (fun A3 u2 hS3 hV3 hF3 => ?_))
  have hS3 : SR (gB tp) n (bindP (bindP (lb0 (gB tp) n w 3 p) (sNm (gB tp) n nm 2)) (sNk (gB tp) n nm 2)) A3 := hS3
  have hV3 : PV (bindP (bindP (lb0 (gB tp) n w 3 p) (sNm (gB tp) n nm 2)) (sNk (gB tp) n nm 2)) 1 u2 := hV3
  have hF13 := hF12.tr hF3.q
  have hl3 : Ln (bindP (bindP (lb0 (gB tp) n w 3 p) (sNm (gB tp) n nm 2)) (sNk (gB tp) n nm 2)) (0 + 1 + 1) := hl2.bd (ap_nk _ _ _ _)
  have hV1 : PV (bindP (bindP (lb0 (gB tp) n w 3 p) (sNm (gB tp) n nm 2)) (sNk (gB tp) n nm 2)) 0 u1 := PV.bd hV2 (ap_nk _ _ _ _)
  have hsy := sx_le (g := gB tp) (n := n) (x := bindP (bindP (lb0 (gB tp) n w 3 p) (sNm (gB tp) n nm 2)) (sNk (gB tp) n nm 2))
  refine w_ist2 25 dX13_readClash_24 rfl (by decide) rfl ?_
  refine w_aload_n 26 dX13_readClash_25 rfl rfl ?_
  refine w_getiv 29 dX13_readClash_26 rfl faX13_78 rfl rfl rfl hS3.srt ?_
  refine w_iconst 30 dX13_readClash_29 rfl (v := nI 5) rfl ?_
  refine w_iceqN 59 33 dX13_readClash_30 rfl rfl (by omega) (by omega) (fun c30 => ?_) (fun c30 => ?_)
  · skip
    obtain ⟨z, hz⟩ := sx_5 (by omega : sx (gB tp) n (bindP (bindP (lb0 (gB tp) n w 3 p) (sNm (gB tp) n nm 2)) (sNk (gB tp) n nm 2)) = 5)
    have er : bindP (bindP (lb0 (gB tp) n w 3 p) (sNm (gB tp) n nm 2)) (sNmC (gB tp) n nm 2 (badC w)) = .inl z := by rw [nmC_nk, hz]; rfl
    rw [hz] at hS3
    refine w_aload_n 60 dX13_readClash_59 rfl rfl ?_
    refine w_inv0 63 dX13_readClash_60 rfl mlX13_114 rfl rfl (d' := 1) (by decide) (Nat.le_of_ble_eq_true rfl) (s_X13_goesOn (hT.fq hF13) (hS3) (fun y e => by cases e) (fun A4 hS4 hF4 => ?_))
    refine w_aload_n 64 dX13_readClash_63 rfl rfl ?_
    refine w_getiv 67 dX13_readClash_64 rfl faX13_78 rfl rfl rfl (v := nI 5) hS4.1 ?_
    refine w_iconst 68 dX13_readClash_67 rfl (v := nI 5) rfl ?_
    refine w_icneN 72 71 dX13_readClash_68 rfl rfl (by omega) (by omega) (fun c68 => (by omega)) (fun c68 => ?_)
    refine wr_v dX13_readClash_71 rfl ?_
    have hch : lineP (gB tp) n w nm p = ofP (gB tp) n w nm 3 p (bindP (bindP (lb0 (gB tp) n w 3 p) (sNm (gB tp) n nm 2)) (sNmC (gB tp) n nm 2 (badC w))) := by
      rw [hlp]
      rw [bindP_as]
      refine congrArg _ ?_
      unfold lb0
      split
      · rfl
      · split <;> rfl
    rw [er] at hch
    exact h _ (by rw [hch]; exact hS4) ((hF13.tr hF4.q).w)
  · skip
    obtain ⟨z, hz⟩ := sx_n5 (by omega : ¬ sx (gB tp) n (bindP (bindP (lb0 (gB tp) n w 3 p) (sNm (gB tp) n nm 2)) (sNk (gB tp) n nm 2)) = 5)
    obtain ⟨a1, a2, a3⟩ := hV1 z.1 z.2 hz
    obtain ⟨b1, b2, b3⟩ := hV3 z.1 z.2 hz
    have hzk := nk_k z hz
    have hul : z.2.getD 1 0 < w.1 2 := nk_lt hP (Or.inr rfl) hl2 hz
    obtain ⟨z1, hz1, hz2⟩ := bd_inr hz
    have htl : z.2.getD 0 0 < w.1 2 := by
      have h6 := nm_lt hP (Or.inr rfl) Ln_0 hz1
      obtain ⟨t', h7, _⟩ := ap_nk _ _ _ _ z1 z hz2
      rw [h7, getD_app (by rw [hl2 z1.1 z1.2 hz1]; decide)]
      exact h6
    have hr2v : roomN 2 = 7 := rfl
    have hbu : badU z.2 = decide (z.2.getD 1 0 = z.2.getD 0 0) := badU_2 (k := 0) (hl3 z.1 z.2 hz)
    have hfl := foes_lt hP (t := z.2.getD 0 0) (w.1 3) (Nat.le_refl _)
    rw [hz] at hS3
    subst a3
    subst b3
    refine w_iload_n 34 dX13_readClash_33 rfl rfl ?_
    refine w_iload_n 35 dX13_readClash_34 rfl rfl ?_
    refine w_iceqN 54 38 dX13_readClash_35 rfl rfl (by omega) (by omega) (fun c35 => ?_) (fun c35 => ?_)
    · skip
      refine w_aload_n 55 dX13_readClash_54 rfl rfl ?_
      refine w_iconst 56 dX13_readClash_55 rfl (v := nI 3) rfl ?_
      refine w_inv1 59 dX13_readClash_56 rfl mlX13_117 rfl rfl (d' := 0) (by decide) (Nat.le_of_ble_eq_true rfl) (s_X13_flaw (by decide) hS3 (fun A6 hS6 hF6 => ?_))
      refine w_aload_n 60 dX13_readClash_59 rfl rfl ?_
      refine w_inv0 63 dX13_readClash_60 rfl mlX13_114 rfl rfl (d' := 1) (by decide) (Nat.le_of_ble_eq_true rfl) (s_X13_goesOn (hT.fq (hF13.tr hF6.q)) (hS6) (fl_k) (fun A4 hS4 hF4 => ?_))
      have hq : badC w z.2 = true := by
        unfold badC
        rw [hbu, decide_eq_true c35.symm, Bool.true_or]
      have er : bindP (bindP (lb0 (gB tp) n w 3 p) (sNm (gB tp) n nm 2)) (sNmC (gB tp) n nm 2 (badC w)) = .inl (3, tkS (gB tp) n z.1) := by
        rw [nmC_nk, hz]
        show (if badC w z.2 then _ else _) = _
        rw [hq]; rfl
      
      refine w_aload_n 64 dX13_readClash_63 rfl rfl ?_
      refine w_getiv 67 dX13_readClash_64 rfl faX13_78 rfl rfl rfl (v := nI 5) hS4.1 ?_
      refine w_iconst 68 dX13_readClash_67 rfl (v := nI 5) rfl ?_
      refine w_icneN 72 71 dX13_readClash_68 rfl rfl (by omega) (by omega) (fun c68 => (by omega)) (fun c68 => ?_)
      refine wr_v dX13_readClash_71 rfl ?_
      have hch : lineP (gB tp) n w nm p = ofP (gB tp) n w nm 3 p (bindP (bindP (lb0 (gB tp) n w 3 p) (sNm (gB tp) n nm 2)) (sNmC (gB tp) n nm 2 (badC w))) := by
        rw [hlp]
        rw [bindP_as]
        refine congrArg _ ?_
        unfold lb0
        split
        · rfl
        · split <;> rfl
      rw [er] at hch
      exact h _ (by rw [hch]; exact hS4) (((hF13.tr hF6.q).tr hF4.q).w)
    · skip
      refine w_aload_n 39 dX13_readClash_38 rfl rfl ?_
      refine w_getr 42 dX13_readClash_39 rfl faX13_149 rfl rfl rfl (r := .ref 111) rfl ?_
      refine w_getr 45 dX13_readClash_42 rfl faX13_274 rfl rfl rfl (r := .ref 117) rfl ?_
      refine w_iload_n 46 dX13_readClash_45 rfl rfl ?_
      refine w_ialdv 47 dX13_readClash_46 rfl rfl rfl (by decide) (by omega) ((hM.fq hF13).2.2.2.1 _ (by omega)) ?_
      refine w_iload_n 48 dX13_readClash_47 rfl rfl ?_
      refine w_invs2 51 dX13_readClash_48 rfl slX13_277 (d' := 0) (by decide) (Nat.le_of_ble_eq_true rfl) (c_X13_bit ?_)
      rw [hasB_nI (by omega) (by omega)]
      refine w_ifeqB 59 54 dX13_readClash_51 rfl rfl (fun c51 => ?_) (fun c51 => ?_)
      · skip
        refine w_aload_n 60 dX13_readClash_59 rfl rfl ?_
        refine w_inv0 63 dX13_readClash_60 rfl mlX13_114 rfl rfl (d' := 1) (by decide) (Nat.le_of_ble_eq_true rfl) (s_X13_goesOn (hT.fq hF13) (hS3) (fun y e => by cases e; exact hzk) (fun A4 hS4 hF4 => ?_))
        have hq : badC w z.2 = false := by
          unfold badC
          rw [hbu, c51, decide_eq_false (fun e => c35 e.symm)]
          rfl
        have er : bindP (bindP (lb0 (gB tp) n w 3 p) (sNm (gB tp) n nm 2)) (sNmC (gB tp) n nm 2 (badC w)) = .inr (tkE (gB tp) n z.1, z.2) := by
          rw [nmC_nk, hz]
          show (if badC w z.2 then _ else _) = _
          rw [hq]; rfl
        refine w_aload_n 64 dX13_readClash_63 rfl rfl ?_
        refine w_getiv 67 dX13_readClash_64 rfl faX13_78 rfl rfl rfl hS4.2.1 ?_
        refine w_iconst 68 dX13_readClash_67 rfl (v := nI 5) rfl ?_
        refine w_icneN 72 71 dX13_readClash_68 rfl rfl (Nat.lt_trans srt_lt (by decide)) (by omega) (fun c68 => ?_) (fun c68 => (by exact absurd c68 (Nat.ne_of_lt srt_lt)))
        exact a_X13_readClash (z := (tkE (gB tp) n z.1, z.2)) (hM.fq (hF13.tr hF4.q)) (hN.fq (hF13.tr hF4.q)) hP hj (by omega) (by omega) c35 (by rw [er]; exact hS4) er rfl rfl hlp (fun A5 h5 hF5 => h A5 h5 ((hF13.tr hF4.q).w.tr hF5))
      · skip
        refine w_aload_n 55 dX13_readClash_54 rfl rfl ?_
        refine w_iconst 56 dX13_readClash_55 rfl (v := nI 3) rfl ?_
        refine w_inv1 59 dX13_readClash_56 rfl mlX13_117 rfl rfl (d' := 0) (by decide) (Nat.le_of_ble_eq_true rfl) (s_X13_flaw (by decide) hS3 (fun A6 hS6 hF6 => ?_))
        refine w_aload_n 60 dX13_readClash_59 rfl rfl ?_
        refine w_inv0 63 dX13_readClash_60 rfl mlX13_114 rfl rfl (d' := 1) (by decide) (Nat.le_of_ble_eq_true rfl) (s_X13_goesOn (hT.fq (hF13.tr hF6.q)) (hS6) (fl_k) (fun A4 hS4 hF4 => ?_))
        have hq : badC w z.2 = true := by
          unfold badC
          rw [c51, Bool.or_true]
        have er : bindP (bindP (lb0 (gB tp) n w 3 p) (sNm (gB tp) n nm 2)) (sNmC (gB tp) n nm 2 (badC w)) = .inl (3, tkS (gB tp) n z.1) := by
          rw [nmC_nk, hz]
          show (if badC w z.2 then _ else _) = _
          rw [hq]; rfl
        
        refine w_aload_n 64 dX13_readClash_63 rfl rfl ?_
        refine w_getiv 67 dX13_readClash_64 rfl faX13_78 rfl rfl rfl (v := nI 5) hS4.1 ?_
        refine w_iconst 68 dX13_readClash_67 rfl (v := nI 5) rfl ?_
        refine w_icneN 72 71 dX13_readClash_68 rfl rfl (by omega) (by omega) (fun c68 => (by omega)) (fun c68 => ?_)
        refine wr_v dX13_readClash_71 rfl ?_
        have hch : lineP (gB tp) n w nm p = ofP (gB tp) n w nm 3 p (bindP (bindP (lb0 (gB tp) n w 3 p) (sNm (gB tp) n nm 2)) (sNmC (gB tp) n nm 2 (badC w))) := by
          rw [hlp]
          rw [bindP_as]
          refine congrArg _ ?_
          unfold lb0
          split
          · rfl
          · split <;> rfl
        rw [er] at hch
        exact h _ (by rw [hch]; exact hS4) (((hF13.tr hF6.q).tr hF4.q).w)

