/-! ===== clerks over years ===== -/
def clk (s : Nat → Nat) (c d : Nat) : Nat → Nat × Nat
  | 0 => (d, 0)
  | y + 1 => cyT s (y + 1) c (clk s c d y) (s 1)
theorem clk_ok {s : Nat → Nat} {c d : Nat} (hs : s 1 ≤ 8) (hd : d < 65537) : ∀ y, (clk s c d y).1 < 65537 ∧ (clk s c d y).2 < 256
  | 0 => ⟨hd, show 0 < 256 by decide⟩
  | y + 1 => cyT_ok (clk_ok hs hd y).1 (clk_ok hs hd y).2 hs
def tSY (b : Bool) (d n : Int32) : Nat := tX b (if tB 65536 d = 0 then tI n else tB 65536 d)
theorem tSY_le (b : Bool) (d n : Int32) : tSY b d n ≤ 2 := tX_le (by have := tB_le 65536 d; have := tI_le n; split <;> omega)
theorem tSY_0 {b : Bool} {d n : Int32} (h : tSY b d n = 0) : b = true ∧ tB 65536 d = 0 ∧ tI n = 0 := by
  obtain ⟨h1, h2⟩ := tX_0 h
  split at h2
  · rename_i q; exact ⟨h1, q, h2⟩
  · rename_i q; exact absurd h2 q
def rYears (w : WT) (s : Nat → Nat) (d n : Int32) : Int32 := if tSY (okW1 w) d n = 0 then nI (HM w s (cl n) &&& (255 ^^^ (clk s (tbz w 0 0 1) (cl d) (cl n)).2)) else -1
def fbB (w : WT) (s : Nat → Nat) (k d i : Nat) : Bool := decide (ldF w s (i + 1) (HM w s (i + 1) &&& (255 ^^^ (clk s (tbz w 0 0 1) d (i + 1)).2)) k < w.2 4 k 2)
def rFallsBy (w : WT) (s : Nat → Nat) (k d n : Int32) : Int32 := if tSY (okR (w.1 4) k) d n = 0 then enc2 ((fst1 (fbB w s (cl k) (cl d)) (cl n)).map (· + 1)) else -1
theorem BRw.offN {w : WT} {s : Nat → Nat} {n : Nat} {A A' : AH} (h : BRw w s n A) (hO : OffL [58] A A') : BRw w s n A' := by
  obtain ⟨h1, h2, h3, h4, h5, h6⟩ := h
  refine ⟨by rw [(hO 48 (by decide)).1]; exact h1, h2, fun i hi => ?_, h4, fun m hm => by rw [(hO 52 (by decide)).1]; exact h5 m hm, fun m hm => by rw [(hO 53 (by decide)).1]; exact h6 m hm⟩
  rw [(hO 49 (by decide)).1, (hO 50 (by decide)).1, (hO 51 (by decide)).1]
  exact h3 i hi
def CR (s : Nat → Nat) (c d y : Nat) (A : AH) : Prop := A.1 58 0 = nI (clk s c d y).1 ∧ A.1 58 1 = nI (clk s c d y).2
theorem Qi.beg {A : AH} (h : Z0 A) (x y : Int32) : Qi A (upd2 (upd2 A.1 58 0 x) 58 1 y, A.2) := by
  refine Qi.sub h (l := [58]) ((OffL.rf.upd (by decide) _ _).upd (by decide) _ _) (by decide) (by decide) (by decide)
theorem c_X1_beginN {K : Option Value → AH → Prop} {A : AH} {s : Nat → Nat} {c d : Nat} (hz : Z0 A) (h : ∀ A', CR s c d 0 A' → Qi A A' → OffL [58] A A' → K none A') : Ct yX1_begin mX1_begin 0 dC gC [.ref 58, .int (nI d)] A K := c_X1_begin (h _ ⟨by dsimp only; rw [upd2_off (by decide), upd2_at]; rfl, by dsimp only; rw [upd2_at]; rfl⟩ (Qi.beg hz _ _) ((OffL.rf.upd (by decide) _ _).upd (by decide) _ _))
set_option maxRecDepth 4000 in
theorem c_X11_goBehindO {K : Option Value → AH → Prop} {A : AH} {w : WT} {s : Nat → Nat} (hC : CI w s A) {n : Nat} (hn : n ≤ 60) (h : ∀ A', BR (w.1 1) (e1W w s) (e2W w s) (esW w s n) A' → Qi A A' → A'.1 58 = A.1 58 → K none A') : Ct yX11_goBehind mX11_goBehind 4 dC gC [.ref 0, .int (nI n)] A K := by
  refine Ct.of [some (.ref 0), some (.int (nI n))] rfl rfl rfl (Nat.le_of_ble_eq_true rfl) ?_
  obtain ⟨i1, i2, i3, i4, i5⟩ := id hC
  refine w_aload_n 1 dX11_goBehind_0 rfl rfl ?_
  refine w_getr 4 dX11_goBehind_1 rfl faX11_40 rfl rfl rfl (r := .ref 48) rfl ?_
  refine w_aload_n 5 dX11_goBehind_4 rfl rfl ?_
  refine w_getr 8 dX11_goBehind_5 rfl faX11_26 rfl rfl rfl (r := .ref 43) rfl ?_
  refine w_aload_n 9 dX11_goBehind_8 rfl rfl ?_
  refine w_getr 12 dX11_goBehind_9 rfl faX11_19 rfl rfl rfl (r := .ref 26) rfl ?_
  refine w_inv2 15 dX11_goBehind_12 rfl mlX11_358 rfl rfl (d' := 2) (by decide) (Nat.le_of_ble_eq_true rfl) (c_X0_arrange i3 i4 i1 i2.2.2.1 i5.2 (fun A1 b1 b2 b3 b4 hO1 => ?_))
  refine w_aload_n 16 dX11_goBehind_15 rfl rfl ?_
  refine w_getr 19 dX11_goBehind_16 rfl faX11_40 rfl rfl rfl (r := .ref 48) rfl ?_
  refine w_aload_n 20 dX11_goBehind_19 rfl rfl ?_
  refine w_getr 23 dX11_goBehind_20 rfl faX11_26 rfl rfl rfl (r := .ref 43) rfl ?_
  refine w_iload_n 24 dX11_goBehind_23 rfl rfl ?_
  refine w_inv2 27 dX11_goBehind_24 rfl mlX11_202 rfl rfl (d' := 3) (by decide) (Nat.le_of_ble_eq_true rfl) (c_X0_strengthen (i3.cong (hO1 44 (by decide)).1) i4 hn (by rw [(hO1 52 (by decide)).1]; exact i5.1) (fun A2 d1 d2 d3 hO2 => ?_))
  refine wr_v dX11_goBehind_27 rfl ?_
  have hO : OffL scI A A2 := (hO1.mono (by intro x hx; simp at hx ⊢; omega)).tr (hO2.mono (by intro x hx; simp at hx ⊢; omega))
  have h51 : ∀ k, k < 5 → A2.1 51 (8 + k) = nI (tbz w 5 k 2) := fun k hk => by rw [d2 _ (by omega)]; exact b3 k hk
  have hos : RepOS (esW w s n) A2 := fun m hm => by
    rw [(hO2 53 (by decide)).1, b4 m hm]
    congr 1
  have hts : RepTS (esW w s n) A2 := fun m hm => by
    rw [d3 m hm]
    congr 1
  refine h A2 ⟨?_, i2.2.2.1.1, fun i hi => ?_, okW i4 i2.2.2.1 n, hts, hos⟩ ⟨hO, ?_⟩ ((hO2 58 (by decide)).1.trans (hO1 58 (by decide)).1)
  · rw [(hO2 48 (by decide)).1]; exact b1
  · rw [(hO2 49 (by decide)).1, (hO2 50 (by decide)).1]
    refine ⟨(b2 i hi).1, (b2 i hi).2, ?_⟩
    by_cases h8 : i < 8
    · rw [d1 i h8]; simp [esW, esT, h8]
    · have := h51 (i - 8) (by omega)
      rw [show 8 + (i - 8) = i by omega] at this
      rw [this]; simp [esW, h8]
  · exact ⟨by rw [hts 0 (by decide)]; rfl, by rw [hos 0 (by decide)]; rfl⟩

set_option maxRecDepth 4000 in
theorem a_X11_years {K : Option Value → AH → Prop} {A : AH} {w : WT} {s : Nat → Nat} {d n : Nat} (hC : CI w s A) (hn : n ≤ 60) (hd : d < 65537) (hc0 : CR s (tbz w 0 0 1) d 0 A) (h : ∀ A', Qi A A' → K (some (.int (nI (HM w s n &&& (255 ^^^ (clk s (tbz w 0 0 1) d n).2))))) A') : WP mX11_years 5 dC gC 39 [some (.ref 0), some (.int (nI d)), some (.int (nI n)), none] [] A K := by
  have lp41 : ∀ (nf : Nat) (i : Nat) (A' : AH), i ≤ n → CR s (tbz w 0 0 1) d i A' → Qi A A' → n - i < nf → WP mX11_years 5 dC gC 41 [some (.ref 0), some (.int (nI d)), some (.int (nI n)), some (.int (nI (i + 1)))] [] A' K := by
    intro nf
    induction nf with
    | zero => intros; omega
    | succ nf ih =>
      intro i A' hi hcr hQ hms
      have hC2 := hC.off hQ.q
      have hck := clk_ok (c := tbz w 0 0 1) hC.2.2.2.1.2.1 hd i
      refine w_iload_n 42 dX11_years_41 rfl rfl ?_
      refine w_iload_n 43 dX11_years_42 rfl rfl ?_
      refine w_icgtN 71 46 dX11_years_43 rfl rfl (by omega) (by omega) (fun c43 => ?_) (fun c43 => ?_)
      · skip
        have e : i = n := by omega
        subst e
        refine w_aload_n 72 dX11_years_71 rfl rfl ?_
        refine w_iload_n 73 dX11_years_72 rfl rfl ?_
        refine w_inv1 76 dX11_years_73 rfl mlX11_145 rfl rfl (d' := 4) (by decide) (Nat.le_of_ble_eq_true rfl) (c_X11_goBehindO hC2 (by omega) (fun A3 hR hQ3 h58 => ?_))
        refine w_aload_n 77 dX11_years_76 rfl rfl ?_
        refine w_getr 80 dX11_years_77 rfl faX11_40 rfl rfl rfl (r := .ref 48) rfl ?_
        refine w_inv0 83 dX11_years_80 rfl mlX11_161 rfl rfl (d' := 0) (by decide) (Nat.le_of_ble_eq_true rfl) (c_X0_heldH (show BRw w s _ _ from hR) ?_)
        refine w_aload_n 84 dX11_years_83 rfl rfl ?_
        refine w_getr 87 dX11_years_84 rfl faX11_54 rfl rfl rfl (r := .ref 58) rfl ?_
        refine w_getiv 90 dX11_years_87 rfl faX11_314 rfl rfl rfl (v := nI _) (by rw [h58]; exact hcr.2) ?_
        refine w_iconst 91 dX11_years_90 rfl (v := (-1)) rfl ?_
        refine w_ixor 92 dX11_years_91 rfl ?_
        refine w_iand 93 dX11_years_92 rfl ?_
        refine w_top (not_and (HM_lt w s _)) ?_
        refine wr_i dX11_years_93 rfl ?_
        exact h A3 (hQ.tr hQ3)
      · skip
        refine w_aload_n 47 dX11_years_46 rfl rfl ?_
        refine w_getr 50 dX11_years_47 rfl faX11_54 rfl rfl rfl (r := .ref 58) rfl ?_
        refine w_aload_n 51 dX11_years_50 rfl rfl ?_
        refine w_getr 54 dX11_years_51 rfl faX11_26 rfl rfl rfl (r := .ref 43) rfl ?_
        refine w_iload_n 55 dX11_years_54 rfl rfl ?_
        refine w_aload_n 56 dX11_years_55 rfl rfl ?_
        refine w_getr 59 dX11_years_56 rfl faX11_19 rfl rfl rfl (r := .ref 26) rfl ?_
        refine w_inv0 62 dX11_years_59 rfl mlX11_307 rfl rfl (d' := 1) (by decide) (Nat.le_of_ble_eq_true rfl) (c_X10_clerksInHundred_26 hC2.1 ?_)
        refine w_inv3 65 dX11_years_62 rfl mlX11_310 rfl rfl (d' := 3) (by decide) (Nat.le_of_ble_eq_true rfl) (c_X1_passYear hC2.2.2.1 hC2.2.2.2.1 (by omega) hC.2.1.2.2.2.2.2.2.2 hcr.1 hcr.2 hck.1 hck.2 (fun A3 g1 g2 hO3 => ?_))
        refine w_inc3 68 dX11_years_65 rfl (by decide) rfl (v := nI (_ + 1)) (nI_1 _) ?_
        refine w_goto 41 dX11_years_68 rfl ?_
        exact ih (i + 1) A3 (by omega) ⟨g1, g2⟩ (hQ.tr (Qi.sub hC2.2.2.2.2 hO3 (by decide) (by decide) (by decide))) (by omega)
  refine w_iconst 40 dX11_years_39 rfl (v := nI 1) rfl ?_
  refine w_ist3 41 dX11_years_40 rfl (by decide) rfl ?_
  exact lp41 _ 0 A (Nat.zero_le _) hc0 ⟨OffL.rf, hC.2.2.2.2⟩ (Nat.lt_succ_self _)

set_option maxRecDepth 4000 in
theorem c_X11_years {K : Option Value → AH → Prop} {A : AH} {w : WT} {s : Nat → Nat} (hC : CI w s A) {d n : Int32} (h : ∀ A', Qk A A' → A'.1 0 8 = nI (tSY (okW1 w) d n) → K (some (.int (rYears w s d n))) A') : Ct yX11_years mX11_years 5 dC gC [.ref 0, .int d, .int n] A K := by
  refine Ct.of [some (.ref 0), some (.int d), some (.int n), none] rfl rfl rfl (Nat.le_of_ble_eq_true rfl) ?_
  refine w_aload_n 1 dX11_years_0 rfl rfl ?_
  refine w_aload_n 2 dX11_years_1 rfl rfl ?_
  refine w_inv0 5 dX11_years_2 rfl mlX11_157 rfl rfl (d' := 2) (by decide) (Nat.le_of_ble_eq_true rfl) (c_X11_needWeb hC ?_)
  refine w_iload_n 6 dX11_years_5 rfl rfl ?_
  refine w_iconst 7 dX11_years_6 rfl (v := nI 0) rfl ?_
  refine w_ldcw 10 dX11_years_7 rfl kcX11_304 ?_
  refine w_top (show _ = nI 65536 from rfl) ?_
  refine w_invs3 13 dX11_years_10 rfl slX11_83 (d' := 0) (by decide) (Nat.le_of_ble_eq_true rfl) (c_X11_withinN ?_)
  refine w_iload_n 14 dX11_years_13 rfl rfl ?_
  refine w_invs1 17 dX11_years_14 rfl slX11_154 (d' := 1) (by decide) (Nat.le_of_ble_eq_true rfl) (c_X11_needYears ?_)
  refine w_invs2 20 dX11_years_17 rfl slX11_126 (d' := 0) (by decide) (Nat.le_of_ble_eq_true rfl) (c_X11_firstOfN (Nat.lt_of_le_of_lt (tB_le _ _) (by decide)) ?_)
  refine w_invs2 23 dX11_years_20 rfl slX11_126 (d' := 0) (by decide) (Nat.le_of_ble_eq_true rfl) (c_X11_firstOfN (Nat.lt_of_le_of_lt (t1_le _) (by decide)) ?_)
  rw [tX_first]
  rw [show tX (okW1 w) (if tB 65536 d = 0 then tI n else tB 65536 d) = tSY (okW1 w) d n from rfl]
  refine w_inv1 26 dX11_years_23 rfl mlX11_87 rfl rfl (d' := 0) (by decide) (Nat.le_of_ble_eq_true rfl) (c_X11_refused (Nat.lt_of_le_of_lt (tSY_le _ _ _) (by decide)) ?_)
  refine w_ifeqB 31 29 dX11_years_26 rfl rfl (fun c26 => ?_) (fun c26 => ?_)
  · skip
    have hz : tSY (okW1 w) d n = 0 := Decidable.not_not.mp (of_decide_eq_false c26)
    have hC1 := hC.off (hC.ref (nI (tSY (okW1 w) d n)))
    obtain ⟨k1, k2, k3⟩ := tSY_0 hz
    obtain ⟨n, rfl, hn⟩ := tI_of k3
    obtain ⟨d, rfl, hd⟩ := tB_of (by decide) k2
    refine w_aload_n 32 dX11_years_31 rfl rfl ?_
    refine w_getr 35 dX11_years_32 rfl faX11_54 rfl rfl rfl (r := .ref 58) rfl ?_
    refine w_iload_n 36 dX11_years_35 rfl rfl ?_
    refine w_inv1 39 dX11_years_36 rfl mlX11_305 rfl rfl (d' := 0) (by decide) (Nat.le_of_ble_eq_true rfl) (c_X1_beginN (s := s) (c := tbz w 0 0 1) hC1.2.2.2.2 (fun A2 hcr hQ hO => ?_))
    exact a_X11_years (hC1.off hQ.q) hn (by omega) hcr (fun A3 hQ3 => kq (h A3 (hC.fin (hQ.tr hQ3)).1 (hC.fin (hQ.tr hQ3)).2) (by unfold rYears; rw [if_pos hz, cl_nI (show n < 2 ^ 31 by omega), cl_nI (show d < 2 ^ 31 by omega)]))
  · skip
    refine w_iconst 30 dX11_years_29 rfl (v := (-1)) rfl ?_
    refine wr_i dX11_years_30 rfl ?_
    exact kq (h _ (hC.ref _) (by dsimp only; rw [upd2_at])) (by unfold rYears; rw [if_neg (of_decide_eq_true c26)])

set_option maxRecDepth 4000 in
theorem a_X11_fallsBy {K : Option Value → AH → Prop} {A : AH} {w : WT} {s : Nat → Nat} {n0 k d n : Nat} (hC : CI w s A) (hk : k < w.1 4) (hn : n ≤ 60) (hd : d < 65537) (hc0 : CR s (tbz w 0 0 1) d 0 A) (hq0 : RepQ (w.1 1) (e1W w s) (e2W w s) (w.2 4 k 0) (w.2 4 k 1) A) (hR0 : BRw w s n0 A) (h : ∀ A', Qi A A' → K (some (.int (enc2 ((fst1 (fbB w s k d) n).map (· + 1))))) A') : WP mX11_fallsBy 5 dC gC 50 [some (.ref 0), some (.int (nI k)), some (.int (nI d)), some (.int (nI n)), none] [] A K := by
  have hw7 := hC.2.1.2.2.1.1
  have h4 := hC.2.1.2.2.2.2.1.2.2.1
  obtain ⟨l0, l1, l2, l3⟩ := hC.2.1.2.2.2.2.2.1 k hk
  have h32 := h32of hw7 l0 l1 l2
  have lp53 : ∀ (nf : Nat) (i n1 : Nat) (A' : AH), i ≤ n → fst1 (fbB w s k d) i = none → CR s (tbz w 0 0 1) d i A' → RepQ (w.1 1) (e1W w s) (e2W w s) (w.2 4 k 0) (w.2 4 k 1) A' → BRw w s n1 A' → Qi A A' → n - i < nf → WP mX11_fallsBy 5 dC gC 53 [some (.ref 0), some (.int (nI k)), some (.int (nI d)), some (.int (nI n)), some (.int (nI (i + 1)))] [] A' K := by
    intro nf
    induction nf with
    | zero => intros; omega
    | succ nf ih =>
      intro i n1 A' hi hf hcr hq hR hQ hms
      have hC2 := hC.off hQ.q
      have hck := clk_ok (c := tbz w 0 0 1) hC.2.2.2.1.2.1 hd i
      refine w_iload 55 dX11_fallsBy_53 rfl rfl ?_
      refine w_iload_n 56 dX11_fallsBy_55 rfl rfl ?_
      refine w_icgtN 138 59 dX11_fallsBy_56 rfl rfl (by omega) (by omega) (fun c56 => ?_) (fun c56 => ?_)
      · skip
        refine w_bipush 140 dX11_fallsBy_138 rfl (v := (-2)) rfl ?_
        refine wr_i dX11_fallsBy_140 rfl ?_
        have e : i = n := by omega
        subst e
        exact kq (h A' hQ) (by rw [hf]; rfl)
      · skip
        refine w_aload_n 60 dX11_fallsBy_59 rfl rfl ?_
        refine w_getr 63 dX11_fallsBy_60 rfl faX11_54 rfl rfl rfl (r := .ref 58) rfl ?_
        refine w_aload_n 64 dX11_fallsBy_63 rfl rfl ?_
        refine w_getr 67 dX11_fallsBy_64 rfl faX11_26 rfl rfl rfl (r := .ref 43) rfl ?_
        refine w_iload 69 dX11_fallsBy_67 rfl rfl ?_
        refine w_aload_n 70 dX11_fallsBy_69 rfl rfl ?_
        refine w_getr 73 dX11_fallsBy_70 rfl faX11_19 rfl rfl rfl (r := .ref 26) rfl ?_
        refine w_inv0 76 dX11_fallsBy_73 rfl mlX11_307 rfl rfl (d' := 1) (by decide) (Nat.le_of_ble_eq_true rfl) (c_X10_clerksInHundred_26 hC2.1 ?_)
        refine w_inv3 79 dX11_fallsBy_76 rfl mlX11_310 rfl rfl (d' := 3) (by decide) (Nat.le_of_ble_eq_true rfl) (c_X1_passYear hC2.2.2.1 hC2.2.2.2.1 (by omega) hC.2.1.2.2.2.2.2.2.2 hcr.1 hcr.2 hck.1 hck.2 (fun A3 g1 g2 hO3 => ?_))
        have hQ3 := hQ.tr (Qi.sub hC2.2.2.2.2 hO3 (by decide) (by decide) (by decide))
        have hC3 := hC.off hQ3.q
        have hR3 : BRw w s n1 A3 := hR.offN hO3
        have hq3 : RepQ (w.1 1) (e1W w s) (e2W w s) (w.2 4 k 0) (w.2 4 k 1) A3 := ⟨by rw [(hO3 48 (by decide)).1]; exact hq.1, fun s hs hp => by rw [(hO3 54 (by decide)).1]; exact hq.2 s hs hp⟩
        refine w_aload_n 80 dX11_fallsBy_79 rfl rfl ?_
        refine w_getr 83 dX11_fallsBy_80 rfl faX11_40 rfl rfl rfl (r := .ref 48) rfl ?_
        refine w_aload_n 84 dX11_fallsBy_83 rfl rfl ?_
        refine w_getr 87 dX11_fallsBy_84 rfl faX11_26 rfl rfl rfl (r := .ref 43) rfl ?_
        refine w_iload 89 dX11_fallsBy_87 rfl rfl ?_
        refine w_inv2 92 dX11_fallsBy_89 rfl mlX11_202 rfl rfl (d' := 3) (by decide) (Nat.le_of_ble_eq_true rfl) (c_X0_strengthen hC3.2.2.1 hC3.2.2.2.1 (by omega) hC3.2.2.2.2.1 (fun A4 d1 d2 d3 hO4 => ?_))
        obtain ⟨hR4, hQ4'⟩ := hR3.str hC.2.2.2.1 hC.2.1.2.2.1 d1 d2 d3 hO4
        have hQ4 := hQ3.tr hQ4'
        have hC4 := hC.off hQ4.q
        have hq4 : RepQ (w.1 1) (e1W w s) (e2W w s) (w.2 4 k 0) (w.2 4 k 1) A4 := ⟨by rw [(hO4 48 (by decide)).1]; exact hq3.1, fun s hs hp => by rw [(hO4 54 (by decide)).1]; exact hq3.2 s hs hp⟩
        have hcr4 : CR s (tbz w 0 0 1) d (i + 1) A4 := ⟨by rw [(hO4 58 (by decide)).1]; exact g1, by rw [(hO4 58 (by decide)).1]; exact g2⟩
        refine w_aload_n 93 dX11_fallsBy_92 rfl rfl ?_
        refine w_getr 96 dX11_fallsBy_93 rfl faX11_40 rfl rfl rfl (r := .ref 48) rfl ?_
        refine w_aload_n 97 dX11_fallsBy_96 rfl rfl ?_
        refine w_getr 100 dX11_fallsBy_97 rfl faX11_40 rfl rfl rfl (r := .ref 48) rfl ?_
        refine w_inv0 103 dX11_fallsBy_100 rfl mlX11_161 rfl rfl (d' := 0) (by decide) (Nat.le_of_ble_eq_true rfl) (c_X0_heldH hR4 ?_)
        refine w_aload_n 104 dX11_fallsBy_103 rfl rfl ?_
        refine w_getr 107 dX11_fallsBy_104 rfl faX11_54 rfl rfl rfl (r := .ref 58) rfl ?_
        refine w_getiv 110 dX11_fallsBy_107 rfl faX11_314 rfl rfl rfl (v := nI _) hcr4.2 ?_
        refine w_iconst 111 dX11_fallsBy_110 rfl (v := (-1)) rfl ?_
        refine w_ixor 112 dX11_fallsBy_111 rfl ?_
        refine w_iand 113 dX11_fallsBy_112 rfl ?_
        refine w_top (not_and (HM_lt w s _)) ?_
        refine w_inv1 116 dX11_fallsBy_113 rfl mlX11_184 rfl rfl (d' := 1) (by decide) (Nat.le_of_ble_eq_true rfl) (c_X0_borneBy hq4 hR4.2.2.2.2 hR4.2.2.2.1 h32 ?_)
        refine w_aload_n 117 dX11_fallsBy_116 rfl rfl ?_
        refine w_getr 120 dX11_fallsBy_117 rfl faX11_19 rfl rfl rfl (r := .ref 26) rfl ?_
        refine w_iconst 121 dX11_fallsBy_120 rfl (v := nI 4) rfl ?_
        refine w_iload_n 122 dX11_fallsBy_121 rfl rfl ?_
        refine w_iconst 123 dX11_fallsBy_122 rfl (v := nI 2) rfl ?_
        refine w_inv3 126 dX11_fallsBy_123 rfl mlX11_206 rfl rfl (d' := 1) (by decide) (Nat.le_of_ble_eq_true rfl) (c_X10_cell_26 hC4.1 (by decide) (by omega) (by decide) ?_)
        rw [tbz_in hk]
        refine w_icgeN 132 129 dX11_fallsBy_126 rfl rfl (by have := BV_le hC.2.2.2.1 hC.2.1.2.2.1 (i + 1) (HM w s (i + 1) &&& (255 ^^^ (clk s (tbz w 0 0 1) d (i + 1)).2)) (w.2 4 k 0) (w.2 4 k 1); unfold BV at this; omega) (by omega) (fun c126 => ?_) (fun c126 => ?_)
        · skip
          have c126 : fbB w s k d i = false := decide_eq_false (Nat.not_lt.mpr c126)
          refine w_inc4 135 dX11_fallsBy_132 rfl (by decide) rfl (v := nI (_ + 1)) (nI_1 _) ?_
          refine w_goto 53 dX11_fallsBy_135 rfl ?_
          exact ih (i + 1) (i + 1) A4 (by omega) (by simp [fst1, hf, c126]) hcr4 hq4 hR4 hQ4 (by omega)
        · skip
          have c126 : fbB w s k d i = true := decide_eq_true c126
          refine w_iload 131 dX11_fallsBy_129 rfl rfl ?_
          refine wr_i dX11_fallsBy_131 rfl ?_
          exact kq (h A4 hQ4) (by rw [fst1_some hf c126 (by omega)]; rfl)
  refine w_iconst 51 dX11_fallsBy_50 rfl (v := nI 1) rfl ?_
  refine w_ist4 53 dX11_fallsBy_51 rfl (by decide) rfl ?_
  exact lp53 _ 0 n0 A (Nat.zero_le _) rfl hc0 hq0 hR0 ⟨OffL.rf, hC.2.2.2.2⟩ (Nat.lt_succ_self _)

set_option maxRecDepth 4000 in
theorem c_X11_fallsBy {K : Option Value → AH → Prop} {A : AH} {w : WT} {s : Nat → Nat} (hC : CI w s A) {k d n : Int32} (h : ∀ A', Qk A A' → A'.1 0 8 = nI (tSY (okR (w.1 4) k) d n) → K (some (.int (rFallsBy w s k d n))) A') : Ct yX11_fallsBy mX11_fallsBy 5 dC gC [.ref 0, .int k, .int d, .int n] A K := by
  refine Ct.of [some (.ref 0), some (.int k), some (.int d), some (.int n), none] rfl rfl rfl (Nat.le_of_ble_eq_true rfl) ?_
  refine w_aload_n 1 dX11_fallsBy_0 rfl rfl ?_
  refine w_aload_n 2 dX11_fallsBy_1 rfl rfl ?_
  refine w_iload_n 3 dX11_fallsBy_2 rfl rfl ?_
  refine w_inv1 6 dX11_fallsBy_3 rfl mlX11_196 rfl rfl (d' := 3) (by decide) (Nat.le_of_ble_eq_true rfl) (c_X11_needLoad hC ?_)
  refine w_iload_n 7 dX11_fallsBy_6 rfl rfl ?_
  refine w_iconst 8 dX11_fallsBy_7 rfl (v := nI 0) rfl ?_
  refine w_ldcw 11 dX11_fallsBy_8 rfl kcX11_304 ?_
  refine w_top (show _ = nI 65536 from rfl) ?_
  refine w_invs3 14 dX11_fallsBy_11 rfl slX11_83 (d' := 0) (by decide) (Nat.le_of_ble_eq_true rfl) (c_X11_withinN ?_)
  refine w_iload_n 15 dX11_fallsBy_14 rfl rfl ?_
  refine w_invs1 18 dX11_fallsBy_15 rfl slX11_154 (d' := 1) (by decide) (Nat.le_of_ble_eq_true rfl) (c_X11_needYears ?_)
  refine w_invs2 21 dX11_fallsBy_18 rfl slX11_126 (d' := 0) (by decide) (Nat.le_of_ble_eq_true rfl) (c_X11_firstOfN (Nat.lt_of_le_of_lt (tB_le _ _) (by decide)) ?_)
  refine w_invs2 24 dX11_fallsBy_21 rfl slX11_126 (d' := 0) (by decide) (Nat.le_of_ble_eq_true rfl) (c_X11_firstOfN (Nat.lt_of_le_of_lt (t1_le _) (by decide)) ?_)
  rw [tX_first]
  rw [show tX (okR (w.1 4) k) (if tB 65536 d = 0 then tI n else tB 65536 d) = tSY (okR (w.1 4) k) d n from rfl]
  refine w_inv1 27 dX11_fallsBy_24 rfl mlX11_87 rfl rfl (d' := 0) (by decide) (Nat.le_of_ble_eq_true rfl) (c_X11_refused (Nat.lt_of_le_of_lt (tSY_le _ _ _) (by decide)) ?_)
  refine w_ifeqB 32 30 dX11_fallsBy_27 rfl rfl (fun c27 => ?_) (fun c27 => ?_)
  · skip
    have hz : tSY (okR (w.1 4) k) d n = 0 := Decidable.not_not.mp (of_decide_eq_false c27)
    have hC1 := hC.off (hC.ref (nI (tSY (okR (w.1 4) k) d n)))
    obtain ⟨k1, k2, k3⟩ := tSY_0 hz
    obtain ⟨n, rfl, hn⟩ := tI_of k3
    obtain ⟨d, rfl, hd⟩ := tB_of (by decide) k2
    have hw7 := hC.2.1.2.2.1.1
    have h4 := hC.2.1.2.2.2.2.1.2.2.1
    obtain ⟨k, rfl, hk⟩ := okR_of k1 (by omega)
    refine w_aload_n 33 dX11_fallsBy_32 rfl rfl ?_
    refine w_iconst 34 dX11_fallsBy_33 rfl (v := nI 0) rfl ?_
    refine w_inv1 37 dX11_fallsBy_34 rfl mlX11_145 rfl rfl (d' := 4) (by decide) (Nat.le_of_ble_eq_true rfl) (c_X11_goBehind hC1 (by decide) (fun A2 hR hQ => ?_))
    refine w_aload_n 38 dX11_fallsBy_37 rfl rfl ?_
    refine w_iload_n 39 dX11_fallsBy_38 rfl rfl ?_
    refine w_inv1 42 dX11_fallsBy_39 rfl mlX11_199 rfl rfl (d' := 3) (by decide) (Nat.le_of_ble_eq_true rfl) (c_X11_partForLoad (hC1.off hQ.q) hR hk (fun A3 hq hR3 hQ3 => ?_))
    have hQ4 := hQ.tr hQ3
    have hC3 := hC1.off hQ4.q
    refine w_aload_n 43 dX11_fallsBy_42 rfl rfl ?_
    refine w_getr 46 dX11_fallsBy_43 rfl faX11_54 rfl rfl rfl (r := .ref 58) rfl ?_
    refine w_iload_n 47 dX11_fallsBy_46 rfl rfl ?_
    refine w_inv1 50 dX11_fallsBy_47 rfl mlX11_305 rfl rfl (d' := 0) (by decide) (Nat.le_of_ble_eq_true rfl) (c_X1_beginN (s := s) (c := tbz w 0 0 1) hC3.2.2.2.2 (fun A4 hcr hQ5 hO => ?_))
    have hQ6 := hQ4.tr hQ5
    have hR4 : BRw w s 0 A4 := hR3.offN hO
    have hq4 : RepQ (w.1 1) (e1W w s) (e2W w s) (w.2 4 k 0) (w.2 4 k 1) A4 := ⟨by rw [(hO 48 (by decide)).1]; exact hq.1, fun s hs hp => by rw [(hO 54 (by decide)).1]; exact hq.2 s hs hp⟩
    exact a_X11_fallsBy (hC1.off hQ6.q) hk hn (by omega) hcr hq4 hR4 (fun A5 hQ7 => kq (h A5 (hC.fin (hQ6.tr hQ7)).1 (hC.fin (hQ6.tr hQ7)).2) (by unfold rFallsBy; rw [if_pos hz, cl_nI (show n < 2 ^ 31 by omega), cl_nI (show d < 2 ^ 31 by omega), cl_nI (show k < 2 ^ 31 by omega)]))
  · skip
    refine w_iconst 31 dX11_fallsBy_30 rfl (v := (-1)) rfl ?_
    refine wr_i dX11_fallsBy_31 rfl ?_
    exact kq (h _ (hC.ref _) (by dsimp only; rw [upd2_at])) (by unfold rFallsBy; rw [if_neg (of_decide_eq_true c27)])
