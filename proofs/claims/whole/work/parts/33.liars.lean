/-! ===== Liars ===== -/
def prodTo (f : Nat → Nat) : Nat → Nat
  | 0 => 1
  | n + 1 => prodTo f n * f n
theorem prodTo_le {f : Nat → Nat} (h : ∀ i, f i ≤ 100) : ∀ n, prodTo f n ≤ 100 ^ n
  | 0 => Nat.le_refl 1
  | n + 1 => by
    simp only [prodTo, Nat.pow_succ]
    exact Nat.mul_le_mul (prodTo_le h n) (h n)
def liedB (w : WT) (t set : Nat) : Bool := match fst1 (fun k => decide (w.2 6 k 0 = t)) (w.1 6) with
  | some k => set.testBit k
  | none => decide (tbz w 2 t 0 = 3)
def hairF (w : WT) (set k : Nat) : Nat := if (liedB w (w.2 7 k 0) set || liedB w (w.2 7 k 1) set) = decide (w.2 7 k 2 = 1) then 100 - tbz w 0 0 0 else tbz w 0 0 0
def wgt (w : WT) (set : Nat) : Nat := prodTo (hairF w set) (w.1 7)
def okL (w : WT) : Prop := smW w ∧ tbz w 0 0 0 ≤ 100 ∧ w.1 6 ≤ 5 ∧ w.1 7 ≤ 6
theorem hairF_le {w : WT} (h : okL w) (set k : Nat) : hairF w set k ≤ 100 := by
  have := h.2.1
  unfold hairF
  split <;> omega
theorem prod6 {f : Nat → Nat} (h : ∀ i, f i ≤ 100) {n : Nat} (hn : n ≤ 6) : prodTo f n ≤ 1000000000000 := Nat.le_trans (prodTo_le h n) (show 100 ^ n ≤ 100 ^ 6 from Nat.pow_le_pow_right (by decide) hn)
theorem wgt_le {w : WT} (h : okL w) (set : Nat) : wgt w set ≤ 1000000000000 := prod6 (hairF_le h set) h.2.2.2
set_option maxRecDepth 4000 in
theorem c_X2_isLiedOn {K : Option Value → AH → Prop} {A : AH} {w : WT} {t set : Nat} (hT : RepT w 26 A) (hw : okL w) (ht : t < 1000) (hset : set < 32) (h : K (some (.int (b2i (liedB w t set)))) A) : Ct yX2_isLiedOn mX2_isLiedOn 2 dC gC [.ref 26, .int (nI t), .int (nI set)] A K := by
  refine Ct.of [some (.ref 26), some (.int (nI t)), some (.int (nI set)), none] rfl rfl rfl (Nat.le_of_ble_eq_true rfl) ?_
  have h5 := hw.2.2.1
  have lp2 : ∀ (nf : Nat) (i : Nat), i ≤ w.1 6 → fst1 (fun k => decide (w.2 6 k 0 = t)) i = none → w.1 6 - i < nf → WP mX2_isLiedOn 2 dC gC 2 [some (.ref 26), some (.int (nI t)), some (.int (nI set)), some (.int (nI i))] [] A K := by
    intro nf
    induction nf with
    | zero => intros; omega
    | succ nf ih =>
      intro i hi hf hms
      refine w_iload_n 3 dX2_isLiedOn_2 rfl rfl ?_
      refine w_aload_n 4 dX2_isLiedOn_3 rfl rfl ?_
      refine w_bipush 6 dX2_isLiedOn_4 rfl (v := nI 6) rfl ?_
      refine w_inv1 9 dX2_isLiedOn_6 rfl mlX2_15 rfl rfl (d' := 1) (by decide) (Nat.le_of_ble_eq_true rfl) (c_X10_howMany_26 hT (by decide) ?_)
      refine w_icgeN 36 12 dX2_isLiedOn_9 rfl rfl (by omega) (by omega) (fun c9 => ?_) (fun c9 => ?_)
      · skip
        have e : i = w.1 6 := by omega
        subst e
        refine w_aload_n 37 dX2_isLiedOn_36 rfl rfl ?_
        refine w_iload_n 38 dX2_isLiedOn_37 rfl rfl ?_
        refine w_inv1 41 dX2_isLiedOn_38 rfl mlX2_62 rfl rfl (d' := 1) (by decide) (Nat.le_of_ble_eq_true rfl) (c_X10_isLied_26 hT hw.1 (by omega) ?_)
        refine wr_z dX2_isLiedOn_41 rfl (by first | rfl | exact nb_b2i _) ?_
        exact kq h (by rw [liedB, hf])
      · skip
        refine w_aload_n 13 dX2_isLiedOn_12 rfl rfl ?_
        refine w_bipush 15 dX2_isLiedOn_13 rfl (v := nI 6) rfl ?_
        refine w_iload_n 16 dX2_isLiedOn_15 rfl rfl ?_
        refine w_iconst 17 dX2_isLiedOn_16 rfl (v := nI 0) rfl ?_
        refine w_inv3 20 dX2_isLiedOn_17 rfl mlX2_42 rfl rfl (d' := 1) (by decide) (Nat.le_of_ble_eq_true rfl) (c_X10_cell_26 hT (by decide) (by omega) (by decide) ?_)
        rw [tbz_in c9]
        refine w_iload_n 21 dX2_isLiedOn_20 rfl rfl ?_
        refine w_icneN 30 24 dX2_isLiedOn_21 rfl rfl (by have := hw.1 6 i 0 (by decide) c9 (by decide); omega) (by omega) (fun c21 => ?_) (fun c21 => ?_)
        · skip
          refine w_inc3 33 dX2_isLiedOn_30 rfl (by decide) rfl (v := nI (_ + 1)) (nI_1 _) ?_
          refine w_goto 2 dX2_isLiedOn_33 rfl ?_
          exact ih (i + 1) (by omega) (by simp [fst1, hf, c21]) (by omega)
        · skip
          refine w_iload_n 25 dX2_isLiedOn_24 rfl rfl ?_
          refine w_iload_n 26 dX2_isLiedOn_25 rfl rfl ?_
          refine w_invs2 29 dX2_isLiedOn_26 rfl slX2_58 (d' := 0) (by decide) (Nat.le_of_ble_eq_true rfl) (c_X11_has ?_)
          rw [hasB_nI (by omega) (by omega)]
          refine wr_z dX2_isLiedOn_29 rfl (by first | rfl | exact nb_b2i _) ?_
          exact kq h (by rw [liedB, fst1_some hf (decide_eq_true c21) c9])
  refine w_iconst 1 dX2_isLiedOn_0 rfl (v := nI 0) rfl ?_
  refine w_ist3 2 dX2_isLiedOn_1 rfl (by decide) rfl ?_
  exact lp2 _ 0 (Nat.zero_le _) rfl (Nat.lt_succ_self _)

set_option maxRecDepth 4000 in
theorem c_X2_isBrown {K : Option Value → AH → Prop} {A : AH} {w : WT} {t u set : Nat} (hT : RepT w 26 A) (hw : okL w) (ht : t < 1000) (hu : u < 1000) (hset : set < 32) (h : K (some (.int (b2i (liedB w t set || liedB w u set)))) A) : Ct yX2_isBrown mX2_isBrown 3 dC gC [.ref 26, .int (nI t), .int (nI u), .int (nI set)] A K := by
  refine Ct.of [some (.ref 26), some (.int (nI t)), some (.int (nI u)), some (.int (nI set))] rfl rfl rfl (Nat.le_of_ble_eq_true rfl) ?_
  refine w_aload_n 1 dX2_isBrown_0 rfl rfl ?_
  refine w_iload_n 2 dX2_isBrown_1 rfl rfl ?_
  refine w_iload_n 3 dX2_isBrown_2 rfl rfl ?_
  refine w_invs3 6 dX2_isBrown_3 rfl slX2_54 (d' := 2) (by decide) (Nat.le_of_ble_eq_true rfl) (c_X2_isLiedOn hT hw ht hset ?_)
  refine w_ifneB 18 9 dX2_isBrown_6 rfl rfl (fun c6 => ?_) (fun c6 => ?_)
  · skip
    refine w_iconst 19 dX2_isBrown_18 rfl (v := nI 1) rfl ?_
    refine w_goto 23 dX2_isBrown_19 rfl ?_
    refine wr_z dX2_isBrown_23 rfl (by first | rfl | exact nb_b2i _) ?_
    exact kq h (by rw [c6]; rfl)
  · skip
    refine w_aload_n 10 dX2_isBrown_9 rfl rfl ?_
    refine w_iload_n 11 dX2_isBrown_10 rfl rfl ?_
    refine w_iload_n 12 dX2_isBrown_11 rfl rfl ?_
    refine w_invs3 15 dX2_isBrown_12 rfl slX2_54 (d' := 2) (by decide) (Nat.le_of_ble_eq_true rfl) (c_X2_isLiedOn hT hw hu hset ?_)
    refine w_ifeqB 22 18 dX2_isBrown_15 rfl rfl (fun c15 => ?_) (fun c15 => ?_)
    · skip
      refine w_iconst 23 dX2_isBrown_22 rfl (v := nI 0) rfl ?_
      refine wr_z dX2_isBrown_23 rfl (by first | rfl | exact nb_b2i _) ?_
      exact kq h (by rw [c6, c15]; rfl)
    · skip
      refine w_iconst 19 dX2_isBrown_18 rfl (v := nI 1) rfl ?_
      refine w_goto 23 dX2_isBrown_19 rfl ?_
      refine wr_z dX2_isBrown_23 rfl (by first | rfl | exact nb_b2i _) ?_
      exact kq h (by rw [c6, c15]; rfl)

set_option maxRecDepth 4000 in
theorem c_X2_weightOf {K : Option Value → AH → Prop} {A : AH} {w : WT} {set : Nat} (hT : RepT w 26 A) (hw : okL w) (hset : set < 32) (h : K (some (.long (lN (wgt w set)))) A) : Ct yX2_weightOf mX2_weightOf 4 dC gC [.ref 26, .int (nI set)] A K := by
  refine Ct.of [some (.ref 26), some (.int (nI set)), none, none, none, none, none] rfl rfl rfl (Nat.le_of_ble_eq_true rfl) ?_
  obtain ⟨w1, w2, w3, w4⟩ := id hw
  have lp10 : ∀ (nf : Nat) (i : Nat), i ≤ w.1 7 → w.1 7 - i < nf → WP mX2_weightOf 4 dC gC 10 [some (.ref 26), some (.int (nI set)), some (.int (nI (tbz w 0 0 0))), some (.long (lN (prodTo (hairF w set) i))), none, some (.int (nI i)), none] [] A K := by
    intro nf
    induction nf with
    | zero => intros; omega
    | succ nf ih =>
      intro i hi hms
      refine w_iload 12 dX2_weightOf_10 rfl rfl ?_
      refine w_aload_n 13 dX2_weightOf_12 rfl rfl ?_
      refine w_bipush 15 dX2_weightOf_13 rfl (v := nI 7) rfl ?_
      refine w_inv1 18 dX2_weightOf_15 rfl mlX2_15 rfl rfl (d' := 1) (by decide) (Nat.le_of_ble_eq_true rfl) (c_X10_howMany_26 hT (by decide) ?_)
      refine w_icgeN 76 21 dX2_weightOf_18 rfl rfl (by omega) (by omega) (fun c18 => ?_) (fun c18 => ?_)
      · skip
        have e : i = w.1 7 := by omega
        subst e
        refine w_lload_n 77 dX2_weightOf_76 rfl rfl ?_
        refine wr_l dX2_weightOf_77 rfl ?_
        exact h
      · skip
        refine w_aload_n 22 dX2_weightOf_21 rfl rfl ?_
        refine w_aload_n 23 dX2_weightOf_22 rfl rfl ?_
        refine w_bipush 25 dX2_weightOf_23 rfl (v := nI 7) rfl ?_
        refine w_iload 27 dX2_weightOf_25 rfl rfl ?_
        refine w_iconst 28 dX2_weightOf_27 rfl (v := nI 0) rfl ?_
        refine w_inv3 31 dX2_weightOf_28 rfl mlX2_42 rfl rfl (d' := 1) (by decide) (Nat.le_of_ble_eq_true rfl) (c_X10_cell_26 hT (by decide) (by omega) (by decide) ?_)
        refine w_aload_n 32 dX2_weightOf_31 rfl rfl ?_
        refine w_bipush 34 dX2_weightOf_32 rfl (v := nI 7) rfl ?_
        refine w_iload 36 dX2_weightOf_34 rfl rfl ?_
        refine w_iconst 37 dX2_weightOf_36 rfl (v := nI 1) rfl ?_
        refine w_inv3 40 dX2_weightOf_37 rfl mlX2_42 rfl rfl (d' := 1) (by decide) (Nat.le_of_ble_eq_true rfl) (c_X10_cell_26 hT (by decide) (by omega) (by decide) ?_)
        refine w_iload_n 41 dX2_weightOf_40 rfl rfl ?_
        rw [tbz_in c18, tbz_in c18]
        have y0 := w1 7 i 0 (by decide) c18 (by decide)
        have y1 := w1 7 i 1 (by decide) c18 (by decide)
        refine w_invs4 44 dX2_weightOf_41 rfl slX2_46 (d' := 3) (by decide) (Nat.le_of_ble_eq_true rfl) (c_X2_isBrown hT hw y0 y1 hset ?_)
        refine w_ist6 46 dX2_weightOf_44 rfl (by decide) rfl ?_
        refine w_lload_n 47 dX2_weightOf_46 rfl rfl ?_
        refine w_iload 49 dX2_weightOf_47 rfl rfl ?_
        refine w_aload_n 50 dX2_weightOf_49 rfl rfl ?_
        refine w_iload 52 dX2_weightOf_50 rfl rfl ?_
        refine w_inv1 55 dX2_weightOf_52 rfl mlX2_50 rfl rfl (d' := 1) (by decide) (Nat.le_of_ble_eq_true rfl) (c_X10_isToldBrown_26 hT w1 (by omega) ?_)
        rw [tbz_in c18]
        refine w_icne 66 58 dX2_weightOf_55 rfl rfl (fun c55 => ?_) (fun c55 => ?_)
        · skip
          refine w_iload_n 67 dX2_weightOf_66 rfl rfl ?_
          refine w_i2lN 68 dX2_weightOf_67 rfl (by omega) ?_
          refine w_lmulN 69 dX2_weightOf_68 rfl ?_
          refine w_lst3 70 dX2_weightOf_69 rfl (by decide) rfl ?_
          refine w_inc5 73 dX2_weightOf_70 rfl (by decide) rfl (v := nI (_ + 1)) (nI_1 _) ?_
          refine w_goto 10 dX2_weightOf_73 rfl ?_
          refine wp_to ?_ rfl rfl (ih (i + 1) (by omega) (by omega))
          simp only [lle, prodTo, hairF]
          rw [if_neg (fun e => c55 (b2i_inj.mpr e))]
          simp
        · skip
          refine w_bipush 60 dX2_weightOf_58 rfl (v := nI 100) rfl ?_
          refine w_iload_n 61 dX2_weightOf_60 rfl rfl ?_
          refine w_isubN 62 dX2_weightOf_61 rfl w2 ?_
          refine w_i2lN 63 dX2_weightOf_62 rfl (by omega) ?_
          refine w_goto 68 dX2_weightOf_63 rfl ?_
          refine w_lmulN 69 dX2_weightOf_68 rfl ?_
          refine w_lst3 70 dX2_weightOf_69 rfl (by decide) rfl ?_
          refine w_inc5 73 dX2_weightOf_70 rfl (by decide) rfl (v := nI (_ + 1)) (nI_1 _) ?_
          refine w_goto 10 dX2_weightOf_73 rfl ?_
          refine wp_to ?_ rfl rfl (ih (i + 1) (by omega) (by omega))
          simp only [lle, prodTo, hairF]
          rw [if_pos (b2i_inj.mp c55)]
          simp
  refine w_aload_n 1 dX2_weightOf_0 rfl rfl ?_
  refine w_inv0 4 dX2_weightOf_1 rfl mlX2_38 rfl rfl (d' := 1) (by decide) (Nat.le_of_ble_eq_true rfl) (c_X10_slipsInHundred_26 hT ?_)
  refine w_ist2 5 dX2_weightOf_4 rfl (by decide) rfl ?_
  refine w_lconst 6 dX2_weightOf_5 rfl (v := lN 1) rfl ?_
  refine w_lst3 7 dX2_weightOf_6 rfl (by decide) rfl ?_
  refine w_iconst 8 dX2_weightOf_7 rfl (v := nI 0) rfl ?_
  refine w_ist5 10 dX2_weightOf_8 rfl (by decide) rfl ?_
  exact lp10 _ 0 (Nat.zero_le _) (Nat.lt_succ_self _)

def RepL (nu N : Nat) (f : Nat → Nat) (A : AH) : Prop := A.1 56 1 = nI nu ∧ A.1 56 2 = nI N ∧ nu ≤ 5 ∧ N ≤ 32 ∧ (∀ s, f s ≤ 1000000000000) ∧ ∀ s, s < N → A.2 57 s = lN (f s)
theorem RepL.cong {nu N : Nat} {f : Nat → Nat} {A A' : AH} (h : RepL nu N f A) (h1 : A'.1 56 = A.1 56) (h2 : A'.2 57 = A.2 57) : RepL nu N f A' := by
  obtain ⟨a, b, c, d, e, g⟩ := h
  exact ⟨by rw [h1]; exact a, by rw [h1]; exact b, c, d, e, fun s hs => by rw [h2]; exact g s hs⟩
theorem min5 {n : Nat} (h : n ≤ 5) : (if nI 5 < nI n then nI 5 else nI n) = nI n := by
  rw [if_neg (fun q => by rw [nI_ltI (by decide) (by omega)] at q; omega)]
theorem pw5 {n : Nat} (h : n ≤ 5) : 2 ^ n ≤ 32 := show 2 ^ n ≤ 2 ^ 5 from Nat.pow_le_pow_right (by decide) h
set_option maxRecDepth 4000 in
theorem c_X2_weigh {K : Option Value → AH → Prop} {A : AH} {w : WT} (hT : RepT w 26 A) (hw : okL w) (h : ∀ A', RepL (w.1 6) (2 ^ (w.1 6)) (wgt w) A' → OffL [56, 57] A A' → K none A') : Ct yX2_weigh mX2_weigh 5 dC gC [.ref 56, .ref 26] A K := by
  refine Ct.of [some (.ref 56), some (.ref 26), none] rfl rfl rfl (Nat.le_of_ble_eq_true rfl) ?_
  have h5 := hw.2.2.1
  have h32 := pw5 h5
  have lp26 : ∀ (nf : Nat) (i : Nat) (A' : AH), i ≤ 2 ^ (w.1 6) → OffL [56, 57] A A' → A'.1 56 1 = nI (w.1 6) → A'.1 56 2 = nI (2 ^ (w.1 6)) → (∀ s, s < i → A'.2 57 s = lN (wgt w s)) → 2 ^ (w.1 6) - i < nf → WP mX2_weigh 5 dC gC 26 [some (.ref 56), some (.ref 26), some (.int (nI i))] [] A' K := by
    intro nf
    induction nf with
    | zero => intros; omega
    | succ nf ih =>
      intro i A' hi hO g1 g2 hv hms
      have hT2 : RepT w 26 A' := hT.cong (fun x h1 h2 => (hO x (by intro q; simp at q; omega)).1)
      refine w_iload_n 27 dX2_weigh_26 rfl rfl ?_
      refine w_aload_n 28 dX2_weigh_27 rfl rfl ?_
      refine w_getiv 31 dX2_weigh_28 rfl faX2_31 rfl rfl rfl g2 ?_
      refine w_icgeN 51 34 dX2_weigh_31 rfl rfl (by omega) (by omega) (fun c31 => ?_) (fun c31 => ?_)
      · skip
        have e : i = 2 ^ (w.1 6) := by omega
        subst e
        refine wr_v dX2_weigh_51 rfl ?_
        exact h A' ⟨g1, g2, h5, h32, wgt_le hw, hv⟩ hO
      · skip
        refine w_aload_n 35 dX2_weigh_34 rfl rfl ?_
        refine w_getr 38 dX2_weigh_35 rfl faX2_11 rfl rfl rfl (r := .ref 57) rfl ?_
        refine w_iload_n 39 dX2_weigh_38 rfl rfl ?_
        refine w_aload_n 40 dX2_weigh_39 rfl rfl ?_
        refine w_iload_n 41 dX2_weigh_40 rfl rfl ?_
        refine w_invs2 44 dX2_weigh_41 rfl slX2_34 (d' := 4) (by decide) (Nat.le_of_ble_eq_true rfl) (c_X2_weightOf hT2 hw (by omega) ?_)
        refine w_lastN 45 dX2_weigh_44 rfl rfl rfl (by decide) (by omega) ?_
        refine w_inc2 48 dX2_weigh_45 rfl (by decide) rfl (v := nI (_ + 1)) (nI_1 _) ?_
        refine w_goto 26 dX2_weigh_48 rfl ?_
        refine ih (i + 1) _ (by omega) (hO.updj (by decide) _ _) g1 g2 (fun s hs => ?_) (by omega)
        dsimp only
        by_cases e : s = i
        · subst e; rw [upd2_at]
        · rw [upd2_off e]; exact hv s (by omega)
  refine w_aload_n 1 dX2_weigh_0 rfl rfl ?_
  refine w_aload_n 2 dX2_weigh_1 rfl rfl ?_
  refine w_bipush 4 dX2_weigh_2 rfl (v := nI 6) rfl ?_
  refine w_inv1 7 dX2_weigh_4 rfl mlX2_15 rfl rfl (d' := 1) (by decide) (Nat.le_of_ble_eq_true rfl) (c_X10_howMany_26 hT (by decide) ?_)
  refine w_iconst 8 dX2_weigh_7 rfl (v := nI 5) rfl ?_
  refine w_mmin 11 dX2_weigh_8 rfl mxX2_21 (by decide) (Nat.le_of_ble_eq_true rfl) ?_
  refine w_top (min5 h5) ?_
  refine w_puti 14 dX2_weigh_11 rfl faX2_27 rfl rfl rfl rfl ?_
  refine w_aload_n 15 dX2_weigh_14 rfl rfl ?_
  refine w_iconst 16 dX2_weigh_15 rfl (v := nI 1) rfl ?_
  refine w_aload_n 17 dX2_weigh_16 rfl rfl ?_
  refine w_getiv 20 dX2_weigh_17 rfl faX2_27 rfl rfl rfl (show _ = nI (w.1 6) from by dsimp only; rw [upd2_at]) ?_
  refine w_shl1 21 dX2_weigh_20 rfl (by omega) ?_
  refine w_puti 24 dX2_weigh_21 rfl faX2_31 rfl rfl rfl rfl ?_
  refine w_iconst 25 dX2_weigh_24 rfl (v := nI 0) rfl ?_
  refine w_ist2 26 dX2_weigh_25 rfl (by decide) rfl ?_
  exact lp26 _ 0 _ (Nat.zero_le _) ((OffL.rf.upd (by decide) _ _).upd (by decide) _ _) (by dsimp only; rw [upd2_off (by decide), upd2_at]) (by dsimp only; rw [upd2_at]) (fun s hs => absurd hs (Nat.not_lt_zero s)) (Nat.lt_succ_self _)

set_option maxRecDepth 4000 in
theorem c_X2_fitting {K : Option Value → AH → Prop} {A : AH} {nu N : Nat} {f : Nat → Nat} (hL : RepL nu N f A) (h : K (some (.int (nI (cntTo (fun s => decide (0 < f s)) N)))) A) : Ct yX2_fitting mX2_fitting 0 dC gC [.ref 56] A K := by
  refine Ct.of [some (.ref 56), none, none] rfl rfl rfl (Nat.le_of_ble_eq_true rfl) ?_
  obtain ⟨l1, l2, l3, l4, l5, l6⟩ := id hL
  have lp4 : ∀ (nf : Nat) (i : Nat), i ≤ N → N - i < nf → WP mX2_fitting 0 dC gC 4 [some (.ref 56), some (.int (nI (cntTo (fun s => decide (0 < f s)) i))), some (.int (nI i))] [] A K := by
    intro nf
    induction nf with
    | zero => intros; omega
    | succ nf ih =>
      intro i hi hms
      refine w_iload_n 5 dX2_fitting_4 rfl rfl ?_
      refine w_aload_n 6 dX2_fitting_5 rfl rfl ?_
      refine w_getiv 9 dX2_fitting_6 rfl faX2_31 rfl rfl rfl l2 ?_
      refine w_icgeN 37 12 dX2_fitting_9 rfl rfl (by omega) (by omega) (fun c9 => ?_) (fun c9 => ?_)
      · skip
        have e : i = N := by omega
        subst e
        refine w_iload_n 38 dX2_fitting_37 rfl rfl ?_
        refine wr_i dX2_fitting_38 rfl ?_
        exact h
      · skip
        refine w_iload_n 13 dX2_fitting_12 rfl rfl ?_
        refine w_aload_n 14 dX2_fitting_13 rfl rfl ?_
        refine w_getr 17 dX2_fitting_14 rfl faX2_11 rfl rfl rfl (r := .ref 57) rfl ?_
        refine w_iload_n 18 dX2_fitting_17 rfl rfl ?_
        refine w_laldv 19 dX2_fitting_18 rfl rfl rfl (by decide) (by omega) (l6 i (by omega)) ?_
        refine w_lconst 20 dX2_fitting_19 rfl (v := lN 0) rfl ?_
        refine w_lcmp 21 dX2_fitting_20 rfl ?_
        refine w_ifleL 28 24 dX2_fitting_21 rfl rfl (by have := l5 i; omega) (by omega) (fun c21 => ?_) (fun c21 => ?_)
        · skip
          refine w_iconst 29 dX2_fitting_28 rfl (v := nI 0) rfl ?_
          refine w_iaddN 30 dX2_fitting_29 rfl ?_
          refine w_ist1 31 dX2_fitting_30 rfl (by decide) rfl ?_
          refine w_inc2 34 dX2_fitting_31 rfl (by decide) rfl (v := nI (_ + 1)) (nI_1 _) ?_
          refine w_goto 4 dX2_fitting_34 rfl ?_
          refine wp_to ?_ rfl rfl (ih (i + 1) (by omega) (by omega))
          simp [lle, cntTo, Nat.not_lt.mpr c21]
        · skip
          refine w_iconst 25 dX2_fitting_24 rfl (v := nI 1) rfl ?_
          refine w_goto 29 dX2_fitting_25 rfl ?_
          refine w_iaddN 30 dX2_fitting_29 rfl ?_
          refine w_ist1 31 dX2_fitting_30 rfl (by decide) rfl ?_
          refine w_inc2 34 dX2_fitting_31 rfl (by decide) rfl (v := nI (_ + 1)) (nI_1 _) ?_
          refine w_goto 4 dX2_fitting_34 rfl ?_
          refine wp_to ?_ rfl rfl (ih (i + 1) (by omega) (by omega))
          simp [lle, cntTo, c21]
  refine w_iconst 1 dX2_fitting_0 rfl (v := nI 0) rfl ?_
  refine w_ist1 2 dX2_fitting_1 rfl (by decide) rfl ?_
  refine w_iconst 3 dX2_fitting_2 rfl (v := nI 0) rfl ?_
  refine w_ist2 4 dX2_fitting_3 rfl (by decide) rfl ?_
  exact lp4 _ 0 (Nat.zero_le _) (Nat.lt_succ_self _)

set_option maxRecDepth 4000 in
theorem c_X2_fittingAt {K : Option Value → AH → Prop} {A : AH} {nu N : Nat} {f : Nat → Nat} (hL : RepL nu N f A) {x : Nat} (hx : x < cntTo (fun s => decide (0 < f s)) N) (h : ∀ s, s < N → 0 < f s → cntTo (fun s => decide (0 < f s)) s = x → K (some (.int (nI s))) A) : Ct yX2_fittingAt mX2_fittingAt 0 dC gC [.ref 56, .int (nI x)] A K := by
  refine Ct.of [some (.ref 56), some (.int (nI x)), none, none] rfl rfl rfl (Nat.le_of_ble_eq_true rfl) ?_
  obtain ⟨l1, l2, l3, l4, l5, l6⟩ := id hL
  have hcl := cntTo_le (fun s => decide (0 < f s)) N
  have lp4 : ∀ (nf : Nat) (i : Nat), i ≤ N → cntTo (fun s => decide (0 < f s)) i ≤ x → N - i < nf → WP mX2_fittingAt 0 dC gC 4 [some (.ref 56), some (.int (nI x)), some (.int (nI (x - cntTo (fun s => decide (0 < f s)) i))), some (.int (nI i))] [] A K := by
    intro nf
    induction nf with
    | zero => intros; omega
    | succ nf ih =>
      intro i hi hci hms
      refine w_iload_n 5 dX2_fittingAt_4 rfl rfl ?_
      refine w_aload_n 6 dX2_fittingAt_5 rfl rfl ?_
      refine w_getiv 9 dX2_fittingAt_6 rfl faX2_31 rfl rfl rfl l2 ?_
      refine w_icgeN 38 12 dX2_fittingAt_9 rfl rfl (by omega) (by omega) (fun c9 => ?_) (fun c9 => ?_)
      · skip
        have e : i = N := by omega
        subst e
        omega
        
      · skip
        refine w_aload_n 13 dX2_fittingAt_12 rfl rfl ?_
        refine w_getr 16 dX2_fittingAt_13 rfl faX2_11 rfl rfl rfl (r := .ref 57) rfl ?_
        refine w_iload_n 17 dX2_fittingAt_16 rfl rfl ?_
        refine w_laldv 18 dX2_fittingAt_17 rfl rfl rfl (by decide) (by omega) (l6 i (by omega)) ?_
        refine w_lconst 19 dX2_fittingAt_18 rfl (v := lN 0) rfl ?_
        refine w_lcmp 20 dX2_fittingAt_19 rfl ?_
        refine w_ifleL 32 23 dX2_fittingAt_20 rfl rfl (by have := l5 i; omega) (by omega) (fun c20 => ?_) (fun c20 => ?_)
        · skip
          refine w_inc3 35 dX2_fittingAt_32 rfl (by decide) rfl (v := nI (_ + 1)) (nI_1 _) ?_
          refine w_goto 4 dX2_fittingAt_35 rfl ?_
          refine wp_to ?_ rfl rfl (ih (i + 1) (by omega) (by simp [cntTo, Nat.not_lt.mpr c20]; omega) (by omega))
          simp [lle, cntTo, Nat.not_lt.mpr c20]
        · skip
          refine w_iload_n 24 dX2_fittingAt_23 rfl rfl ?_
          refine w_ifneN 29 27 dX2_fittingAt_24 rfl rfl (by omega) (fun c24 => ?_) (fun c24 => ?_)
          · skip
            refine w_inc2 32 dX2_fittingAt_29 rfl (by decide) rfl (v := nI (x - cntTo (fun s => decide (0 < f s)) i - 1)) (show nI _ + (-1) = _ from sb_m1 (by omega)) ?_
            refine w_inc3 35 dX2_fittingAt_32 rfl (by decide) rfl (v := nI (_ + 1)) (nI_1 _) ?_
            refine w_goto 4 dX2_fittingAt_35 rfl ?_
            refine wp_to ?_ rfl rfl (ih (i + 1) (by omega) (by simp [cntTo, c20]; omega) (by omega))
            simp [lle, cntTo, c20, Nat.sub_sub]
          · skip
            refine w_iload_n 28 dX2_fittingAt_27 rfl rfl ?_
            refine wr_i dX2_fittingAt_28 rfl ?_
            exact h i c9 c20 (by omega)
  refine w_iload_n 1 dX2_fittingAt_0 rfl rfl ?_
  refine w_ist2 2 dX2_fittingAt_1 rfl (by decide) rfl ?_
  refine w_iconst 3 dX2_fittingAt_2 rfl (v := nI 0) rfl ?_
  refine w_ist3 4 dX2_fittingAt_3 rfl (by decide) rfl ?_
  exact lp4 _ 0 (Nat.zero_le _) (Nat.zero_le _) (Nat.lt_succ_self _)

set_option maxRecDepth 4000 in
theorem c_X2_whole {K : Option Value → AH → Prop} {A : AH} {nu N : Nat} {f : Nat → Nat} (hL : RepL nu N f A) (h : K (some (.long (lN (sumTo f N)))) A) : Ct yX2_whole mX2_whole 0 dC gC [.ref 56] A K := by
  refine Ct.of [some (.ref 56), none, none, none] rfl rfl rfl (Nat.le_of_ble_eq_true rfl) ?_
  obtain ⟨l1, l2, l3, l4, l5, l6⟩ := id hL
  have lp4 : ∀ (nf : Nat) (i : Nat), i ≤ N → N - i < nf → WP mX2_whole 0 dC gC 4 [some (.ref 56), some (.long (lN (sumTo f i))), none, some (.int (nI i))] [] A K := by
    intro nf
    induction nf with
    | zero => intros; omega
    | succ nf ih =>
      intro i hi hms
      refine w_iload_n 5 dX2_whole_4 rfl rfl ?_
      refine w_aload_n 6 dX2_whole_5 rfl rfl ?_
      refine w_getiv 9 dX2_whole_6 rfl faX2_31 rfl rfl rfl l2 ?_
      refine w_icgeN 27 12 dX2_whole_9 rfl rfl (by omega) (by omega) (fun c9 => ?_) (fun c9 => ?_)
      · skip
        have e : i = N := by omega
        subst e
        refine w_lload_n 28 dX2_whole_27 rfl rfl ?_
        refine wr_l dX2_whole_28 rfl ?_
        exact h
      · skip
        refine w_lload_n 13 dX2_whole_12 rfl rfl ?_
        refine w_aload_n 14 dX2_whole_13 rfl rfl ?_
        refine w_getr 17 dX2_whole_14 rfl faX2_11 rfl rfl rfl (r := .ref 57) rfl ?_
        refine w_iload_n 18 dX2_whole_17 rfl rfl ?_
        refine w_laldv 19 dX2_whole_18 rfl rfl rfl (by decide) (by omega) (l6 i (by omega)) ?_
        refine w_laddN 20 dX2_whole_19 rfl ?_
        refine w_lst1 21 dX2_whole_20 rfl (by decide) rfl ?_
        refine w_inc3 24 dX2_whole_21 rfl (by decide) rfl (v := nI (_ + 1)) (nI_1 _) ?_
        refine w_goto 4 dX2_whole_24 rfl ?_
        exact ih (i + 1) (by omega) (by omega)
  refine w_lconst 1 dX2_whole_0 rfl (v := lN 0) rfl ?_
  refine w_lst1 2 dX2_whole_1 rfl (by decide) rfl ?_
  refine w_iconst 3 dX2_whole_2 rfl (v := nI 0) rfl ?_
  refine w_ist3 4 dX2_whole_3 rfl (by decide) rfl ?_
  exact lp4 _ 0 (Nat.zero_le _) (Nat.lt_succ_self _)

set_option maxRecDepth 4000 in
theorem c_X2_weightWith {K : Option Value → AH → Prop} {A : AH} {nu N : Nat} {f : Nat → Nat} (hL : RepL nu N f A) {k : Nat} (hk : k < 32) (h : K (some (.long (lN (sumTo (fun s => if s.testBit k then f s else 0) N)))) A) : Ct yX2_weightWith mX2_weightWith 1 dC gC [.ref 56, .int (nI k)] A K := by
  refine Ct.of [some (.ref 56), some (.int (nI k)), none, none, none] rfl rfl rfl (Nat.le_of_ble_eq_true rfl) ?_
  obtain ⟨l1, l2, l3, l4, l5, l6⟩ := id hL
  have lp5 : ∀ (nf : Nat) (i : Nat), i ≤ N → N - i < nf → WP mX2_weightWith 1 dC gC 5 [some (.ref 56), some (.int (nI k)), some (.long (lN (sumTo (fun s => if s.testBit k then f s else 0) i))), none, some (.int (nI i))] [] A K := by
    intro nf
    induction nf with
    | zero => intros; omega
    | succ nf ih =>
      intro i hi hms
      refine w_iload 7 dX2_weightWith_5 rfl rfl ?_
      refine w_aload_n 8 dX2_weightWith_7 rfl rfl ?_
      refine w_getiv 11 dX2_weightWith_8 rfl faX2_31 rfl rfl rfl l2 ?_
      refine w_icgeN 43 14 dX2_weightWith_11 rfl rfl (by omega) (by omega) (fun c11 => ?_) (fun c11 => ?_)
      · skip
        have e : i = N := by omega
        subst e
        refine w_lload_n 44 dX2_weightWith_43 rfl rfl ?_
        refine wr_l dX2_weightWith_44 rfl ?_
        exact h
      · skip
        refine w_lload_n 15 dX2_weightWith_14 rfl rfl ?_
        refine w_iload 17 dX2_weightWith_15 rfl rfl ?_
        refine w_iload_n 18 dX2_weightWith_17 rfl rfl ?_
        refine w_invs2 21 dX2_weightWith_18 rfl slX2_58 (d' := 0) (by decide) (Nat.le_of_ble_eq_true rfl) (c_X11_has ?_)
        rw [hasB_nI (by omega) (by omega)]
        refine w_ifeqB 34 24 dX2_weightWith_21 rfl rfl (fun c21 => ?_) (fun c21 => ?_)
        · skip
          refine w_lconst 35 dX2_weightWith_34 rfl (v := lN 0) rfl ?_
          refine w_laddN 36 dX2_weightWith_35 rfl ?_
          refine w_lst2 37 dX2_weightWith_36 rfl (by decide) rfl ?_
          refine w_inc4 40 dX2_weightWith_37 rfl (by decide) rfl (v := nI (_ + 1)) (nI_1 _) ?_
          refine w_goto 5 dX2_weightWith_40 rfl ?_
          refine wp_to ?_ rfl rfl (ih (i + 1) (by omega) (by omega))
          simp [lle, sumTo, c21]
        · skip
          refine w_aload_n 25 dX2_weightWith_24 rfl rfl ?_
          refine w_getr 28 dX2_weightWith_25 rfl faX2_11 rfl rfl rfl (r := .ref 57) rfl ?_
          refine w_iload 30 dX2_weightWith_28 rfl rfl ?_
          refine w_laldv 31 dX2_weightWith_30 rfl rfl rfl (by decide) (by omega) (l6 i (by omega)) ?_
          refine w_goto 35 dX2_weightWith_31 rfl ?_
          refine w_laddN 36 dX2_weightWith_35 rfl ?_
          refine w_lst2 37 dX2_weightWith_36 rfl (by decide) rfl ?_
          refine w_inc4 40 dX2_weightWith_37 rfl (by decide) rfl (v := nI (_ + 1)) (nI_1 _) ?_
          refine w_goto 5 dX2_weightWith_40 rfl ?_
          refine wp_to ?_ rfl rfl (ih (i + 1) (by omega) (by omega))
          simp [lle, sumTo, c21]
  refine w_lconst 1 dX2_weightWith_0 rfl (v := lN 0) rfl ?_
  refine w_lst2 2 dX2_weightWith_1 rfl (by decide) rfl ?_
  refine w_iconst 3 dX2_weightWith_2 rfl (v := nI 0) rfl ?_
  refine w_ist4 5 dX2_weightWith_3 rfl (by decide) rfl ?_
  exact lp5 _ 0 (Nat.zero_le _) (Nat.lt_succ_self _)

set_option maxRecDepth 4000 in
theorem c_X2_weightOfBrown {K : Option Value → AH → Prop} {A : AH} {nu N : Nat} {f : Nat → Nat} (hL : RepL nu N f A) {w : WT} {t u : Nat} (hT : RepT w 26 A) (hw : okL w) (ht : t < 1000) (hu : u < 1000) (h : K (some (.long (lN (sumTo (fun s => if (liedB w t s || liedB w u s) then f s else 0) N)))) A) : Ct yX2_weightOfBrown mX2_weightOfBrown 4 dC gC [.ref 56, .ref 26, .int (nI t), .int (nI u)] A K := by
  refine Ct.of [some (.ref 56), some (.ref 26), some (.int (nI t)), some (.int (nI u)), none, none, none] rfl rfl rfl (Nat.le_of_ble_eq_true rfl) ?_
  obtain ⟨l1, l2, l3, l4, l5, l6⟩ := id hL
  have lp6 : ∀ (nf : Nat) (i : Nat), i ≤ N → N - i < nf → WP mX2_weightOfBrown 4 dC gC 6 [some (.ref 56), some (.ref 26), some (.int (nI t)), some (.int (nI u)), some (.long (lN (sumTo (fun s => if (liedB w t s || liedB w u s) then f s else 0) i))), none, some (.int (nI i))] [] A K := by
    intro nf
    induction nf with
    | zero => intros; omega
    | succ nf ih =>
      intro i hi hms
      refine w_iload 8 dX2_weightOfBrown_6 rfl rfl ?_
      refine w_aload_n 9 dX2_weightOfBrown_8 rfl rfl ?_
      refine w_getiv 12 dX2_weightOfBrown_9 rfl faX2_31 rfl rfl rfl l2 ?_
      refine w_icgeN 48 15 dX2_weightOfBrown_12 rfl rfl (by omega) (by omega) (fun c12 => ?_) (fun c12 => ?_)
      · skip
        have e : i = N := by omega
        subst e
        refine w_lload 50 dX2_weightOfBrown_48 rfl rfl ?_
        refine wr_l dX2_weightOfBrown_50 rfl ?_
        exact h
      · skip
        refine w_lload 17 dX2_weightOfBrown_15 rfl rfl ?_
        refine w_aload_n 18 dX2_weightOfBrown_17 rfl rfl ?_
        refine w_iload_n 19 dX2_weightOfBrown_18 rfl rfl ?_
        refine w_iload_n 20 dX2_weightOfBrown_19 rfl rfl ?_
        refine w_iload 22 dX2_weightOfBrown_20 rfl rfl ?_
        refine w_invs4 25 dX2_weightOfBrown_22 rfl slX2_46 (d' := 3) (by decide) (Nat.le_of_ble_eq_true rfl) (c_X2_isBrown hT hw ht hu (by omega) ?_)
        refine w_ifeqB 38 28 dX2_weightOfBrown_25 rfl rfl (fun c25 => ?_) (fun c25 => ?_)
        · skip
          refine w_lconst 39 dX2_weightOfBrown_38 rfl (v := lN 0) rfl ?_
          refine w_laddN 40 dX2_weightOfBrown_39 rfl ?_
          refine w_lst4 42 dX2_weightOfBrown_40 rfl (by decide) rfl ?_
          refine w_inc6 45 dX2_weightOfBrown_42 rfl (by decide) rfl (v := nI (_ + 1)) (nI_1 _) ?_
          refine w_goto 6 dX2_weightOfBrown_45 rfl ?_
          refine wp_to ?_ rfl rfl (ih (i + 1) (by omega) (by omega))
          simp only [lle, sumTo, c25]
          simp
        · skip
          refine w_aload_n 29 dX2_weightOfBrown_28 rfl rfl ?_
          refine w_getr 32 dX2_weightOfBrown_29 rfl faX2_11 rfl rfl rfl (r := .ref 57) rfl ?_
          refine w_iload 34 dX2_weightOfBrown_32 rfl rfl ?_
          refine w_laldv 35 dX2_weightOfBrown_34 rfl rfl rfl (by decide) (by omega) (l6 i (by omega)) ?_
          refine w_goto 39 dX2_weightOfBrown_35 rfl ?_
          refine w_laddN 40 dX2_weightOfBrown_39 rfl ?_
          refine w_lst4 42 dX2_weightOfBrown_40 rfl (by decide) rfl ?_
          refine w_inc6 45 dX2_weightOfBrown_42 rfl (by decide) rfl (v := nI (_ + 1)) (nI_1 _) ?_
          refine w_goto 6 dX2_weightOfBrown_45 rfl ?_
          refine wp_to ?_ rfl rfl (ih (i + 1) (by omega) (by omega))
          simp only [lle, sumTo, c25]
          simp
  refine w_lconst 1 dX2_weightOfBrown_0 rfl (v := lN 0) rfl ?_
  refine w_lst4 3 dX2_weightOfBrown_1 rfl (by decide) rfl ?_
  refine w_iconst 4 dX2_weightOfBrown_3 rfl (v := nI 0) rfl ?_
  refine w_ist6 6 dX2_weightOfBrown_4 rfl (by decide) rfl ?_
  exact lp6 _ 0 (Nat.zero_le _) (Nat.lt_succ_self _)

/-- the first of the greatest: where, how much -/
def hv (f : Nat → Nat) : Nat → Option Nat × Nat
  | 0 => (none, 0)
  | n + 1 => if (hv f n).2 < f n then (some n, f n) else hv f n
theorem hv_le {f : Nat → Nat} {c : Nat} (h : ∀ s, f s ≤ c) : ∀ n, (hv f n).2 ≤ c
  | 0 => Nat.zero_le _
  | n + 1 => by
    simp only [hv]
    split
    · exact h n
    · exact hv_le h n
/-- the first of the least: where, how much -/
def lv1 (f : Nat → Nat) : Nat → Option Nat × Nat
  | 0 => (none, 0)
  | n + 1 => if (lv1 f n).1 = none ∨ f n < (lv1 f n).2 then (some n, f n) else lv1 f n
theorem lv1_le {f : Nat → Nat} {c : Nat} (h : ∀ s, f s ≤ c) : ∀ n, (lv1 f n).2 ≤ c
  | 0 => Nat.zero_le _
  | n + 1 => by
    simp only [lv1]
    split
    · exact h n
    · exact lv1_le h n
theorem lv1_lt {f : Nat → Nat} {k : Nat} : ∀ {n : Nat}, (lv1 f n).1 = some k → k < n
  | 0, h => by simp [lv1] at h
  | n + 1, h => by
    simp only [lv1] at h
    split at h
    · cases h; omega
    · have := lv1_lt h; omega
theorem enc2_m2 {o : Option Nat} (h : ∀ k, o = some k → k < 2 ^ 31) : enc2 o = -2 ↔ o = none := by
  cases o with
  | none => exact ⟨fun _ => rfl, fun _ => rfl⟩
  | some k => exact ⟨fun e => absurd e (nI_m2 (h k rfl)), fun e => by cases e⟩
set_option maxRecDepth 4000 in
theorem c_X2_heaviest {K : Option Value → AH → Prop} {A : AH} {nu N : Nat} {f : Nat → Nat} (hL : RepL nu N f A) (h : K (some (.int (enc2 (hv f N).1))) A) : Ct yX2_heaviest mX2_heaviest 0 dC gC [.ref 56] A K := by
  refine Ct.of [some (.ref 56), none, none, none, none] rfl rfl rfl (Nat.le_of_ble_eq_true rfl) ?_
  obtain ⟨l1, l2, l3, l4, l5, l6⟩ := id hL
  have lp8 : ∀ (nf : Nat) (i : Nat), i ≤ N → N - i < nf → WP mX2_heaviest 0 dC gC 8 [some (.ref 56), some (.int (enc2 (hv f i).1)), some (.long (lN (hv f i).2)), none, some (.int (nI i))] [] A K := by
    intro nf
    induction nf with
    | zero => intros; omega
    | succ nf ih =>
      intro i hi hms
      refine w_iload 10 dX2_heaviest_8 rfl rfl ?_
      refine w_aload_n 11 dX2_heaviest_10 rfl rfl ?_
      refine w_getiv 14 dX2_heaviest_11 rfl faX2_31 rfl rfl rfl l2 ?_
      refine w_icgeN 46 17 dX2_heaviest_14 rfl rfl (by omega) (by omega) (fun c14 => ?_) (fun c14 => ?_)
      · skip
        have e : i = N := by omega
        subst e
        refine w_iload_n 47 dX2_heaviest_46 rfl rfl ?_
        refine wr_i dX2_heaviest_47 rfl ?_
        exact h
      · skip
        refine w_aload_n 18 dX2_heaviest_17 rfl rfl ?_
        refine w_getr 21 dX2_heaviest_18 rfl faX2_11 rfl rfl rfl (r := .ref 57) rfl ?_
        refine w_iload 23 dX2_heaviest_21 rfl rfl ?_
        refine w_laldv 24 dX2_heaviest_23 rfl rfl rfl (by decide) (by omega) (l6 i (by omega)) ?_
        refine w_lload_n 25 dX2_heaviest_24 rfl rfl ?_
        refine w_lcmp 26 dX2_heaviest_25 rfl ?_
        refine w_ifleL 40 29 dX2_heaviest_26 rfl rfl (by have := l5 i; omega) (by have := hv_le l5 i; omega) (fun c26 => ?_) (fun c26 => ?_)
        · skip
          refine w_inc4 43 dX2_heaviest_40 rfl (by decide) rfl (v := nI (_ + 1)) (nI_1 _) ?_
          refine w_goto 8 dX2_heaviest_43 rfl ?_
          refine wp_to ?_ rfl rfl (ih (i + 1) (by omega) (by omega))
          simp [lle, hv, Nat.not_lt.mpr c26]
        · skip
          refine w_aload_n 30 dX2_heaviest_29 rfl rfl ?_
          refine w_getr 33 dX2_heaviest_30 rfl faX2_11 rfl rfl rfl (r := .ref 57) rfl ?_
          refine w_iload 35 dX2_heaviest_33 rfl rfl ?_
          refine w_laldv 36 dX2_heaviest_35 rfl rfl rfl (by decide) (by omega) (l6 i (by omega)) ?_
          refine w_lst2 37 dX2_heaviest_36 rfl (by decide) rfl ?_
          refine w_iload 39 dX2_heaviest_37 rfl rfl ?_
          refine w_ist1 40 dX2_heaviest_39 rfl (by decide) rfl ?_
          refine w_inc4 43 dX2_heaviest_40 rfl (by decide) rfl (v := nI (_ + 1)) (nI_1 _) ?_
          refine w_goto 8 dX2_heaviest_43 rfl ?_
          refine wp_to ?_ rfl rfl (ih (i + 1) (by omega) (by omega))
          simp [lle, hv, c26, enc2]
  refine w_bipush 2 dX2_heaviest_0 rfl (v := (-2)) rfl ?_
  refine w_ist1 3 dX2_heaviest_2 rfl (by decide) rfl ?_
  refine w_lconst 4 dX2_heaviest_3 rfl (v := lN 0) rfl ?_
  refine w_lst2 5 dX2_heaviest_4 rfl (by decide) rfl ?_
  refine w_iconst 6 dX2_heaviest_5 rfl (v := nI 0) rfl ?_
  refine w_ist4 8 dX2_heaviest_6 rfl (by decide) rfl ?_
  exact lp8 _ 0 (Nat.zero_le _) (Nat.lt_succ_self _)

theorem cntTo_sub (p r : Nat → Bool) (h : ∀ i, p i = true → r i = true) : ∀ n, cntTo p n ≤ cntTo r n
  | 0 => Nat.le_refl _
  | n + 1 => by
    have ih := cntTo_sub p r h n
    simp only [cntTo]
    by_cases hp : p n = true
    · simp only [hp, h n hp, if_pos]; omega
    · rw [if_neg hp]
      split <;> omega
def leftF (f : Nat → Nat) (N k : Nat) : Nat := max (cntTo (fun s => s.testBit k && decide (0 < f s)) N) (cntTo (fun s => decide (0 < f s)) N - cntTo (fun s => s.testBit k && decide (0 < f s)) N)
theorem leftF_le (f : Nat → Nat) (N k : Nat) : leftF f N k ≤ N := by
  have h1 := cntTo_le (fun s => s.testBit k && decide (0 < f s)) N
  have h2 := cntTo_le (fun s => decide (0 < f s)) N
  unfold leftF
  omega
theorem maxN {a b : Nat} (ha : a < 2 ^ 31) (hb : b < 2 ^ 31) : (if nI a < nI b then nI b else nI a) = nI (max a b) := by
  by_cases h : a < b
  · rw [if_pos ((nI_ltI ha hb).mpr h), Nat.max_eq_right (by omega)]
  · rw [if_neg (fun q => h ((nI_ltI ha hb).mp q)), Nat.max_eq_left (by omega)]
set_option maxRecDepth 4000 in
theorem c_X2_leftAtMost {K : Option Value → AH → Prop} {A : AH} {nu N : Nat} {f : Nat → Nat} (hL : RepL nu N f A) {k : Nat} (hk : k < 32) (h : K (some (.int (nI (leftF f N k)))) A) : Ct yX2_leftAtMost mX2_leftAtMost 1 dC gC [.ref 56, .int (nI k)] A K := by
  refine Ct.of [some (.ref 56), some (.int (nI k)), none, none] rfl rfl rfl (Nat.le_of_ble_eq_true rfl) ?_
  obtain ⟨l1, l2, l3, l4, l5, l6⟩ := id hL
  have lp4 : ∀ (nf : Nat) (i : Nat), i ≤ N → N - i < nf → WP mX2_leftAtMost 1 dC gC 4 [some (.ref 56), some (.int (nI k)), some (.int (nI (cntTo (fun s => s.testBit k && decide (0 < f s)) i))), some (.int (nI i))] [] A K := by
    intro nf
    induction nf with
    | zero => intros; omega
    | succ nf ih =>
      intro i hi hms
      refine w_iload_n 5 dX2_leftAtMost_4 rfl rfl ?_
      refine w_aload_n 6 dX2_leftAtMost_5 rfl rfl ?_
      refine w_getiv 9 dX2_leftAtMost_6 rfl faX2_31 rfl rfl rfl l2 ?_
      refine w_icgeN 45 12 dX2_leftAtMost_9 rfl rfl (by omega) (by omega) (fun c9 => ?_) (fun c9 => ?_)
      · skip
        have e : i = N := by omega
        subst e
        refine w_iload_n 46 dX2_leftAtMost_45 rfl rfl ?_
        refine w_aload_n 47 dX2_leftAtMost_46 rfl rfl ?_
        refine w_inv0 50 dX2_leftAtMost_47 rfl mlX2_65 rfl rfl (d' := 0) (by decide) (Nat.le_of_ble_eq_true rfl) (c_X2_fitting hL ?_)
        refine w_iload_n 51 dX2_leftAtMost_50 rfl rfl ?_
        refine w_isubN 52 dX2_leftAtMost_51 rfl (cntTo_sub _ _ (fun s hs => by simp at hs; simp [hs.2]) _) ?_
        refine w_mmax 55 dX2_leftAtMost_52 rfl mxX2_68 (by decide) (Nat.le_of_ble_eq_true rfl) ?_
        refine w_top (maxN (by have := cntTo_le (fun s => s.testBit k && decide (0 < f s)) i; omega) (by have := cntTo_le (fun s => decide (0 < f s)) i; omega)) ?_
        refine wr_i dX2_leftAtMost_55 rfl ?_
        exact h
      · skip
        refine w_iload_n 13 dX2_leftAtMost_12 rfl rfl ?_
        refine w_iload_n 14 dX2_leftAtMost_13 rfl rfl ?_
        refine w_iload_n 15 dX2_leftAtMost_14 rfl rfl ?_
        refine w_invs2 18 dX2_leftAtMost_15 rfl slX2_58 (d' := 0) (by decide) (Nat.le_of_ble_eq_true rfl) (c_X11_has ?_)
        rw [hasB_nI (by omega) (by omega)]
        refine w_ifeqB 36 21 dX2_leftAtMost_18 rfl rfl (fun c18 => ?_) (fun c18 => ?_)
        · skip
          refine w_iconst 37 dX2_leftAtMost_36 rfl (v := nI 0) rfl ?_
          refine w_iaddN 38 dX2_leftAtMost_37 rfl ?_
          refine w_ist2 39 dX2_leftAtMost_38 rfl (by decide) rfl ?_
          refine w_inc3 42 dX2_leftAtMost_39 rfl (by decide) rfl (v := nI (_ + 1)) (nI_1 _) ?_
          refine w_goto 4 dX2_leftAtMost_42 rfl ?_
          refine wp_to ?_ rfl rfl (ih (i + 1) (by omega) (by omega))
          simp [lle, cntTo, c18]
        · skip
          refine w_aload_n 22 dX2_leftAtMost_21 rfl rfl ?_
          refine w_getr 25 dX2_leftAtMost_22 rfl faX2_11 rfl rfl rfl (r := .ref 57) rfl ?_
          refine w_iload_n 26 dX2_leftAtMost_25 rfl rfl ?_
          refine w_laldv 27 dX2_leftAtMost_26 rfl rfl rfl (by decide) (by omega) (l6 i (by omega)) ?_
          refine w_lconst 28 dX2_leftAtMost_27 rfl (v := lN 0) rfl ?_
          refine w_lcmp 29 dX2_leftAtMost_28 rfl ?_
          refine w_ifleL 36 32 dX2_leftAtMost_29 rfl rfl (by have := l5 i; omega) (by omega) (fun c29 => ?_) (fun c29 => ?_)
          · skip
            refine w_iconst 37 dX2_leftAtMost_36 rfl (v := nI 0) rfl ?_
            refine w_iaddN 38 dX2_leftAtMost_37 rfl ?_
            refine w_ist2 39 dX2_leftAtMost_38 rfl (by decide) rfl ?_
            refine w_inc3 42 dX2_leftAtMost_39 rfl (by decide) rfl (v := nI (_ + 1)) (nI_1 _) ?_
            refine w_goto 4 dX2_leftAtMost_42 rfl ?_
            refine wp_to ?_ rfl rfl (ih (i + 1) (by omega) (by omega))
            simp [lle, cntTo, c18, Nat.not_lt.mpr c29]
          · skip
            refine w_iconst 33 dX2_leftAtMost_32 rfl (v := nI 1) rfl ?_
            refine w_goto 37 dX2_leftAtMost_33 rfl ?_
            refine w_iaddN 38 dX2_leftAtMost_37 rfl ?_
            refine w_ist2 39 dX2_leftAtMost_38 rfl (by decide) rfl ?_
            refine w_inc3 42 dX2_leftAtMost_39 rfl (by decide) rfl (v := nI (_ + 1)) (nI_1 _) ?_
            refine w_goto 4 dX2_leftAtMost_42 rfl ?_
            refine wp_to ?_ rfl rfl (ih (i + 1) (by omega) (by omega))
            simp [lle, cntTo, c18, c29]
  refine w_iconst 1 dX2_leftAtMost_0 rfl (v := nI 0) rfl ?_
  refine w_ist2 2 dX2_leftAtMost_1 rfl (by decide) rfl ?_
  refine w_iconst 3 dX2_leftAtMost_2 rfl (v := nI 0) rfl ?_
  refine w_ist3 4 dX2_leftAtMost_3 rfl (by decide) rfl ?_
  exact lp4 _ 0 (Nat.zero_le _) (Nat.lt_succ_self _)

def bestV (f : Nat → Nat) (nu N : Nat) : Option Nat := if cntTo (fun s => decide (0 < f s)) N = 0 then none else (lv1 (leftF f N) nu).1
set_option maxRecDepth 4000 in
theorem c_X2_bestAsked {K : Option Value → AH → Prop} {A : AH} {nu N : Nat} {f : Nat → Nat} (hL : RepL nu N f A) (h : K (some (.int (enc2 (bestV f nu N)))) A) : Ct yX2_bestAsked mX2_bestAsked 2 dC gC [.ref 56] A K := by
  refine Ct.of [some (.ref 56), none, none, none, none] rfl rfl rfl (Nat.le_of_ble_eq_true rfl) ?_
  obtain ⟨l1, l2, l3, l4, l5, l6⟩ := id hL
  have lp17 : ∀ (nf : Nat) (i : Nat), i ≤ nu → cntTo (fun s => decide (0 < f s)) N ≠ 0 → nu - i < nf → WP mX2_bestAsked 2 dC gC 17 [some (.ref 56), some (.int (enc2 (lv1 (leftF f N) i).1)), some (.int (nI (lv1 (leftF f N) i).2)), some (.int (nI i)), none] [] A K := by
    intro nf
    induction nf with
    | zero => intros; omega
    | succ nf ih =>
      intro i hi hne hms
      have hll := lv1_le (leftF_le f N) i
      refine w_iload_n 18 dX2_bestAsked_17 rfl rfl ?_
      refine w_aload_n 19 dX2_bestAsked_18 rfl rfl ?_
      refine w_getiv 22 dX2_bestAsked_19 rfl faX2_27 rfl rfl rfl l1 ?_
      refine w_icgeN 55 25 dX2_bestAsked_22 rfl rfl (by omega) (by omega) (fun c22 => ?_) (fun c22 => ?_)
      · skip
        refine w_iload_n 56 dX2_bestAsked_55 rfl rfl ?_
        refine wr_i dX2_bestAsked_56 rfl ?_
        have e : i = nu := by omega
        subst e
        exact kq h (by simp [bestV, hne])
      · skip
        refine w_aload_n 26 dX2_bestAsked_25 rfl rfl ?_
        refine w_iload_n 27 dX2_bestAsked_26 rfl rfl ?_
        refine w_inv1 30 dX2_bestAsked_27 rfl mlX2_71 rfl rfl (d' := 1) (by decide) (Nat.le_of_ble_eq_true rfl) (c_X2_leftAtMost hL (by omega) ?_)
        refine w_ist4 32 dX2_bestAsked_30 rfl (by decide) rfl ?_
        refine w_iload_n 33 dX2_bestAsked_32 rfl rfl ?_
        refine w_bipush 35 dX2_bestAsked_33 rfl (v := (-2)) rfl ?_
        refine w_iceq 44 38 dX2_bestAsked_35 rfl rfl (fun c35 => ?_) (fun c35 => ?_)
        · skip
          refine w_iload 46 dX2_bestAsked_44 rfl rfl ?_
          refine w_ist2 47 dX2_bestAsked_46 rfl (by decide) rfl ?_
          refine w_iload_n 48 dX2_bestAsked_47 rfl rfl ?_
          refine w_ist1 49 dX2_bestAsked_48 rfl (by decide) rfl ?_
          refine w_inc3 52 dX2_bestAsked_49 rfl (by decide) rfl (v := nI (_ + 1)) (nI_1 _) ?_
          refine w_goto 17 dX2_bestAsked_52 rfl ?_
          have c35 := (enc2_m2 (fun k hk => by have := lv1_lt hk; omega)).mp c35
          refine wp_to ?_ rfl rfl (ih (i + 1) (by omega) hne (by omega))
          simp [lle, lv1, c35, enc2]
        · skip
          refine w_iload 40 dX2_bestAsked_38 rfl rfl ?_
          refine w_iload_n 41 dX2_bestAsked_40 rfl rfl ?_
          refine w_icgeN 49 44 dX2_bestAsked_41 rfl rfl (by have := leftF_le f N i; omega) (by omega) (fun c41 => ?_) (fun c41 => ?_)
          · skip
            refine w_inc3 52 dX2_bestAsked_49 rfl (by decide) rfl (v := nI (_ + 1)) (nI_1 _) ?_
            refine w_goto 17 dX2_bestAsked_52 rfl ?_
            have c35 := fun e => c35 ((enc2_m2 (fun k hk => by have := lv1_lt hk; omega)).mpr e)
            refine wp_to ?_ rfl rfl (ih (i + 1) (by omega) hne (by omega))
            have e9 : lv1 (leftF f N) (i + 1) = lv1 (leftF f N) i := by simp only [lv1]; rw [if_neg (fun q => q.elim c35 (fun z => by omega))]
            simp [lle, e9]
          · skip
            refine w_iload 46 dX2_bestAsked_44 rfl rfl ?_
            refine w_ist2 47 dX2_bestAsked_46 rfl (by decide) rfl ?_
            refine w_iload_n 48 dX2_bestAsked_47 rfl rfl ?_
            refine w_ist1 49 dX2_bestAsked_48 rfl (by decide) rfl ?_
            refine w_inc3 52 dX2_bestAsked_49 rfl (by decide) rfl (v := nI (_ + 1)) (nI_1 _) ?_
            refine w_goto 17 dX2_bestAsked_52 rfl ?_
            refine wp_to ?_ rfl rfl (ih (i + 1) (by omega) hne (by omega))
            simp [lle, lv1, c41, enc2]
  refine w_aload_n 1 dX2_bestAsked_0 rfl rfl ?_
  refine w_inv0 4 dX2_bestAsked_1 rfl mlX2_65 rfl rfl (d' := 0) (by decide) (Nat.le_of_ble_eq_true rfl) (c_X2_fitting hL ?_)
  refine w_ifneN 10 7 dX2_bestAsked_4 rfl rfl (by have := cntTo_le (fun s => decide (0 < f s)) N; omega) (fun c4 => ?_) (fun c4 => ?_)
  · skip
    refine w_bipush 12 dX2_bestAsked_10 rfl (v := (-2)) rfl ?_
    refine w_ist1 13 dX2_bestAsked_12 rfl (by decide) rfl ?_
    refine w_iconst 14 dX2_bestAsked_13 rfl (v := nI 0) rfl ?_
    refine w_ist2 15 dX2_bestAsked_14 rfl (by decide) rfl ?_
    refine w_iconst 16 dX2_bestAsked_15 rfl (v := nI 0) rfl ?_
    refine w_ist3 17 dX2_bestAsked_16 rfl (by decide) rfl ?_
    exact lp17 _ 0 (Nat.zero_le _) c4 (Nat.lt_succ_self _)
  · skip
    refine w_bipush 9 dX2_bestAsked_7 rfl (v := (-2)) rfl ?_
    refine wr_i dX2_bestAsked_9 rfl ?_
    exact kq h (by simp [bestV, c4, enc2])
