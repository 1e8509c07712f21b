/-! ===== the reference: tests, brown, judge, winds ===== -/
set_option maxRecDepth 4000 in
theorem c_X13_test {K : Option Value → AH → Prop} {A : AH} {r : Value} {w : WT} {s : Nat → Nat} (hC : MC w s A) (h : ∀ A', QM A A' → A'.1 100 1 = nI (t1 (okW1 w)) → A'.1 100 2 = -1 → K (some (.int (qTest w))) A') : Ct yX13_test mX13_test 6 dM (GG (.ref 111) r) [.ref 100] A K := by
  refine Ct.of [some (.ref 100)] rfl rfl rfl (Nat.le_of_ble_eq_true rfl) ?_
  refine w_aload_n 1 dX13_test_0 rfl rfl ?_
  refine w_iconst 2 dX13_test_1 rfl (v := nI 0) rfl ?_
  refine w_puti 5 dX13_test_2 rfl faX13_46 rfl rfl rfl rfl ?_
  have hQ1 : QM A (upd2 A.1 100 0 (nI 0), A.2) := QM.rf.f (by decide) _
  have hC1 := hC.q hQ1
  have hz : t1 (okW1 w) = 0 := by rw [okW1_t hC]; rfl
  refine w_aload_n 6 dX13_test_5 rfl rfl ?_
  refine w_getr 9 dX13_test_6 rfl faX13_343 rfl rfl rfl (r := .ref 111) rfl ?_
  refine w_nnR 20 dX13_test_9 rfl ?_
  refine w_aload_n 21 dX13_test_20 rfl rfl ?_
  refine w_aload_n 22 dX13_test_21 rfl rfl ?_
  refine w_inv0 25 dX13_test_22 rfl mlX13_475 rfl rfl (d' := 5) (by decide) (Nat.le_of_ble_eq_true rfl) (c_X13_tests hC1 (fun A3 hQ3 h28 => ?_))
  refine w_inv1 28 dX13_test_25 rfl mlX13_56 rfl rfl (d' := 0) (by decide) (Nat.le_of_ble_eq_true rfl) (c_X13_good (fun A9 hQ9 ht9 hw9 => ?_))
  refine wr_i dX13_test_28 rfl ?_
  exact kq (h A9 ((hQ1.tr hQ3).tr hQ9) (by rw [hz]; exact ht9) hw9) (by unfold qTest; rw [if_pos hz])

set_option maxRecDepth 4000 in
theorem c_X13_testLeaves {K : Option Value → AH → Prop} {A : AH} {r : Value} {w : WT} {s : Nat → Nat} (hC : MC w s A) (h : ∀ A', QM A A' → A'.1 100 1 = nI (t1 (okW1 w)) → A'.1 100 2 = -1 → K (some (.int (qTestLeaves w))) A') : Ct yX13_testLeaves mX13_testLeaves 6 dM (GG (.ref 111) r) [.ref 100] A K := by
  refine Ct.of [some (.ref 100)] rfl rfl rfl (Nat.le_of_ble_eq_true rfl) ?_
  refine w_aload_n 1 dX13_testLeaves_0 rfl rfl ?_
  refine w_iconst 2 dX13_testLeaves_1 rfl (v := nI 0) rfl ?_
  refine w_puti 5 dX13_testLeaves_2 rfl faX13_46 rfl rfl rfl rfl ?_
  have hQ1 : QM A (upd2 A.1 100 0 (nI 0), A.2) := QM.rf.f (by decide) _
  have hC1 := hC.q hQ1
  have hz : t1 (okW1 w) = 0 := by rw [okW1_t hC]; rfl
  refine w_aload_n 6 dX13_testLeaves_5 rfl rfl ?_
  refine w_getr 9 dX13_testLeaves_6 rfl faX13_343 rfl rfl rfl (r := .ref 111) rfl ?_
  refine w_nnR 18 dX13_testLeaves_9 rfl ?_
  refine w_aload_n 19 dX13_testLeaves_18 rfl rfl ?_
  refine w_inv0 22 dX13_testLeaves_19 rfl mlX13_475 rfl rfl (d' := 5) (by decide) (Nat.le_of_ble_eq_true rfl) (c_X13_tests hC1 (fun A3 hQ3 h28 => ?_))
  refine w_pop 23 dX13_testLeaves_22 rfl ?_
  refine w_aload_n 24 dX13_testLeaves_23 rfl rfl ?_
  refine w_aload_n 25 dX13_testLeaves_24 rfl rfl ?_
  refine w_getiv 28 dX13_testLeaves_25 rfl faX13_472 rfl rfl rfl h28 ?_
  refine w_inv1 31 dX13_testLeaves_28 rfl mlX13_56 rfl rfl (d' := 0) (by decide) (Nat.le_of_ble_eq_true rfl) (c_X13_good (fun A9 hQ9 ht9 hw9 => ?_))
  refine wr_i dX13_testLeaves_31 rfl ?_
  exact kq (h A9 ((hQ1.tr hQ3).tr hQ9) (by rw [hz]; exact ht9) hw9) (by unfold qTestLeaves; rw [if_pos hz])

set_option maxRecDepth 4000 in
theorem c_X13_isLiedNow {K : Option Value → AH → Prop} {A : AH} {r : Value} {w : WT} {s : Nat → Nat} {t x : Nat} (hC : MC w s A) (ht : t < s 1) (hx : x < 32) (h : K (some (.int (b2i (liedB w t x)))) A) : Ct yX13_isLiedNow mX13_isLiedNow 2 dM (GG (.ref 111) r) [.ref 100, .int (nI t), .int (nI x)] A K := by
  refine Ct.of [some (.ref 100), some (.int (nI t)), some (.int (nI x))] rfl rfl rfl (Nat.le_of_ble_eq_true rfl) ?_
  have h8 := hC.2.2.2.1.2.1
  have hv := (hC.2.1.2.2.2 t ht).2.2
  refine w_aload_n 1 dX13_isLiedNow_0 rfl rfl ?_
  refine w_getr 4 dX13_isLiedNow_1 rfl faX13_17 rfl rfl rfl (r := .ref 102) rfl ?_
  refine w_iconst 5 dX13_isLiedNow_4 rfl (v := nI 0) rfl ?_
  refine w_iload_n 6 dX13_isLiedNow_5 rfl rfl ?_
  refine w_iaddN 7 dX13_isLiedNow_6 rfl ?_
  refine w_top (show nI (0 + t) = nI t by rw [Nat.zero_add]) ?_
  refine w_ialdN 8 dX13_isLiedNow_7 rfl rfl rfl (by decide) (by omega) ?_
  refine w_iconst 9 dX13_isLiedNow_8 rfl (v := (-1)) rfl ?_
  refine w_icne 25 12 dX13_isLiedNow_9 rfl rfl (fun c9 => ?_) (fun c9 => ?_)
  · skip
    have hf : liedB w t x = false := by
      rcases hv with ⟨e, _⟩ | ⟨k, _, _, hk, _⟩
      · exact absurd e c9
      · exact liedB_0 hC hk x
    refine w_iconst 26 dX13_isLiedNow_25 rfl (v := nI 0) rfl ?_
    refine wr_z dX13_isLiedNow_26 rfl (by first | rfl | exact nb_b2i _) ?_
    exact kq h (by rw [hf]; rfl)
  · skip
    have htw : t < w.1 2 := by
      rcases hv with ⟨_, e, _⟩ | ⟨k, hk, e, _⟩
      · exact e
      · have hr := hC.rooms
        rw [e] at c9
        exact absurd c9 (nI_m1 (by omega))
    refine w_aload_n 13 dX13_isLiedNow_12 rfl rfl ?_
    refine w_iload_n 14 dX13_isLiedNow_13 rfl rfl ?_
    refine w_iload_n 15 dX13_isLiedNow_14 rfl rfl ?_
    refine w_inv2 18 dX13_isLiedNow_15 rfl mlX13_449 rfl rfl (d' := 1) (by decide) (Nat.le_of_ble_eq_true rfl) (c_X13_isLied hC htw hx ?_)
    refine w_ifeqB 25 21 dX13_isLiedNow_18 rfl rfl (fun c18 => ?_) (fun c18 => ?_)
    · skip
      refine w_iconst 26 dX13_isLiedNow_25 rfl (v := nI 0) rfl ?_
      refine wr_z dX13_isLiedNow_26 rfl (by first | rfl | exact nb_b2i _) ?_
      exact kq h (by rw [c18]; rfl)
    · skip
      refine w_iconst 22 dX13_isLiedNow_21 rfl (v := nI 1) rfl ?_
      refine w_goto 26 dX13_isLiedNow_22 rfl ?_
      refine wr_z dX13_isLiedNow_26 rfl (by first | rfl | exact nb_b2i _) ?_
      exact kq h (by rw [c18]; rfl)

set_option maxRecDepth 4000 in
theorem a_X13_brown {K : Option Value → AH → Prop} {A : AH} {r : Value} {w : WT} {s : Nat → Nat} {t u : Nat} {lo : Bool} (hC : MC w s A) (ht : t < s 1) (hu : u < s 1) (h : ∀ A', QM A A' → A'.1 100 1 = nI 0 → A'.1 100 2 = -1 → K (some (.long (sh lo (sumTo (fun x => if (liedB w t x || liedB w u x) then wgt w x else 0) (LN w)) (sumTo (wgt w) (LN w))))) A') : WP mX13_brown 4 dM (GG (.ref 111) r) 28 [some (.ref 100), some (.int (nI t)), some (.int (nI u)), some (.int (b2i lo)), none, none, none, none, none] [] A K := by
  have hLN := LN_le hC
  have hr := hC.rooms
  have lp37 : ∀ (nf : Nat) (i : Nat), i ≤ LN w → LN w - i < nf → WP mX13_brown 4 dM (GG (.ref 111) r) 37 [some (.ref 100), some (.int (nI t)), some (.int (nI u)), some (.int (b2i lo)), some (.long (lN (sumTo (fun x => if (liedB w t x || liedB w u x) then wgt w x else 0) i))), none, some (.long (lN (sumTo (wgt w) i))), none, some (.int (nI i))] [] A K := by
    intro nf
    induction nf with
    | zero => intros; omega
    | succ nf ih =>
      intro i hi hms
      refine w_iload 39 dX13_brown_37 rfl rfl ?_
      refine w_aload_n 40 dX13_brown_39 rfl rfl ?_
      refine w_inv0 43 dX13_brown_40 rfl mlX13_458 rfl rfl (d' := 0) (by decide) (Nat.le_of_ble_eq_true rfl) (c_X13_sets hC ?_)
      refine w_icgeN 98 46 dX13_brown_43 rfl rfl (by omega) (by omega) (fun c43 => ?_) (fun c43 => ?_)
      · skip
        have e : i = LN w := by omega
        subst e
        refine w_aload_n 99 dX13_brown_98 rfl rfl ?_
        refine w_lload 101 dX13_brown_99 rfl rfl ?_
        refine w_lload 103 dX13_brown_101 rfl rfl ?_
        refine w_iload_n 104 dX13_brown_103 rfl rfl ?_
        refine w_inv3 107 dX13_brown_104 rfl mlX13_468 rfl rfl (d' := 1) (by decide) (Nat.le_of_ble_eq_true rfl) (c_X13_fraction (sumL2 hC (fun x => by split <;> omega) hLN) (sumL2 hC (fun x => Nat.le_refl _) hLN) (fun A9 hQ9 ht9 hw9 => ?_))
        refine wr_l dX13_brown_107 rfl ?_
        exact h A9 hQ9 ht9 hw9
      · skip
        refine w_lload 48 dX13_brown_46 rfl rfl ?_
        refine w_aload_n 49 dX13_brown_48 rfl rfl ?_
        refine w_iload 51 dX13_brown_49 rfl rfl ?_
        refine w_inv1 54 dX13_brown_51 rfl mlX13_461 rfl rfl (d' := 3) (by decide) (Nat.le_of_ble_eq_true rfl) (c_X13_weightOf hC (by omega) ?_)
        refine w_laddN 55 dX13_brown_54 rfl ?_
        refine w_lst6 57 dX13_brown_55 rfl (by decide) rfl ?_
        refine w_lload 59 dX13_brown_57 rfl rfl ?_
        refine w_aload_n 60 dX13_brown_59 rfl rfl ?_
        refine w_iload_n 61 dX13_brown_60 rfl rfl ?_
        refine w_iload 63 dX13_brown_61 rfl rfl ?_
        refine w_inv2 66 dX13_brown_63 rfl mlX13_478 rfl rfl (d' := 2) (by decide) (Nat.le_of_ble_eq_true rfl) (c_X13_isLiedNow hC ht (by omega) ?_)
        refine w_ifneB 79 69 dX13_brown_66 rfl rfl (fun c66 => ?_) (fun c66 => ?_)
        · skip
          refine w_aload_n 80 dX13_brown_79 rfl rfl ?_
          refine w_iload 82 dX13_brown_80 rfl rfl ?_
          refine w_inv1 85 dX13_brown_82 rfl mlX13_461 rfl rfl (d' := 3) (by decide) (Nat.le_of_ble_eq_true rfl) (c_X13_weightOf hC (by omega) ?_)
          refine w_goto 89 dX13_brown_85 rfl ?_
          refine w_laddN 90 dX13_brown_89 rfl ?_
          refine w_lst4 92 dX13_brown_90 rfl (by decide) rfl ?_
          refine w_inc8 95 dX13_brown_92 rfl (by decide) rfl (v := nI (_ + 1)) (nI_1 _) ?_
          refine w_goto 37 dX13_brown_95 rfl ?_
          refine wp_eq ?_ rfl rfl (ih (i + 1) (by omega) (by omega))
          simp [sumTo, c66]
        · skip
          refine w_aload_n 70 dX13_brown_69 rfl rfl ?_
          refine w_iload_n 71 dX13_brown_70 rfl rfl ?_
          refine w_iload 73 dX13_brown_71 rfl rfl ?_
          refine w_inv2 76 dX13_brown_73 rfl mlX13_478 rfl rfl (d' := 2) (by decide) (Nat.le_of_ble_eq_true rfl) (c_X13_isLiedNow hC hu (by omega) ?_)
          refine w_ifeqB 88 79 dX13_brown_76 rfl rfl (fun c76 => ?_) (fun c76 => ?_)
          · skip
            refine w_lconst 89 dX13_brown_88 rfl (v := lN 0) rfl ?_
            refine w_laddN 90 dX13_brown_89 rfl ?_
            refine w_lst4 92 dX13_brown_90 rfl (by decide) rfl ?_
            refine w_inc8 95 dX13_brown_92 rfl (by decide) rfl (v := nI (_ + 1)) (nI_1 _) ?_
            refine w_goto 37 dX13_brown_95 rfl ?_
            refine wp_eq ?_ rfl rfl (ih (i + 1) (by omega) (by omega))
            simp [sumTo, c66, c76]
          · skip
            refine w_aload_n 80 dX13_brown_79 rfl rfl ?_
            refine w_iload 82 dX13_brown_80 rfl rfl ?_
            refine w_inv1 85 dX13_brown_82 rfl mlX13_461 rfl rfl (d' := 3) (by decide) (Nat.le_of_ble_eq_true rfl) (c_X13_weightOf hC (by omega) ?_)
            refine w_goto 89 dX13_brown_85 rfl ?_
            refine w_laddN 90 dX13_brown_89 rfl ?_
            refine w_lst4 92 dX13_brown_90 rfl (by decide) rfl ?_
            refine w_inc8 95 dX13_brown_92 rfl (by decide) rfl (v := nI (_ + 1)) (nI_1 _) ?_
            refine w_goto 37 dX13_brown_95 rfl ?_
            refine wp_eq ?_ rfl rfl (ih (i + 1) (by omega) (by omega))
            simp [sumTo, c66, c76]
  refine w_lconst 29 dX13_brown_28 rfl (v := lN 0) rfl ?_
  refine w_lst4 31 dX13_brown_29 rfl (by decide) rfl ?_
  refine w_lconst 32 dX13_brown_31 rfl (v := lN 0) rfl ?_
  refine w_lst6 34 dX13_brown_32 rfl (by decide) rfl ?_
  refine w_iconst 35 dX13_brown_34 rfl (v := nI 0) rfl ?_
  refine w_ist8 37 dX13_brown_35 rfl (by decide) rfl ?_
  exact lp37 _ 0 (Nat.zero_le _) (Nat.lt_succ_self _)

set_option maxRecDepth 4000 in
theorem c_X13_brown {K : Option Value → AH → Prop} {A : AH} {r : Value} {w : WT} {s : Nat → Nat} (hC : MC w s A) {t u : Int32} {lo : Bool} (h : ∀ A', QM A A' → A'.1 100 1 = nI (tBr s t u) → A'.1 100 2 = -1 → K (some (.long (rBrown w s t u lo))) A') : Ct yX13_brown mX13_brown 4 dM (GG (.ref 111) r) [.ref 100, .int t, .int u, .int (b2i lo)] A K := by
  refine Ct.of [some (.ref 100), some (.int t), some (.int u), some (.int (b2i lo)), none, none, none, none, none] rfl rfl rfl (Nat.le_of_ble_eq_true rfl) ?_
  refine w_aload_n 1 dX13_brown_0 rfl rfl ?_
  refine w_iconst 2 dX13_brown_1 rfl (v := nI 0) rfl ?_
  refine w_puti 5 dX13_brown_2 rfl faX13_46 rfl rfl rfl rfl ?_
  have hQ1 : QM A (upd2 A.1 100 0 (nI 0), A.2) := QM.rf.f (by decide) _
  have hC1 := hC.q hQ1
  refine w_aload_n 6 dX13_brown_5 rfl rfl ?_
  refine w_iload_n 7 dX13_brown_6 rfl rfl ?_
  refine w_inv1 10 dX13_brown_7 rfl mlX13_392 rfl rfl (d' := 0) (by decide) (Nat.le_of_ble_eq_true rfl) (c_X13_isThread hC1 ?_)
  refine w_ifeqB 21 13 dX13_brown_10 rfl rfl (fun c10 => ?_) (fun c10 => ?_)
  · skip
    refine w_aload_n 22 dX13_brown_21 rfl rfl ?_
    refine w_iconst 23 dX13_brown_22 rfl (v := nI 1) rfl ?_
    refine w_inv1 26 dX13_brown_23 rfl mlX13_52 rfl rfl (d' := 0) (by decide) (Nat.le_of_ble_eq_true rfl) (c_X13_refused (fun A2 hQ2 ht2 hw2 => ?_))
    refine w_i2l 27 dX13_brown_26 rfl ?_
    refine wr_l dX13_brown_27 rfl ?_
    have hno : tBr s t u = 1 := by unfold tBr; rw [c10]; rfl
    exact kl (h A2 (hQ1.tr hQ2) (by rw [ht2, hno]) hw2) (by unfold rBrown; rw [if_neg (by rw [hno]; decide)]; rfl)
  · skip
    refine w_aload_n 14 dX13_brown_13 rfl rfl ?_
    refine w_iload_n 15 dX13_brown_14 rfl rfl ?_
    refine w_inv1 18 dX13_brown_15 rfl mlX13_392 rfl rfl (d' := 0) (by decide) (Nat.le_of_ble_eq_true rfl) (c_X13_isThread hC1 ?_)
    refine w_ifneB 28 21 dX13_brown_18 rfl rfl (fun c18 => ?_) (fun c18 => ?_)
    · skip
      have hz : tBr s t u = 0 := by unfold tBr; rw [c10, c18]; rfl
      have h8 := hC.2.2.2.1.2.1
      obtain ⟨t, rfl, ht⟩ := okR_of c10 (by omega)
      obtain ⟨u, rfl, hu⟩ := okR_of c18 (by omega)
      exact a_X13_brown hC1 ht hu (fun A9 hQ9 ht9 hw9 => kl (h A9 (hQ1.tr hQ9) (by rw [hz]; exact ht9) hw9) (by unfold rBrown; rw [if_pos hz, cl_nI (show t < 2 ^ 31 by omega), cl_nI (show u < 2 ^ 31 by omega)]))
    · skip
      refine w_aload_n 22 dX13_brown_21 rfl rfl ?_
      refine w_iconst 23 dX13_brown_22 rfl (v := nI 1) rfl ?_
      refine w_inv1 26 dX13_brown_23 rfl mlX13_52 rfl rfl (d' := 0) (by decide) (Nat.le_of_ble_eq_true rfl) (c_X13_refused (fun A2 hQ2 ht2 hw2 => ?_))
      refine w_i2l 27 dX13_brown_26 rfl ?_
      refine wr_l dX13_brown_27 rfl ?_
      have hno : tBr s t u = 1 := by unfold tBr; rw [c10, c18]; rfl
      exact kl (h A2 (hQ1.tr hQ2) (by rw [ht2, hno]) hw2) (by unfold rBrown; rw [if_neg (by rw [hno]; decide)]; rfl)

set_option maxRecDepth 4000 in
theorem a_X13_judge {K : Option Value → AH → Prop} {A : AH} {r : Value} {w : WT} {s : Nat → Nat} (hC : MC w s A) (h : ∀ A', QM A A' → A'.1 100 1 = nI 0 → A'.1 100 2 = -1 → K (some (.int (enc2 (fst1 (judB w) (w.1 7))))) A') : WP mX13_judge 3 dM (GG (.ref 111) r) 18 [some (.ref 100), none] [] A K := by
  have hr := hC.rooms
  have lp20 : ∀ (nf : Nat) (i : Nat), i ≤ w.1 7 → fst1 (judB w) i = none → w.1 7 - i < nf → WP mX13_judge 3 dM (GG (.ref 111) r) 20 [some (.ref 100), some (.int (nI i))] [] A K := by
    intro nf
    induction nf with
    | zero => intros; omega
    | succ nf ih =>
      intro i hi hf hms
      refine w_iload_n 21 dX13_judge_20 rfl rfl ?_
      refine w_aload_n 22 dX13_judge_21 rfl rfl ?_
      refine w_getr 25 dX13_judge_22 rfl faX13_343 rfl rfl rfl (r := .ref 111) rfl ?_
      refine w_getiv 28 dX13_judge_25 rfl faX13_321 rfl rfl rfl (hC.1.2.1 7 (by decide) (by decide)) ?_
      refine w_icgeN 52 31 dX13_judge_28 rfl rfl (by omega) (by omega) (fun c28 => ?_) (fun c28 => ?_)
      · skip
        refine w_aload_n 53 dX13_judge_52 rfl rfl ?_
        refine w_bipush 55 dX13_judge_53 rfl (v := (-2)) rfl ?_
        refine w_inv1 58 dX13_judge_55 rfl mlX13_56 rfl rfl (d' := 0) (by decide) (Nat.le_of_ble_eq_true rfl) (c_X13_good (fun A9 hQ9 ht9 hw9 => ?_))
        refine wr_i dX13_judge_58 rfl ?_
        have e : i = w.1 7 := by omega
        subst e
        exact kq (h A9 hQ9 ht9 hw9) (by rw [hf]; rfl)
      · skip
        refine w_aload_n 32 dX13_judge_31 rfl rfl ?_
        refine w_iload_n 33 dX13_judge_32 rfl rfl ?_
        refine w_iconst 34 dX13_judge_33 rfl (v := (-1)) rfl ?_
        refine w_inv2 37 dX13_judge_34 rfl mlX13_452 rfl rfl (d' := 2) (by decide) (Nat.le_of_ble_eq_true rfl) (c_X13_isRightK hC c28 ?_)
        refine w_ifneB 46 40 dX13_judge_37 rfl rfl (fun c37 => ?_) (fun c37 => ?_)
        · skip
          refine w_inc1 49 dX13_judge_46 rfl (by decide) rfl (v := nI (_ + 1)) (nI_1 _) ?_
          refine w_goto 20 dX13_judge_49 rfl ?_
          have hj : judB w i = false := by unfold judB bne; rw [c37]; rfl
          exact ih (i + 1) (by omega) (by simp [fst1, hf, hj]) (by omega)
        · skip
          refine w_aload_n 41 dX13_judge_40 rfl rfl ?_
          refine w_iload_n 42 dX13_judge_41 rfl rfl ?_
          refine w_inv1 45 dX13_judge_42 rfl mlX13_56 rfl rfl (d' := 0) (by decide) (Nat.le_of_ble_eq_true rfl) (c_X13_good (fun A9 hQ9 ht9 hw9 => ?_))
          refine wr_i dX13_judge_45 rfl ?_
          have hj : judB w i = true := by unfold judB bne; rw [c37]; rfl
          exact kq (h A9 hQ9 ht9 hw9) (by rw [fst1_some hf hj c28]; rfl)
  refine w_iconst 19 dX13_judge_18 rfl (v := nI 0) rfl ?_
  refine w_ist1 20 dX13_judge_19 rfl (by decide) rfl ?_
  exact lp20 _ 0 (Nat.zero_le _) rfl (Nat.lt_succ_self _)

set_option maxRecDepth 4000 in
theorem c_X13_judge {K : Option Value → AH → Prop} {A : AH} {r : Value} {w : WT} {s : Nat → Nat} (hC : MC w s A) (h : ∀ A', QM A A' → A'.1 100 1 = nI (t1 (okW1 w)) → A'.1 100 2 = -1 → K (some (.int (rJudge w))) A') : Ct yX13_judge mX13_judge 3 dM (GG (.ref 111) r) [.ref 100] A K := by
  refine Ct.of [some (.ref 100), none] rfl rfl rfl (Nat.le_of_ble_eq_true rfl) ?_
  refine w_aload_n 1 dX13_judge_0 rfl rfl ?_
  refine w_iconst 2 dX13_judge_1 rfl (v := nI 0) rfl ?_
  refine w_puti 5 dX13_judge_2 rfl faX13_46 rfl rfl rfl rfl ?_
  have hQ1 : QM A (upd2 A.1 100 0 (nI 0), A.2) := QM.rf.f (by decide) _
  have hC1 := hC.q hQ1
  have hz : t1 (okW1 w) = 0 := by rw [okW1_t hC]; rfl
  refine w_aload_n 6 dX13_judge_5 rfl rfl ?_
  refine w_getr 9 dX13_judge_6 rfl faX13_343 rfl rfl rfl (r := .ref 111) rfl ?_
  refine w_nnR 18 dX13_judge_9 rfl ?_
  exact a_X13_judge hC1 (fun A9 hQ9 ht9 hw9 => kq (h A9 (hQ1.tr hQ9) (by rw [hz]; exact ht9) hw9) (by unfold rJudge; rw [if_pos hz]))

set_option maxRecDepth 4000 in
theorem c_X13_blown {K : Option Value → AH → Prop} {dm : Nat × Nat} {G : Nat → Nat → Value} {A : AH} {x : Int32} {p q : Bool} (h : K (some (.int (gnI x p q))) A) : Ct yX13_blown mX13_blown 0 dm G [.int x, .int (b2i p), .int (b2i q)] A K := by
  refine Ct.of [some (.int x), some (.int (b2i p)), some (.int (b2i q))] rfl rfl rfl (Nat.le_of_ble_eq_true rfl) ?_
  refine w_iload_n 1 dX13_blown_0 rfl rfl ?_
  refine w_ifeqB 18 4 dX13_blown_1 rfl rfl (fun c1 => ?_) (fun c1 => ?_)
  · skip
    refine w_iload_n 19 dX13_blown_18 rfl rfl ?_
    refine w_ifeqB 26 22 dX13_blown_19 rfl rfl (fun c19 => ?_) (fun c19 => ?_)
    · skip
      refine w_iconst 27 dX13_blown_26 rfl (v := nI 1) rfl ?_
      refine wr_i dX13_blown_27 rfl ?_
      exact kq h (by simp [gnI, c1, c19]; try rfl)
    · skip
      refine w_iconst 23 dX13_blown_22 rfl (v := (-1)) rfl ?_
      refine w_goto 27 dX13_blown_23 rfl ?_
      refine wr_i dX13_blown_27 rfl ?_
      exact kq h (by simp [gnI, c1, c19]; try rfl)
  · skip
    refine w_iload_n 5 dX13_blown_4 rfl rfl ?_
    refine w_ifeqB 14 8 dX13_blown_5 rfl rfl (fun c5 => ?_) (fun c5 => ?_)
    · skip
      refine w_iconst 15 dX13_blown_14 rfl (v := nI 2) rfl ?_
      refine w_goto 27 dX13_blown_15 rfl ?_
      refine wr_i dX13_blown_27 rfl ?_
      exact kq h (by simp [gnI, c1, c5]; try rfl)
    · skip
      refine w_iconst 9 dX13_blown_8 rfl (v := nI 1) rfl ?_
      refine w_iload_n 10 dX13_blown_9 rfl rfl ?_
      refine w_isub 11 dX13_blown_10 rfl ?_
      refine w_goto 27 dX13_blown_11 rfl ?_
      refine wr_i dX13_blown_27 rfl ?_
      exact kq h (by simp [gnI, c1, c5]; try rfl)

set_option maxRecDepth 4000 in
theorem c_X13_isRest {K : Option Value → AH → Prop} {dm : Nat × Nat} {G : Nat → Nat → Value} {A : AH} {x : Int32} {k : Nat} (hk : k < 4) (h : K (some (.int (b2i (prB x k)))) A) : Ct yX13_isRest mX13_isRest 1 dm G [.int x, .int (nI k)] A K := by
  refine Ct.of [some (.int x), some (.int (nI k)), none, none] rfl rfl rfl (Nat.le_of_ble_eq_true rfl) ?_
  refine w_iload_n 1 dX13_isRest_0 rfl rfl ?_
  refine w_iconst 2 dX13_isRest_1 rfl (v := nI 1) rfl ?_
  refine w_icleN 9 5 dX13_isRest_2 rfl rfl (by omega) (by omega) (fun c2 => ?_) (fun c2 => ?_)
  · skip
    refine w_iconst 10 dX13_isRest_9 rfl (v := nI 0) rfl ?_
    refine w_ist2 11 dX13_isRest_10 rfl (by decide) rfl ?_
    refine w_iload_n 12 dX13_isRest_11 rfl rfl ?_
    refine w_iconst 13 dX13_isRest_12 rfl (v := nI 2) rfl ?_
    refine w_iremN 14 dX13_isRest_13 rfl (by omega) (by omega) (by omega) ?_
    refine w_iconst 15 dX13_isRest_14 rfl (v := nI 1) rfl ?_
    refine w_icneN 22 18 dX13_isRest_15 rfl rfl (by omega) (by omega) (fun c15 => ?_) (fun c15 => ?_)
    · skip
      refine w_iconst 23 dX13_isRest_22 rfl (v := nI 0) rfl ?_
      refine w_ist3 24 dX13_isRest_23 rfl (by decide) rfl ?_
      refine w_iload_n 25 dX13_isRest_24 rfl rfl ?_
      refine w_iload_n 26 dX13_isRest_25 rfl rfl ?_
      refine w_ifneN 33 29 dX13_isRest_26 rfl rfl (by decide) (fun cc => absurd cc (by decide)) (fun _ => ?_)
      refine w_iconst 30 dX13_isRest_29 rfl (v := nI 1) rfl ?_
      refine w_goto 34 dX13_isRest_30 rfl ?_
      refine w_iload_n 35 dX13_isRest_34 rfl rfl ?_
      refine w_invs3 38 dX13_isRest_35 rfl slX13_487 (d' := 0) (by decide) (Nat.le_of_ble_eq_true rfl) (c_X13_blown (p := true) (q := false) ?_)
      refine w_iload_n 39 dX13_isRest_38 rfl rfl ?_
      refine w_iload_n 40 dX13_isRest_39 rfl rfl ?_
      refine w_iload_n 41 dX13_isRest_40 rfl rfl ?_
      refine w_invs3 44 dX13_isRest_41 rfl slX13_487 (d' := 0) (by decide) (Nat.le_of_ble_eq_true rfl) (c_X13_blown (p := false) (q := false) ?_)
      refine w_icgt 74 47 dX13_isRest_44 rfl rfl (fun c44 => ?_) (fun c44 => ?_)
      · skip
        refine w_iconst 75 dX13_isRest_74 rfl (v := nI 0) rfl ?_
        refine wr_z dX13_isRest_75 rfl (by first | rfl | exact nb_b2i _) ?_
        have e1 : decide (2 ≤ k) = false := decide_eq_false (by omega)
        have e2 : decide (k % 2 = 1) = false := decide_eq_false (by omega)
        exact kq h (by unfold prB; rw [e1, e2]; simp [rsB, Int32.not_le.mpr c44]; rfl)
      · skip
        refine w_iload_n 48 dX13_isRest_47 rfl rfl ?_
        refine w_iload_n 49 dX13_isRest_48 rfl rfl ?_
        refine w_ifneN 56 52 dX13_isRest_49 rfl rfl (by decide) (fun cc => absurd cc (by decide)) (fun _ => ?_)
        refine w_iconst 53 dX13_isRest_52 rfl (v := nI 1) rfl ?_
        refine w_goto 57 dX13_isRest_53 rfl ?_
        refine w_iload_n 58 dX13_isRest_57 rfl rfl ?_
        refine w_invs3 61 dX13_isRest_58 rfl slX13_487 (d' := 0) (by decide) (Nat.le_of_ble_eq_true rfl) (c_X13_blown (p := true) (q := false) ?_)
        refine w_iload_n 62 dX13_isRest_61 rfl rfl ?_
        refine w_iload_n 63 dX13_isRest_62 rfl rfl ?_
        refine w_iload_n 64 dX13_isRest_63 rfl rfl ?_
        refine w_invs3 67 dX13_isRest_64 rfl slX13_487 (d' := 0) (by decide) (Nat.le_of_ble_eq_true rfl) (c_X13_blown (p := false) (q := false) ?_)
        refine w_icgt 74 70 dX13_isRest_67 rfl rfl (fun c67 => ?_) (fun c67 => ?_)
        · skip
          refine w_iconst 75 dX13_isRest_74 rfl (v := nI 0) rfl ?_
          refine wr_z dX13_isRest_75 rfl (by first | rfl | exact nb_b2i _) ?_
          have e1 : decide (2 ≤ k) = false := decide_eq_false (by omega)
          have e2 : decide (k % 2 = 1) = false := decide_eq_false (by omega)
          exact kq h (by unfold prB; rw [e1, e2]; simp [rsB, Int32.not_le.mpr c67]; rfl)
        · skip
          refine w_iconst 71 dX13_isRest_70 rfl (v := nI 1) rfl ?_
          refine w_goto 75 dX13_isRest_71 rfl ?_
          refine wr_z dX13_isRest_75 rfl (by first | rfl | exact nb_b2i _) ?_
          have e1 : decide (2 ≤ k) = false := decide_eq_false (by omega)
          have e2 : decide (k % 2 = 1) = false := decide_eq_false (by omega)
          exact kq h (by unfold prB; rw [e1, e2]; simp [rsB, Int32.not_lt.mp c67, Int32.not_lt.mp c44]; rfl)
    · skip
      refine w_iconst 19 dX13_isRest_18 rfl (v := nI 1) rfl ?_
      refine w_goto 23 dX13_isRest_19 rfl ?_
      refine w_ist3 24 dX13_isRest_23 rfl (by decide) rfl ?_
      refine w_iload_n 25 dX13_isRest_24 rfl rfl ?_
      refine w_iload_n 26 dX13_isRest_25 rfl rfl ?_
      refine w_ifneN 33 29 dX13_isRest_26 rfl rfl (by decide) (fun cc => absurd cc (by decide)) (fun _ => ?_)
      refine w_iconst 30 dX13_isRest_29 rfl (v := nI 1) rfl ?_
      refine w_goto 34 dX13_isRest_30 rfl ?_
      refine w_iload_n 35 dX13_isRest_34 rfl rfl ?_
      refine w_invs3 38 dX13_isRest_35 rfl slX13_487 (d' := 0) (by decide) (Nat.le_of_ble_eq_true rfl) (c_X13_blown (p := true) (q := true) ?_)
      refine w_iload_n 39 dX13_isRest_38 rfl rfl ?_
      refine w_iload_n 40 dX13_isRest_39 rfl rfl ?_
      refine w_iload_n 41 dX13_isRest_40 rfl rfl ?_
      refine w_invs3 44 dX13_isRest_41 rfl slX13_487 (d' := 0) (by decide) (Nat.le_of_ble_eq_true rfl) (c_X13_blown (p := false) (q := true) ?_)
      refine w_icgt 74 47 dX13_isRest_44 rfl rfl (fun c44 => ?_) (fun c44 => ?_)
      · skip
        refine w_iconst 75 dX13_isRest_74 rfl (v := nI 0) rfl ?_
        refine wr_z dX13_isRest_75 rfl (by first | rfl | exact nb_b2i _) ?_
        have e1 : decide (2 ≤ k) = false := decide_eq_false (by omega)
        have e2 : decide (k % 2 = 1) = true := decide_eq_true (by omega)
        exact kq h (by unfold prB; rw [e1, e2]; simp [rsB, Int32.not_le.mpr c44]; rfl)
      · skip
        refine w_iload_n 48 dX13_isRest_47 rfl rfl ?_
        refine w_iload_n 49 dX13_isRest_48 rfl rfl ?_
        refine w_ifneN 56 52 dX13_isRest_49 rfl rfl (by decide) (fun _ => ?_) (fun cc => absurd cc (by decide))
        refine w_iconst 57 dX13_isRest_56 rfl (v := nI 0) rfl ?_
        refine w_iload_n 58 dX13_isRest_57 rfl rfl ?_
        refine w_invs3 61 dX13_isRest_58 rfl slX13_487 (d' := 0) (by decide) (Nat.le_of_ble_eq_true rfl) (c_X13_blown (p := false) (q := false) ?_)
        refine w_iload_n 62 dX13_isRest_61 rfl rfl ?_
        refine w_iload_n 63 dX13_isRest_62 rfl rfl ?_
        refine w_iload_n 64 dX13_isRest_63 rfl rfl ?_
        refine w_invs3 67 dX13_isRest_64 rfl slX13_487 (d' := 0) (by decide) (Nat.le_of_ble_eq_true rfl) (c_X13_blown (p := true) (q := false) ?_)
        refine w_icgt 74 70 dX13_isRest_67 rfl rfl (fun c67 => ?_) (fun c67 => ?_)
        · skip
          refine w_iconst 75 dX13_isRest_74 rfl (v := nI 0) rfl ?_
          refine wr_z dX13_isRest_75 rfl (by first | rfl | exact nb_b2i _) ?_
          have e1 : decide (2 ≤ k) = false := decide_eq_false (by omega)
          have e2 : decide (k % 2 = 1) = true := decide_eq_true (by omega)
          exact kq h (by unfold prB; rw [e1, e2]; simp [rsB, Int32.not_le.mpr c67]; rfl)
        · skip
          refine w_iconst 71 dX13_isRest_70 rfl (v := nI 1) rfl ?_
          refine w_goto 75 dX13_isRest_71 rfl ?_
          refine wr_z dX13_isRest_75 rfl (by first | rfl | exact nb_b2i _) ?_
          have e1 : decide (2 ≤ k) = false := decide_eq_false (by omega)
          have e2 : decide (k % 2 = 1) = true := decide_eq_true (by omega)
          exact kq h (by unfold prB; rw [e1, e2]; simp [rsB, Int32.not_lt.mp c67, Int32.not_lt.mp c44]; rfl)
  · skip
    refine w_iconst 6 dX13_isRest_5 rfl (v := nI 1) rfl ?_
    refine w_goto 10 dX13_isRest_6 rfl ?_
    refine w_ist2 11 dX13_isRest_10 rfl (by decide) rfl ?_
    refine w_iload_n 12 dX13_isRest_11 rfl rfl ?_
    refine w_iconst 13 dX13_isRest_12 rfl (v := nI 2) rfl ?_
    refine w_iremN 14 dX13_isRest_13 rfl (by omega) (by omega) (by omega) ?_
    refine w_iconst 15 dX13_isRest_14 rfl (v := nI 1) rfl ?_
    refine w_icneN 22 18 dX13_isRest_15 rfl rfl (by omega) (by omega) (fun c15 => ?_) (fun c15 => ?_)
    · skip
      refine w_iconst 23 dX13_isRest_22 rfl (v := nI 0) rfl ?_
      refine w_ist3 24 dX13_isRest_23 rfl (by decide) rfl ?_
      refine w_iload_n 25 dX13_isRest_24 rfl rfl ?_
      refine w_iload_n 26 dX13_isRest_25 rfl rfl ?_
      refine w_ifneN 33 29 dX13_isRest_26 rfl rfl (by decide) (fun _ => ?_) (fun cc => absurd cc (by decide))
      refine w_iconst 34 dX13_isRest_33 rfl (v := nI 0) rfl ?_
      refine w_iload_n 35 dX13_isRest_34 rfl rfl ?_
      refine w_invs3 38 dX13_isRest_35 rfl slX13_487 (d' := 0) (by decide) (Nat.le_of_ble_eq_true rfl) (c_X13_blown (p := false) (q := false) ?_)
      refine w_iload_n 39 dX13_isRest_38 rfl rfl ?_
      refine w_iload_n 40 dX13_isRest_39 rfl rfl ?_
      refine w_iload_n 41 dX13_isRest_40 rfl rfl ?_
      refine w_invs3 44 dX13_isRest_41 rfl slX13_487 (d' := 0) (by decide) (Nat.le_of_ble_eq_true rfl) (c_X13_blown (p := true) (q := false) ?_)
      refine w_icgt 74 47 dX13_isRest_44 rfl rfl (fun c44 => ?_) (fun c44 => ?_)
      · skip
        refine w_iconst 75 dX13_isRest_74 rfl (v := nI 0) rfl ?_
        refine wr_z dX13_isRest_75 rfl (by first | rfl | exact nb_b2i _) ?_
        have e1 : decide (2 ≤ k) = true := decide_eq_true (by omega)
        have e2 : decide (k % 2 = 1) = false := decide_eq_false (by omega)
        exact kq h (by unfold prB; rw [e1, e2]; simp [rsB, Int32.not_le.mpr c44]; rfl)
      · skip
        refine w_iload_n 48 dX13_isRest_47 rfl rfl ?_
        refine w_iload_n 49 dX13_isRest_48 rfl rfl ?_
        refine w_ifneN 56 52 dX13_isRest_49 rfl rfl (by decide) (fun cc => absurd cc (by decide)) (fun _ => ?_)
        refine w_iconst 53 dX13_isRest_52 rfl (v := nI 1) rfl ?_
        refine w_goto 57 dX13_isRest_53 rfl ?_
        refine w_iload_n 58 dX13_isRest_57 rfl rfl ?_
        refine w_invs3 61 dX13_isRest_58 rfl slX13_487 (d' := 0) (by decide) (Nat.le_of_ble_eq_true rfl) (c_X13_blown (p := true) (q := true) ?_)
        refine w_iload_n 62 dX13_isRest_61 rfl rfl ?_
        refine w_iload_n 63 dX13_isRest_62 rfl rfl ?_
        refine w_iload_n 64 dX13_isRest_63 rfl rfl ?_
        refine w_invs3 67 dX13_isRest_64 rfl slX13_487 (d' := 0) (by decide) (Nat.le_of_ble_eq_true rfl) (c_X13_blown (p := false) (q := true) ?_)
        refine w_icgt 74 70 dX13_isRest_67 rfl rfl (fun c67 => ?_) (fun c67 => ?_)
        · skip
          refine w_iconst 75 dX13_isRest_74 rfl (v := nI 0) rfl ?_
          refine wr_z dX13_isRest_75 rfl (by first | rfl | exact nb_b2i _) ?_
          have e1 : decide (2 ≤ k) = true := decide_eq_true (by omega)
          have e2 : decide (k % 2 = 1) = false := decide_eq_false (by omega)
          exact kq h (by unfold prB; rw [e1, e2]; simp [rsB, Int32.not_le.mpr c67]; rfl)
        · skip
          refine w_iconst 71 dX13_isRest_70 rfl (v := nI 1) rfl ?_
          refine w_goto 75 dX13_isRest_71 rfl ?_
          refine wr_z dX13_isRest_75 rfl (by first | rfl | exact nb_b2i _) ?_
          have e1 : decide (2 ≤ k) = true := decide_eq_true (by omega)
          have e2 : decide (k % 2 = 1) = false := decide_eq_false (by omega)
          exact kq h (by unfold prB; rw [e1, e2]; simp [rsB, Int32.not_lt.mp c67, Int32.not_lt.mp c44]; rfl)
    · skip
      refine w_iconst 19 dX13_isRest_18 rfl (v := nI 1) rfl ?_
      refine w_goto 23 dX13_isRest_19 rfl ?_
      refine w_ist3 24 dX13_isRest_23 rfl (by decide) rfl ?_
      refine w_iload_n 25 dX13_isRest_24 rfl rfl ?_
      refine w_iload_n 26 dX13_isRest_25 rfl rfl ?_
      refine w_ifneN 33 29 dX13_isRest_26 rfl rfl (by decide) (fun _ => ?_) (fun cc => absurd cc (by decide))
      refine w_iconst 34 dX13_isRest_33 rfl (v := nI 0) rfl ?_
      refine w_iload_n 35 dX13_isRest_34 rfl rfl ?_
      refine w_invs3 38 dX13_isRest_35 rfl slX13_487 (d' := 0) (by decide) (Nat.le_of_ble_eq_true rfl) (c_X13_blown (p := false) (q := true) ?_)
      refine w_iload_n 39 dX13_isRest_38 rfl rfl ?_
      refine w_iload_n 40 dX13_isRest_39 rfl rfl ?_
      refine w_iload_n 41 dX13_isRest_40 rfl rfl ?_
      refine w_invs3 44 dX13_isRest_41 rfl slX13_487 (d' := 0) (by decide) (Nat.le_of_ble_eq_true rfl) (c_X13_blown (p := true) (q := true) ?_)
      refine w_icgt 74 47 dX13_isRest_44 rfl rfl (fun c44 => ?_) (fun c44 => ?_)
      · skip
        refine w_iconst 75 dX13_isRest_74 rfl (v := nI 0) rfl ?_
        refine wr_z dX13_isRest_75 rfl (by first | rfl | exact nb_b2i _) ?_
        have e1 : decide (2 ≤ k) = true := decide_eq_true (by omega)
        have e2 : decide (k % 2 = 1) = true := decide_eq_true (by omega)
        exact kq h (by unfold prB; rw [e1, e2]; simp [rsB, Int32.not_le.mpr c44]; rfl)
      · skip
        refine w_iload_n 48 dX13_isRest_47 rfl rfl ?_
        refine w_iload_n 49 dX13_isRest_48 rfl rfl ?_
        refine w_ifneN 56 52 dX13_isRest_49 rfl rfl (by decide) (fun _ => ?_) (fun cc => absurd cc (by decide))
        refine w_iconst 57 dX13_isRest_56 rfl (v := nI 0) rfl ?_
        refine w_iload_n 58 dX13_isRest_57 rfl rfl ?_
        refine w_invs3 61 dX13_isRest_58 rfl slX13_487 (d' := 0) (by decide) (Nat.le_of_ble_eq_true rfl) (c_X13_blown (p := false) (q := true) ?_)
        refine w_iload_n 62 dX13_isRest_61 rfl rfl ?_
        refine w_iload_n 63 dX13_isRest_62 rfl rfl ?_
        refine w_iload_n 64 dX13_isRest_63 rfl rfl ?_
        refine w_invs3 67 dX13_isRest_64 rfl slX13_487 (d' := 0) (by decide) (Nat.le_of_ble_eq_true rfl) (c_X13_blown (p := true) (q := true) ?_)
        refine w_icgt 74 70 dX13_isRest_67 rfl rfl (fun c67 => ?_) (fun c67 => ?_)
        · skip
          refine w_iconst 75 dX13_isRest_74 rfl (v := nI 0) rfl ?_
          refine wr_z dX13_isRest_75 rfl (by first | rfl | exact nb_b2i _) ?_
          have e1 : decide (2 ≤ k) = true := decide_eq_true (by omega)
          have e2 : decide (k % 2 = 1) = true := decide_eq_true (by omega)
          exact kq h (by unfold prB; rw [e1, e2]; simp [rsB, Int32.not_le.mpr c67]; rfl)
        · skip
          refine w_iconst 71 dX13_isRest_70 rfl (v := nI 1) rfl ?_
          refine w_goto 75 dX13_isRest_71 rfl ?_
          refine wr_z dX13_isRest_75 rfl (by first | rfl | exact nb_b2i _) ?_
          have e1 : decide (2 ≤ k) = true := decide_eq_true (by omega)
          have e2 : decide (k % 2 = 1) = true := decide_eq_true (by omega)
          exact kq h (by unfold prB; rw [e1, e2]; simp [rsB, Int32.not_lt.mp c67, Int32.not_lt.mp c44]; rfl)

set_option maxRecDepth 4000 in
theorem c_X13_refusesWeb {K : Option Value → AH → Prop} {A : AH} {r : Value} {w : WT} {s : Nat → Nat} (hC : MC w s A) {x : Int32} (h : K (some (.int (nI (tX (okW1 w) (tB 9 x))))) A) : Ct yX13_refusesWeb mX13_refusesWeb 1 dM (GG (.ref 111) r) [.ref 100, .int x] A K := by
  refine Ct.of [some (.ref 100), some (.int x)] rfl rfl rfl (Nat.le_of_ble_eq_true rfl) ?_
  rw [okW1_t hC] at h
  refine w_aload_n 1 dX13_refusesWeb_0 rfl rfl ?_
  refine w_getr 4 dX13_refusesWeb_1 rfl faX13_343 rfl rfl rfl (r := .ref 111) rfl ?_
  refine w_nnR 11 dX13_refusesWeb_4 rfl ?_
  refine w_iload_n 12 dX13_refusesWeb_11 rfl rfl ?_
  refine w_iconst 13 dX13_refusesWeb_12 rfl (v := nI 0) rfl ?_
  refine w_bipush 15 dX13_refusesWeb_13 rfl (v := nI 9) rfl ?_
  refine w_invs3 18 dX13_refusesWeb_15 rfl slX13_121 (d' := 0) (by decide) (Nat.le_of_ble_eq_true rfl) (c_X13_in ?_)
  refine w_ifeqB 25 21 dX13_refusesWeb_18 rfl rfl (fun c18 => ?_) (fun c18 => ?_)
  · skip
    refine w_iconst 26 dX13_refusesWeb_25 rfl (v := nI 2) rfl ?_
    refine wr_i dX13_refusesWeb_26 rfl ?_
    exact kq h (by rw [show tB 9 x = 2 from if_neg (of_decide_eq_false c18)]; rfl)
  · skip
    refine w_iconst 22 dX13_refusesWeb_21 rfl (v := nI 0) rfl ?_
    refine w_goto 26 dX13_refusesWeb_22 rfl ?_
    refine wr_i dX13_refusesWeb_26 rfl ?_
    exact kq h (by rw [show tB 9 x = 0 from if_pos (of_decide_eq_true c18)]; rfl)

set_option maxRecDepth 4000 in
theorem c_X13_blows {K : Option Value → AH → Prop} {A : AH} {r : Value} {w : WT} {s : Nat → Nat} (hC : MC w s A) {x : Int32} {p q o : Bool} (h : ∀ A', QM A A' → A'.1 100 1 = nI (tX (okW1 w) (tB 9 x)) → A'.1 100 2 = -1 → K (some (.int (rBlows w x p q o))) A') : Ct yX13_blows mX13_blows 2 dM (GG (.ref 111) r) [.ref 100, .int x, .int (b2i p), .int (b2i q), .int (b2i o)] A K := by
  refine Ct.of [some (.ref 100), some (.int x), some (.int (b2i p)), some (.int (b2i q)), some (.int (b2i o)), none] rfl rfl rfl (Nat.le_of_ble_eq_true rfl) ?_
  refine w_aload_n 1 dX13_blows_0 rfl rfl ?_
  refine w_iconst 2 dX13_blows_1 rfl (v := nI 0) rfl ?_
  refine w_puti 5 dX13_blows_2 rfl faX13_46 rfl rfl rfl rfl ?_
  have hQ1 : QM A (upd2 A.1 100 0 (nI 0), A.2) := QM.rf.f (by decide) _
  have hC1 := hC.q hQ1
  refine w_aload_n 6 dX13_blows_5 rfl rfl ?_
  refine w_iload_n 7 dX13_blows_6 rfl rfl ?_
  refine w_inv1 10 dX13_blows_7 rfl mlX13_484 rfl rfl (d' := 1) (by decide) (Nat.le_of_ble_eq_true rfl) (c_X13_refusesWeb hC1 ?_)
  refine w_ist5 12 dX13_blows_10 rfl (by decide) rfl ?_
  refine w_iload 14 dX13_blows_12 rfl rfl ?_
  refine w_ifleN 28 17 dX13_blows_14 rfl rfl (Nat.lt_of_le_of_lt (tX_le (tB_le _ _)) (by decide)) (fun c14 => ?_) (fun c14 => ?_)
  · skip
    have hz : tX (okW1 w) (tB 9 x) = 0 := c14
    skip
    refine w_aload_n 29 dX13_blows_28 rfl rfl ?_
    refine w_iload 31 dX13_blows_29 rfl rfl ?_
    refine w_ifeqB 43 34 dX13_blows_31 rfl rfl (fun c31 => ?_) (fun c31 => ?_)
    · skip
      refine w_iload_n 44 dX13_blows_43 rfl rfl ?_
      refine w_iload_n 45 dX13_blows_44 rfl rfl ?_
      refine w_iload_n 46 dX13_blows_45 rfl rfl ?_
      refine w_invs3 49 dX13_blows_46 rfl slX13_487 (d' := 0) (by decide) (Nat.le_of_ble_eq_true rfl) (c_X13_blown (p := p) (q := q) ?_)
      refine w_inv1 52 dX13_blows_49 rfl mlX13_56 rfl rfl (d' := 0) (by decide) (Nat.le_of_ble_eq_true rfl) (c_X13_good (fun A9 hQ9 ht9 hw9 => ?_))
      refine wr_i dX13_blows_52 rfl ?_
      exact kq (h A9 ((hQ1).tr hQ9) (by rw [hz]; exact ht9) hw9) (by unfold rBlows; rw [if_pos hz, c31]; rfl)
    · skip
      refine w_iload_n 35 dX13_blows_34 rfl rfl ?_
      refine w_iload_n 36 dX13_blows_35 rfl rfl ?_
      refine w_iload_n 37 dX13_blows_36 rfl rfl ?_
      refine w_invs3 40 dX13_blows_37 rfl slX13_487 (d' := 0) (by decide) (Nat.le_of_ble_eq_true rfl) (c_X13_blown (p := q) (q := p) ?_)
      refine w_goto 49 dX13_blows_40 rfl ?_
      refine w_inv1 52 dX13_blows_49 rfl mlX13_56 rfl rfl (d' := 0) (by decide) (Nat.le_of_ble_eq_true rfl) (c_X13_good (fun A9 hQ9 ht9 hw9 => ?_))
      refine wr_i dX13_blows_52 rfl ?_
      exact kq (h A9 ((hQ1).tr hQ9) (by rw [hz]; exact ht9) hw9) (by unfold rBlows; rw [if_pos hz, c31]; rfl)
  · skip
    refine w_aload_n 18 dX13_blows_17 rfl rfl ?_
    refine w_iload 20 dX13_blows_18 rfl rfl ?_
    refine w_bipush 22 dX13_blows_20 rfl (v := (-100)) rfl ?_
    refine w_inv2 25 dX13_blows_22 rfl mlX13_427 rfl rfl (d' := 1) (by decide) (Nat.le_of_ble_eq_true rfl) (c_X13_lost (fun A2 hQ2 ht2 hw2 => ?_))
    refine w_goto 52 dX13_blows_25 rfl ?_
    refine wr_i dX13_blows_52 rfl ?_
    exact kq (h A2 (hQ1.tr hQ2) ht2 hw2) (by unfold rBlows; rw [if_neg (Nat.ne_of_gt c14)])

set_option maxRecDepth 4000 in
theorem a_X13_rests {K : Option Value → AH → Prop} {A : AH} {r : Value} {x z : Int32} (h : ∀ A', QM A A' → A'.1 100 1 = nI 0 → A'.1 100 2 = -1 → K (some (.int (nI (cntTo (prB x) 4)))) A') : WP mX13_rests 2 dM (GG (.ref 111) r) 21 [some (.ref 100), some (.int x), some (.int z), none, none] [] A K := by
  have lp26 : ∀ (nf : Nat) (i : Nat), i ≤ 4 → 4 - i < nf → WP mX13_rests 2 dM (GG (.ref 111) r) 26 [some (.ref 100), some (.int x), some (.int z), some (.int (nI (cntTo (prB x) i))), some (.int (nI i))] [] A K := by
    intro nf
    induction nf with
    | zero => intros; omega
    | succ nf ih =>
      intro i hi hms
      refine w_iload 28 dX13_rests_26 rfl rfl ?_
      refine w_iconst 29 dX13_rests_28 rfl (v := nI 4) rfl ?_
      refine w_icgeN 55 32 dX13_rests_29 rfl rfl (by omega) (by omega) (fun c29 => ?_) (fun c29 => ?_)
      · skip
        have e : i = 4 := by omega
        subst e
        refine w_aload_n 56 dX13_rests_55 rfl rfl ?_
        refine w_iload_n 57 dX13_rests_56 rfl rfl ?_
        refine w_inv1 60 dX13_rests_57 rfl mlX13_56 rfl rfl (d' := 0) (by decide) (Nat.le_of_ble_eq_true rfl) (c_X13_good (fun A9 hQ9 ht9 hw9 => ?_))
        refine wr_i dX13_rests_60 rfl ?_
        exact h A9 hQ9 ht9 hw9
      · skip
        refine w_iload_n 33 dX13_rests_32 rfl rfl ?_
        refine w_iload_n 34 dX13_rests_33 rfl rfl ?_
        refine w_iload 36 dX13_rests_34 rfl rfl ?_
        refine w_invs2 39 dX13_rests_36 rfl slX13_491 (d' := 1) (by decide) (Nat.le_of_ble_eq_true rfl) (c_X13_isRest c29 ?_)
        refine w_ifeqB 46 42 dX13_rests_39 rfl rfl (fun c39 => ?_) (fun c39 => ?_)
        · skip
          refine w_iconst 47 dX13_rests_46 rfl (v := nI 0) rfl ?_
          refine w_iaddN 48 dX13_rests_47 rfl ?_
          refine w_ist3 49 dX13_rests_48 rfl (by decide) rfl ?_
          refine w_inc4 52 dX13_rests_49 rfl (by decide) rfl (v := nI (_ + 1)) (nI_1 _) ?_
          refine w_goto 26 dX13_rests_52 rfl ?_
          refine wp_eq ?_ rfl rfl (ih (i + 1) (by omega) (by omega))
          simp [cntTo, c39]
        · skip
          refine w_iconst 43 dX13_rests_42 rfl (v := nI 1) rfl ?_
          refine w_goto 47 dX13_rests_43 rfl ?_
          refine w_iaddN 48 dX13_rests_47 rfl ?_
          refine w_ist3 49 dX13_rests_48 rfl (by decide) rfl ?_
          refine w_inc4 52 dX13_rests_49 rfl (by decide) rfl (v := nI (_ + 1)) (nI_1 _) ?_
          refine w_goto 26 dX13_rests_52 rfl ?_
          refine wp_eq ?_ rfl rfl (ih (i + 1) (by omega) (by omega))
          simp [cntTo, c39]
  refine w_iconst 22 dX13_rests_21 rfl (v := nI 0) rfl ?_
  refine w_ist3 23 dX13_rests_22 rfl (by decide) rfl ?_
  refine w_iconst 24 dX13_rests_23 rfl (v := nI 0) rfl ?_
  refine w_ist4 26 dX13_rests_24 rfl (by decide) rfl ?_
  exact lp26 _ 0 (Nat.zero_le _) (Nat.lt_succ_self _)

set_option maxRecDepth 4000 in
theorem c_X13_rests {K : Option Value → AH → Prop} {A : AH} {r : Value} {w : WT} {s : Nat → Nat} (hC : MC w s A) {x : Int32} (h : ∀ A', QM A A' → A'.1 100 1 = nI (tX (okW1 w) (tB 9 x)) → A'.1 100 2 = -1 → K (some (.int (rRests w x))) A') : Ct yX13_rests mX13_rests 2 dM (GG (.ref 111) r) [.ref 100, .int x] A K := by
  refine Ct.of [some (.ref 100), some (.int x), none, none, none] rfl rfl rfl (Nat.le_of_ble_eq_true rfl) ?_
  refine w_aload_n 1 dX13_rests_0 rfl rfl ?_
  refine w_iconst 2 dX13_rests_1 rfl (v := nI 0) rfl ?_
  refine w_puti 5 dX13_rests_2 rfl faX13_46 rfl rfl rfl rfl ?_
  have hQ1 : QM A (upd2 A.1 100 0 (nI 0), A.2) := QM.rf.f (by decide) _
  have hC1 := hC.q hQ1
  refine w_aload_n 6 dX13_rests_5 rfl rfl ?_
  refine w_iload_n 7 dX13_rests_6 rfl rfl ?_
  refine w_inv1 10 dX13_rests_7 rfl mlX13_484 rfl rfl (d' := 1) (by decide) (Nat.le_of_ble_eq_true rfl) (c_X13_refusesWeb hC1 ?_)
  refine w_ist2 11 dX13_rests_10 rfl (by decide) rfl ?_
  refine w_iload_n 12 dX13_rests_11 rfl rfl ?_
  refine w_ifleN 21 15 dX13_rests_12 rfl rfl (Nat.lt_of_le_of_lt (tX_le (tB_le _ _)) (by decide)) (fun c12 => ?_) (fun c12 => ?_)
  · skip
    have hz : tX (okW1 w) (tB 9 x) = 0 := c12
    exact a_X13_rests (fun A9 hQ9 ht9 hw9 => kq (h A9 (hQ1.tr hQ9) (by rw [hz]; exact ht9) hw9) (by unfold rRests; rw [if_pos hz]))
  · skip
    refine w_aload_n 16 dX13_rests_15 rfl rfl ?_
    refine w_iload_n 17 dX13_rests_16 rfl rfl ?_
    refine w_inv1 20 dX13_rests_17 rfl mlX13_52 rfl rfl (d' := 0) (by decide) (Nat.le_of_ble_eq_true rfl) (c_X13_refused (fun A2 hQ2 ht2 hw2 => ?_))
    refine wr_i dX13_rests_20 rfl ?_
    exact kq (h A2 (hQ1.tr hQ2) ht2 hw2) (by unfold rRests; rw [if_neg (Nat.ne_of_gt c12)])

set_option maxRecDepth 4000 in
theorem a_X13_rest {K : Option Value → AH → Prop} {A : AH} {r : Value} {x z : Int32} (h : ∀ A', QM A A' → A'.1 100 1 = nI 0 → A'.1 100 2 = -1 → K (some (.int (enc2 ((fst1 (prB x) 4).map (fun k => k / 2 * 10 + k % 2))))) A') : WP mX13_rest 2 dM (GG (.ref 111) r) 21 [some (.ref 100), some (.int x), some (.int z), none] [] A K := by
  have lp23 : ∀ (nf : Nat) (i : Nat), i ≤ 4 → fst1 (prB x) i = none → 4 - i < nf → WP mX13_rest 2 dM (GG (.ref 111) r) 23 [some (.ref 100), some (.int x), some (.int z), some (.int (nI i))] [] A K := by
    intro nf
    induction nf with
    | zero => intros; omega
    | succ nf ih =>
      intro i hi hf hms
      refine w_iload_n 24 dX13_rest_23 rfl rfl ?_
      refine w_iconst 25 dX13_rest_24 rfl (v := nI 4) rfl ?_
      refine w_icgeN 57 28 dX13_rest_25 rfl rfl (by omega) (by omega) (fun c25 => ?_) (fun c25 => ?_)
      · skip
        refine w_aload_n 58 dX13_rest_57 rfl rfl ?_
        refine w_bipush 60 dX13_rest_58 rfl (v := (-2)) rfl ?_
        refine w_inv1 63 dX13_rest_60 rfl mlX13_56 rfl rfl (d' := 0) (by decide) (Nat.le_of_ble_eq_true rfl) (c_X13_good (fun A9 hQ9 ht9 hw9 => ?_))
        refine wr_i dX13_rest_63 rfl ?_
        have e : i = 4 := by omega
        subst e
        exact kq (h A9 hQ9 ht9 hw9) (by rw [hf]; rfl)
      · skip
        refine w_iload_n 29 dX13_rest_28 rfl rfl ?_
        refine w_iload_n 30 dX13_rest_29 rfl rfl ?_
        refine w_invs2 33 dX13_rest_30 rfl slX13_491 (d' := 1) (by decide) (Nat.le_of_ble_eq_true rfl) (c_X13_isRest c25 ?_)
        refine w_ifeqB 51 36 dX13_rest_33 rfl rfl (fun c33 => ?_) (fun c33 => ?_)
        · skip
          refine w_inc3 54 dX13_rest_51 rfl (by decide) rfl (v := nI (_ + 1)) (nI_1 _) ?_
          refine w_goto 23 dX13_rest_54 rfl ?_
          exact ih (i + 1) (by omega) (by simp [fst1, hf, c33]) (by omega)
        · skip
          refine w_aload_n 37 dX13_rest_36 rfl rfl ?_
          refine w_bipush 39 dX13_rest_37 rfl (v := nI 10) rfl ?_
          refine w_iload_n 40 dX13_rest_39 rfl rfl ?_
          refine w_iconst 41 dX13_rest_40 rfl (v := nI 2) rfl ?_
          refine w_idivN 42 dX13_rest_41 rfl (by omega) (by omega) (by omega) ?_
          refine w_imulN 43 dX13_rest_42 rfl ?_
          refine w_iload_n 44 dX13_rest_43 rfl rfl ?_
          refine w_iconst 45 dX13_rest_44 rfl (v := nI 2) rfl ?_
          refine w_iremN 46 dX13_rest_45 rfl (by omega) (by omega) (by omega) ?_
          refine w_iaddN 47 dX13_rest_46 rfl ?_
          refine w_inv1 50 dX13_rest_47 rfl mlX13_56 rfl rfl (d' := 0) (by decide) (Nat.le_of_ble_eq_true rfl) (c_X13_good (fun A9 hQ9 ht9 hw9 => ?_))
          refine wr_i dX13_rest_50 rfl ?_
          exact kq (h A9 hQ9 ht9 hw9) (by rw [fst1_some hf c33 c25, Nat.mul_comm 10]; rfl)
  refine w_iconst 22 dX13_rest_21 rfl (v := nI 0) rfl ?_
  refine w_ist3 23 dX13_rest_22 rfl (by decide) rfl ?_
  exact lp23 _ 0 (Nat.zero_le _) rfl (Nat.lt_succ_self _)

set_option maxRecDepth 4000 in
theorem c_X13_rest {K : Option Value → AH → Prop} {A : AH} {r : Value} {w : WT} {s : Nat → Nat} (hC : MC w s A) {x : Int32} (h : ∀ A', QM A A' → A'.1 100 1 = nI (tX (okW1 w) (tB 9 x)) → A'.1 100 2 = -1 → K (some (.int (rRest w x))) A') : Ct yX13_rest mX13_rest 2 dM (GG (.ref 111) r) [.ref 100, .int x] A K := by
  refine Ct.of [some (.ref 100), some (.int x), none, none] rfl rfl rfl (Nat.le_of_ble_eq_true rfl) ?_
  refine w_aload_n 1 dX13_rest_0 rfl rfl ?_
  refine w_iconst 2 dX13_rest_1 rfl (v := nI 0) rfl ?_
  refine w_puti 5 dX13_rest_2 rfl faX13_46 rfl rfl rfl rfl ?_
  have hQ1 : QM A (upd2 A.1 100 0 (nI 0), A.2) := QM.rf.f (by decide) _
  have hC1 := hC.q hQ1
  refine w_aload_n 6 dX13_rest_5 rfl rfl ?_
  refine w_iload_n 7 dX13_rest_6 rfl rfl ?_
  refine w_inv1 10 dX13_rest_7 rfl mlX13_484 rfl rfl (d' := 1) (by decide) (Nat.le_of_ble_eq_true rfl) (c_X13_refusesWeb hC1 ?_)
  refine w_ist2 11 dX13_rest_10 rfl (by decide) rfl ?_
  refine w_iload_n 12 dX13_rest_11 rfl rfl ?_
  refine w_ifleN 21 15 dX13_rest_12 rfl rfl (Nat.lt_of_le_of_lt (tX_le (tB_le _ _)) (by decide)) (fun c12 => ?_) (fun c12 => ?_)
  · skip
    have hz : tX (okW1 w) (tB 9 x) = 0 := c12
    exact a_X13_rest (fun A9 hQ9 ht9 hw9 => kq (h A9 (hQ1.tr hQ9) (by rw [hz]; exact ht9) hw9) (by unfold rRest; rw [if_pos hz]))
  · skip
    refine w_aload_n 16 dX13_rest_15 rfl rfl ?_
    refine w_iload_n 17 dX13_rest_16 rfl rfl ?_
    refine w_inv1 20 dX13_rest_17 rfl mlX13_52 rfl rfl (d' := 0) (by decide) (Nat.le_of_ble_eq_true rfl) (c_X13_refused (fun A2 hQ2 ht2 hw2 => ?_))
    refine wr_i dX13_rest_20 rfl ?_
    exact kq (h A2 (hQ1.tr hQ2) ht2 hw2) (by unfold rRest; rw [if_neg (Nat.ne_of_gt c12)])

set_option maxRecDepth 4000 in
theorem c_X13_refusesWebN {K : Option Value → AH → Prop} {A : AH} {r : Value} {x : Int32} (h : K (some (.int (nI 1))) A) : Ct yX13_refusesWeb mX13_refusesWeb 1 dN (GG .null r) [.ref 100, .int x] A K := by
  refine Ct.of [some (.ref 100), some (.int x)] rfl rfl rfl (Nat.le_of_ble_eq_true rfl) ?_
  refine w_aload_n 1 dX13_refusesWeb_0 rfl rfl ?_
  refine w_getr 4 dX13_refusesWeb_1 rfl faX13_343 rfl rfl rfl (r := .null) rfl ?_
  refine w_nnN 7 dX13_refusesWeb_4 rfl ?_
  refine w_iconst 8 dX13_refusesWeb_7 rfl (v := nI 1) rfl ?_
  refine w_goto 26 dX13_refusesWeb_8 rfl ?_
  refine wr_i dX13_refusesWeb_26 rfl ?_
  exact h

set_option maxRecDepth 4000 in
theorem n_X13_rests {K : Option Value → AH → Prop} {A : AH} {r : Value} {x : Int32} (h : ∀ A', QM A A' → A'.1 100 1 = nI 1 → A'.1 100 2 = -1 → K (some (.int (-1))) A') : Ct yX13_rests mX13_rests 2 dN (GG .null r) [.ref 100, .int x] A K := by
  refine Ct.of [some (.ref 100), some (.int x), none, none, none] rfl rfl rfl (Nat.le_of_ble_eq_true rfl) ?_
  refine w_aload_n 1 dX13_rests_0 rfl rfl ?_
  refine w_iconst 2 dX13_rests_1 rfl (v := nI 0) rfl ?_
  refine w_puti 5 dX13_rests_2 rfl faX13_46 rfl rfl rfl rfl ?_
  refine w_aload_n 6 dX13_rests_5 rfl rfl ?_
  refine w_iload_n 7 dX13_rests_6 rfl rfl ?_
  refine w_inv1 10 dX13_rests_7 rfl mlX13_484 rfl rfl (d' := 1) (by decide) (Nat.le_of_ble_eq_true rfl) (c_X13_refusesWebN ?_)
  refine w_ist2 11 dX13_rests_10 rfl (by decide) rfl ?_
  refine w_iload_n 12 dX13_rests_11 rfl rfl ?_
  refine w_ifleN 21 15 dX13_rests_12 rfl rfl (by decide) (fun cc => absurd cc (by decide)) (fun _ => ?_)
  refine w_aload_n 16 dX13_rests_15 rfl rfl ?_
  refine w_iload_n 17 dX13_rests_16 rfl rfl ?_
  refine w_inv1 20 dX13_rests_17 rfl mlX13_52 rfl rfl (d' := 0) (by decide) (Nat.le_of_ble_eq_true rfl) (c_X13_refusedN (fun A2 hQ2 ht2 hw2 => ?_))
  refine wr_i dX13_rests_20 rfl ?_
  exact h A2 ((QM.rf.f (by decide) _).tr hQ2) ht2 hw2

set_option maxRecDepth 4000 in
theorem n_X13_rest {K : Option Value → AH → Prop} {A : AH} {r : Value} {x : Int32} (h : ∀ A', QM A A' → A'.1 100 1 = nI 1 → A'.1 100 2 = -1 → K (some (.int (-1))) A') : Ct yX13_rest mX13_rest 2 dN (GG .null r) [.ref 100, .int x] A K := by
  refine Ct.of [some (.ref 100), some (.int x), none, none] rfl rfl rfl (Nat.le_of_ble_eq_true rfl) ?_
  refine w_aload_n 1 dX13_rest_0 rfl rfl ?_
  refine w_iconst 2 dX13_rest_1 rfl (v := nI 0) rfl ?_
  refine w_puti 5 dX13_rest_2 rfl faX13_46 rfl rfl rfl rfl ?_
  refine w_aload_n 6 dX13_rest_5 rfl rfl ?_
  refine w_iload_n 7 dX13_rest_6 rfl rfl ?_
  refine w_inv1 10 dX13_rest_7 rfl mlX13_484 rfl rfl (d' := 1) (by decide) (Nat.le_of_ble_eq_true rfl) (c_X13_refusesWebN ?_)
  refine w_ist2 11 dX13_rest_10 rfl (by decide) rfl ?_
  refine w_iload_n 12 dX13_rest_11 rfl rfl ?_
  refine w_ifleN 21 15 dX13_rest_12 rfl rfl (by decide) (fun cc => absurd cc (by decide)) (fun _ => ?_)
  refine w_aload_n 16 dX13_rest_15 rfl rfl ?_
  refine w_iload_n 17 dX13_rest_16 rfl rfl ?_
  refine w_inv1 20 dX13_rest_17 rfl mlX13_52 rfl rfl (d' := 0) (by decide) (Nat.le_of_ble_eq_true rfl) (c_X13_refusedN (fun A2 hQ2 ht2 hw2 => ?_))
  refine wr_i dX13_rest_20 rfl ?_
  exact h A2 ((QM.rf.f (by decide) _).tr hQ2) ht2 hw2

set_option maxRecDepth 4000 in
theorem n_X13_blows {K : Option Value → AH → Prop} {A : AH} {r : Value} {x : Int32} {p q o : Bool} (h : ∀ A', QM A A' → A'.1 100 1 = nI 1 → A'.1 100 2 = -1 → K (some (.int (-100))) A') : Ct yX13_blows mX13_blows 2 dN (GG .null r) [.ref 100, .int x, .int (b2i p), .int (b2i q), .int (b2i o)] A K := by
  refine Ct.of [some (.ref 100), some (.int x), some (.int (b2i p)), some (.int (b2i q)), some (.int (b2i o)), none] rfl rfl rfl (Nat.le_of_ble_eq_true rfl) ?_
  refine w_aload_n 1 dX13_blows_0 rfl rfl ?_
  refine w_iconst 2 dX13_blows_1 rfl (v := nI 0) rfl ?_
  refine w_puti 5 dX13_blows_2 rfl faX13_46 rfl rfl rfl rfl ?_
  refine w_aload_n 6 dX13_blows_5 rfl rfl ?_
  refine w_iload_n 7 dX13_blows_6 rfl rfl ?_
  refine w_inv1 10 dX13_blows_7 rfl mlX13_484 rfl rfl (d' := 1) (by decide) (Nat.le_of_ble_eq_true rfl) (c_X13_refusesWebN ?_)
  refine w_ist5 12 dX13_blows_10 rfl (by decide) rfl ?_
  refine w_iload 14 dX13_blows_12 rfl rfl ?_
  refine w_ifleN 28 17 dX13_blows_14 rfl rfl (by decide) (fun cc => absurd cc (by decide)) (fun _ => ?_)
  refine w_aload_n 18 dX13_blows_17 rfl rfl ?_
  refine w_iload 20 dX13_blows_18 rfl rfl ?_
  refine w_bipush 22 dX13_blows_20 rfl (v := (-100)) rfl ?_
  refine w_inv2 25 dX13_blows_22 rfl mlX13_427 rfl rfl (d' := 1) (by decide) (Nat.le_of_ble_eq_true rfl) (c_X13_lostN (fun A2 hQ2 ht2 hw2 => ?_))
  refine w_goto 52 dX13_blows_25 rfl ?_
  refine wr_i dX13_blows_52 rfl ?_
  exact h A2 ((QM.rf.f (by decide) _).tr hQ2) ht2 hw2

set_option maxRecDepth 4000 in
theorem n_X13_snaps {K : Option Value → AH → Prop} {A : AH} {r : Value} {a b : Int32} (h : ∀ A', QM A A' → A'.1 100 1 = nI 1 → A'.1 100 2 = -1 → K (some (.int (-1))) A') : Ct yX13_snaps mX13_snaps 5 dN (GG .null r) [.ref 100, .int a, .int b] A K := by
  refine Ct.of [some (.ref 100), some (.int a), some (.int b)] rfl rfl rfl (Nat.le_of_ble_eq_true rfl) ?_
  refine w_aload_n 1 dX13_snaps_0 rfl rfl ?_
  refine w_iconst 2 dX13_snaps_1 rfl (v := nI 0) rfl ?_
  refine w_puti 5 dX13_snaps_2 rfl faX13_46 rfl rfl rfl rfl ?_
  refine w_aload_n 6 dX13_snaps_5 rfl rfl ?_
  refine w_iload_n 7 dX13_snaps_6 rfl rfl ?_
  refine w_iload_n 8 dX13_snaps_7 rfl rfl ?_
  refine w_inv2 11 dX13_snaps_8 rfl mlX13_408 rfl rfl (d' := 1) (by decide) (Nat.le_of_ble_eq_true rfl) (c_X13_areTwoN ?_)
  refine w_ifneB 20 14 dX13_snaps_11 rfl rfl (fun cc => by cases cc) (fun _ => ?_)
  refine w_aload_n 15 dX13_snaps_14 rfl rfl ?_
  refine w_iconst 16 dX13_snaps_15 rfl (v := nI 1) rfl ?_
  refine w_inv1 19 dX13_snaps_16 rfl mlX13_52 rfl rfl (d' := 0) (by decide) (Nat.le_of_ble_eq_true rfl) (c_X13_refusedN (fun A2 hQ2 ht2 hw2 => ?_))
  refine wr_i dX13_snaps_19 rfl ?_
  exact h A2 ((QM.rf.f (by decide) _).tr hQ2) ht2 hw2

set_option maxRecDepth 4000 in
theorem n_X13_snapsBy {K : Option Value → AH → Prop} {A : AH} {r : Value} {a b : Int32} (h : ∀ A', QM A A' → A'.1 100 1 = nI 1 → A'.1 100 2 = -1 → K (some (.int (-1))) A') : Ct yX13_snapsBy mX13_snapsBy 5 dN (GG .null r) [.ref 100, .int a, .int b] A K := by
  refine Ct.of [some (.ref 100), some (.int a), some (.int b), none, none] rfl rfl rfl (Nat.le_of_ble_eq_true rfl) ?_
  refine w_aload_n 1 dX13_snapsBy_0 rfl rfl ?_
  refine w_iconst 2 dX13_snapsBy_1 rfl (v := nI 0) rfl ?_
  refine w_puti 5 dX13_snapsBy_2 rfl faX13_46 rfl rfl rfl rfl ?_
  refine w_aload_n 6 dX13_snapsBy_5 rfl rfl ?_
  refine w_iload_n 7 dX13_snapsBy_6 rfl rfl ?_
  refine w_iload_n 8 dX13_snapsBy_7 rfl rfl ?_
  refine w_inv2 11 dX13_snapsBy_8 rfl mlX13_408 rfl rfl (d' := 1) (by decide) (Nat.le_of_ble_eq_true rfl) (c_X13_areTwoN ?_)
  refine w_ifneB 20 14 dX13_snapsBy_11 rfl rfl (fun cc => by cases cc) (fun _ => ?_)
  refine w_aload_n 15 dX13_snapsBy_14 rfl rfl ?_
  refine w_iconst 16 dX13_snapsBy_15 rfl (v := nI 1) rfl ?_
  refine w_inv1 19 dX13_snapsBy_16 rfl mlX13_52 rfl rfl (d' := 0) (by decide) (Nat.le_of_ble_eq_true rfl) (c_X13_refusedN (fun A2 hQ2 ht2 hw2 => ?_))
  refine wr_i dX13_snapsBy_19 rfl ?_
  exact h A2 ((QM.rf.f (by decide) _).tr hQ2) ht2 hw2

set_option maxRecDepth 4000 in
theorem n_X13_fitAt {K : Option Value → AH → Prop} {A : AH} {r : Value} {i : Int32} (h : ∀ A', QM A A' → A'.1 100 1 = nI 1 → A'.1 100 2 = -1 → K (some (.int (-1))) A') : Ct yX13_fitAt mX13_fitAt 5 dN (GG .null r) [.ref 100, .int i] A K := by
  refine Ct.of [some (.ref 100), some (.int i), none] rfl rfl rfl (Nat.le_of_ble_eq_true rfl) ?_
  refine w_aload_n 1 dX13_fitAt_0 rfl rfl ?_
  refine w_iconst 2 dX13_fitAt_1 rfl (v := nI 0) rfl ?_
  refine w_puti 5 dX13_fitAt_2 rfl faX13_46 rfl rfl rfl rfl ?_
  refine w_aload_n 6 dX13_fitAt_5 rfl rfl ?_
  refine w_getr 9 dX13_fitAt_6 rfl faX13_343 rfl rfl rfl (r := .null) rfl ?_
  refine w_nN 16 dX13_fitAt_9 rfl ?_
  refine w_aload_n 17 dX13_fitAt_16 rfl rfl ?_
  refine w_iconst 18 dX13_fitAt_17 rfl (v := nI 1) rfl ?_
  refine w_inv1 21 dX13_fitAt_18 rfl mlX13_52 rfl rfl (d' := 0) (by decide) (Nat.le_of_ble_eq_true rfl) (c_X13_refusedN (fun A2 hQ2 ht2 hw2 => ?_))
  refine wr_i dX13_fitAt_21 rfl ?_
  exact h A2 ((QM.rf.f (by decide) _).tr hQ2) ht2 hw2

set_option maxRecDepth 4000 in
theorem n_X13_odds {K : Option Value → AH → Prop} {A : AH} {r : Value} {k : Int32} {lo : Bool} (h : ∀ A', QM A A' → A'.1 100 1 = nI 1 → A'.1 100 2 = -1 → K (some (.long (-1))) A') : Ct yX13_odds mX13_odds 4 dN (GG .null r) [.ref 100, .int k, .int (b2i lo)] A K := by
  refine Ct.of [some (.ref 100), some (.int k), some (.int (b2i lo)), none, none, none, none, none] rfl rfl rfl (Nat.le_of_ble_eq_true rfl) ?_
  refine w_aload_n 1 dX13_odds_0 rfl rfl ?_
  refine w_iconst 2 dX13_odds_1 rfl (v := nI 0) rfl ?_
  refine w_puti 5 dX13_odds_2 rfl faX13_46 rfl rfl rfl rfl ?_
  refine w_aload_n 6 dX13_odds_5 rfl rfl ?_
  refine w_getr 9 dX13_odds_6 rfl faX13_343 rfl rfl rfl (r := .null) rfl ?_
  refine w_nN 27 dX13_odds_9 rfl ?_
  refine w_aload_n 28 dX13_odds_27 rfl rfl ?_
  refine w_iconst 29 dX13_odds_28 rfl (v := nI 1) rfl ?_
  refine w_inv1 32 dX13_odds_29 rfl mlX13_52 rfl rfl (d' := 0) (by decide) (Nat.le_of_ble_eq_true rfl) (c_X13_refusedN (fun A2 hQ2 ht2 hw2 => ?_))
  refine w_i2l 33 dX13_odds_32 rfl ?_
  refine wr_l dX13_odds_33 rfl ?_
  exact h A2 ((QM.rf.f (by decide) _).tr hQ2) ht2 hw2

set_option maxRecDepth 4000 in
theorem n_X13_brown {K : Option Value → AH → Prop} {A : AH} {r : Value} {t u : Int32} {lo : Bool} (h : ∀ A', QM A A' → A'.1 100 1 = nI 1 → A'.1 100 2 = -1 → K (some (.long (-1))) A') : Ct yX13_brown mX13_brown 4 dN (GG .null r) [.ref 100, .int t, .int u, .int (b2i lo)] A K := by
  refine Ct.of [some (.ref 100), some (.int t), some (.int u), some (.int (b2i lo)), none, none, none, none, none] rfl rfl rfl (Nat.le_of_ble_eq_true rfl) ?_
  refine w_aload_n 1 dX13_brown_0 rfl rfl ?_
  refine w_iconst 2 dX13_brown_1 rfl (v := nI 0) rfl ?_
  refine w_puti 5 dX13_brown_2 rfl faX13_46 rfl rfl rfl rfl ?_
  refine w_aload_n 6 dX13_brown_5 rfl rfl ?_
  refine w_iload_n 7 dX13_brown_6 rfl rfl ?_
  refine w_inv1 10 dX13_brown_7 rfl mlX13_392 rfl rfl (d' := 0) (by decide) (Nat.le_of_ble_eq_true rfl) (c_X13_isThreadN ?_)
  refine w_ifeqB 21 13 dX13_brown_10 rfl rfl (fun _ => ?_) (fun cc => by cases cc)
  refine w_aload_n 22 dX13_brown_21 rfl rfl ?_
  refine w_iconst 23 dX13_brown_22 rfl (v := nI 1) rfl ?_
  refine w_inv1 26 dX13_brown_23 rfl mlX13_52 rfl rfl (d' := 0) (by decide) (Nat.le_of_ble_eq_true rfl) (c_X13_refusedN (fun A2 hQ2 ht2 hw2 => ?_))
  refine w_i2l 27 dX13_brown_26 rfl ?_
  refine wr_l dX13_brown_27 rfl ?_
  exact h A2 ((QM.rf.f (by decide) _).tr hQ2) ht2 hw2

