/-! ===== the reference: acts ===== -/
set_option maxRecDepth 4000 in
theorem c_X13_year {K : Option Value → AH → Prop} {A : AH} {r : Value} {w : WT} {s : Nat → Nat} {H I : Nat → Nat → Nat} {c m : Nat} (hC : MC w s A) (hH : MH w s H I c m A)  (hf : tYear w s ≠ 0 → ∀ A', QM A A' → A'.1 100 1 = nI (tYear w s) → A'.1 100 2 = -1 → K (some (.int (-1))) A') (hs : tYear w s = 0 → ∀ A', MC w (yrS s) A' → MH w (yrS s) (pushH s H) (I) (kpC c) (m) A' → QA A A' → A'.1 100 1 = nI 0 → A'.1 100 2 = -1 → K (some (.int (nI (vYear w s)))) A') : Ct yX13_year mX13_year 4 dM (GG (.ref 111) r) [.ref 100] A K := by
  refine Ct.of [some (.ref 100), none] rfl rfl rfl (Nat.le_of_ble_eq_true rfl) ?_
  refine w_aload_n 1 dX13_year_0 rfl rfl ?_
  refine w_iconst 2 dX13_year_1 rfl (v := nI 0) rfl ?_
  refine w_puti 5 dX13_year_2 rfl faX13_46 rfl rfl rfl rfl ?_
  have hQ1 : QM A (upd2 A.1 100 0 (nI 0), A.2) := QM.rf.f (by decide) _
  have hC1 := hC.q hQ1
  have hH1 := hH.q hQ1
  refine w_aload_n 6 dX13_year_5 rfl rfl ?_
  refine w_getr 9 dX13_year_6 rfl faX13_343 rfl rfl rfl (r := .ref 111) rfl ?_
  refine w_nnR 18 dX13_year_9 rfl ?_
  have hs0 := hC.2.2.2.1.1
  have h25 : A.1 102 25 = nI (s 0) := hC.2.1.2.1
  refine w_aload_n 19 dX13_year_18 rfl rfl ?_
  refine w_getr 22 dX13_year_19 rfl faX13_17 rfl rfl rfl (r := .ref 102) rfl ?_
  refine w_bipush 24 dX13_year_22 rfl (v := nI 25) rfl ?_
  refine w_ialdv 25 dX13_year_24 rfl rfl rfl (by decide) (by omega) (v := nI (s 0)) (by dsimp only; rw [upd2_ne (by decide)]; exact h25) ?_
  refine w_sipush 28 dX13_year_25 rfl (v := nI 999) rfl ?_
  refine w_icneN 37 31 dX13_year_28 rfl rfl (by omega) (by omega) (fun c28 => ?_) (fun c28 => ?_)
  · skip
    have hT : tYear w s = 0 := by unfold tYear; rw [okW1_t hC, if_pos (by omega)]; rfl
    refine w_aload_n 38 dX13_year_37 rfl rfl ?_
    refine w_inv0 41 dX13_year_38 rfl mlX13_520 rfl rfl (d' := 0) (by decide) (Nat.le_of_ble_eq_true rfl) (c_X13_remembers hC1 hH1 (fun A3 hH3 hQ3 hv3 => ?_))
    refine w_aload_n 42 dX13_year_41 rfl rfl ?_
    refine w_iconst 43 dX13_year_42 rfl (v := nI 0) rfl ?_
    have hC3 : MC w s A3 := hC1.chg hQ3 (by rw [hv3]; exact hC1.2.1) hC.2.2.2.1
    refine w_inv1 46 dX13_year_43 rfl mlX13_398 rfl rfl (d' := 3) (by decide) (Nat.le_of_ble_eq_true rfl) (c_X13_lays hC3 (by decide) (fun A4 hY4 hX4 hQ4 => ?_))
    refine w_aload_n 47 dX13_year_46 rfl rfl ?_
    refine w_inv0 50 dX13_year_47 rfl mlX13_405 rfl rfl (d' := 0) (by decide) (Nat.le_of_ble_eq_true rfl) (c_X13_held hY4 ?_)
    rw [show maskTo (fun e => decide (0 < esW w s 0 e)) (s 1) = HM w s 0 from HN_HM hC.2.2.2.1 0]
    refine w_ist1 51 dX13_year_50 rfl (by decide) rfl ?_
    refine w_aload_n 52 dX13_year_51 rfl rfl ?_
    refine w_getr 55 dX13_year_52 rfl faX13_17 rfl rfl rfl (r := .ref 102) rfl ?_
    refine w_bipush 57 dX13_year_55 rfl (v := nI 25) rfl ?_
    refine w_dup2 58 dX13_year_57 rfl ?_
    refine w_ialdv 59 dX13_year_58 rfl rfl rfl (by decide) (by omega) (v := nI (s 0)) ((hC3.q hQ4).2.1.2.1) ?_
    refine w_iconst 60 dX13_year_59 rfl (v := nI 1) rfl ?_
    refine w_iaddN 61 dX13_year_60 rfl ?_
    refine w_iastN 62 dX13_year_61 rfl rfl rfl (by decide) (by omega) ?_
    refine w_aload_n 63 dX13_year_62 rfl rfl ?_
    refine w_iconst 64 dX13_year_63 rfl (v := nI 0) rfl ?_
    have hsy := yrS_ok hC.2.2.2.1 (show s 0 < 999 by omega)
    have hC4 := hC3.q hQ4
    have hO5 : OffL [102] A4 (upd2 A4.1 102 25 (nI (s 0 + 1)), A4.2) := OffL.rf.upd (by decide) _ _
    have hC5 : MC w (yrS s) (upd2 A4.1 102 25 (nI (s 0 + 1)), A4.2) := hC4.chg (QA.o hO5 (by decide) (by decide)) (VR_yr hC.2.2.2.1 hC4.2.1 (by dsimp only; rw [upd2_at]) (fun k _ hk => by dsimp only; rw [upd2_off hk])) hsy
    have hH5 : MH w (yrS s) (pushH s H) I (kpC c) m (upd2 A4.1 102 25 (nI (s 0 + 1)), A4.2) := (hH3.q hQ4).v (by rw [show yrS s 1 = s 1 from updN_ne (by decide)]; exact hH.1) hO5
    refine w_inv1 67 dX13_year_64 rfl mlX13_398 rfl rfl (d' := 3) (by decide) (Nat.le_of_ble_eq_true rfl) (c_X13_lays hC5 (by decide) (fun A6 hY6 hX6 hQ6 => ?_))
    refine w_aload_n 68 dX13_year_67 rfl rfl ?_
    refine w_iload_n 69 dX13_year_68 rfl rfl ?_
    refine w_aload_n 70 dX13_year_69 rfl rfl ?_
    refine w_inv0 73 dX13_year_70 rfl mlX13_405 rfl rfl (d' := 0) (by decide) (Nat.le_of_ble_eq_true rfl) (c_X13_held hY6 ?_)
    rw [show maskTo (fun e => decide (0 < esW w (yrS s) 0 e)) (yrS s 1) = HM w (yrS s) 0 from HN_HM hsy 0]
    refine w_iconst 74 dX13_year_73 rfl (v := (-1)) rfl ?_
    refine w_ixor 75 dX13_year_74 rfl ?_
    refine w_iand 76 dX13_year_75 rfl ?_
    refine w_top (not_and (HM_lt w s 0)) ?_
    refine w_inv1 79 dX13_year_76 rfl mlX13_56 rfl rfl (d' := 0) (by decide) (Nat.le_of_ble_eq_true rfl) (c_X13_good (fun A9 hQ9 ht9 hw9 => ?_))
    refine wr_i dX13_year_79 rfl ?_
    exact hs hT A9 ((hC5.q hQ6).q hQ9) ((hH5.q hQ6).q hQ9) ((((hQ1.qa.tr hQ3).tr hQ4.qa).tr (QA.o hO5 (by decide) (by decide))).tr (hQ6.qa.tr hQ9.qa)) ht9 hw9
  · skip
    have hT : tYear w s = 3 := by unfold tYear; rw [okW1_t hC, if_neg (by omega)]; rfl
    refine w_aload_n 32 dX13_year_31 rfl rfl ?_
    refine w_iconst 33 dX13_year_32 rfl (v := nI 3) rfl ?_
    refine w_inv1 36 dX13_year_33 rfl mlX13_52 rfl rfl (d' := 0) (by decide) (Nat.le_of_ble_eq_true rfl) (c_X13_refused (fun A2 hQ2 ht2 hw2 => ?_))
    refine wr_i dX13_year_36 rfl ?_
    exact hf (by rw [hT]; decide) A2 (hQ1.tr hQ2) (by rw [ht2, hT]) hw2

set_option maxRecDepth 4000 in
theorem c_X13_snap {K : Option Value → AH → Prop} {A : AH} {r : Value} {w : WT} {s : Nat → Nat} {H I : Nat → Nat → Nat} {c m : Nat} (hC : MC w s A) (hH : MH w s H I c m A) {t : Int32} (hf : tSnap s t ≠ 0 → ∀ A', QM A A' → A'.1 100 1 = nI (tSnap s t) → A'.1 100 2 = -1 → K (some (.int (nI 0))) A') (hs : tSnap s t = 0 → ∀ A', MC w (snS s (cl t)) A' → MH w (snS s (cl t)) (pushH s H) (I) (kpC c) (m) A' → QA A A' → A'.1 100 1 = nI 0 → A'.1 100 2 = -1 → K (some (.int (nI 1))) A') : Ct yX13_snap mX13_snap 2 dM (GG (.ref 111) r) [.ref 100, .int t] A K := by
  refine Ct.of [some (.ref 100), some (.int t)] rfl rfl rfl (Nat.le_of_ble_eq_true rfl) ?_
  refine w_aload_n 1 dX13_snap_0 rfl rfl ?_
  refine w_iconst 2 dX13_snap_1 rfl (v := nI 0) rfl ?_
  refine w_puti 5 dX13_snap_2 rfl faX13_46 rfl rfl rfl rfl ?_
  have hQ1 : QM A (upd2 A.1 100 0 (nI 0), A.2) := QM.rf.f (by decide) _
  have hC1 := hC.q hQ1
  have hH1 := hH.q hQ1
  refine w_aload_n 6 dX13_snap_5 rfl rfl ?_
  refine w_iload_n 7 dX13_snap_6 rfl rfl ?_
  refine w_inv1 10 dX13_snap_7 rfl mlX13_392 rfl rfl (d' := 0) (by decide) (Nat.le_of_ble_eq_true rfl) (c_X13_isThread hC1 ?_)
  refine w_ifneB 19 13 dX13_snap_10 rfl rfl (fun c10 => ?_) (fun c10 => ?_)
  · skip
    have hs8 := hC.2.2.2.1.2.1
    have hr := hC.rooms
    obtain ⟨t, rfl, ht⟩ := okR_of c10 (by omega)
    have hct : cl (nI t) = t := cl_nI (show t < 2 ^ 31 by omega)
    rw [hct] at hs
    refine w_aload_n 20 dX13_snap_19 rfl rfl ?_
    refine w_inv0 23 dX13_snap_20 rfl mlX13_376 rfl rfl (d' := 0) (by decide) (Nat.le_of_ble_eq_true rfl) (c_X13_worksR hC1 (fun A4 hX hQ4 => ?_))
    refine w_aload_n 24 dX13_snap_23 rfl rfl ?_
    refine w_iload_n 25 dX13_snap_24 rfl rfl ?_
    refine w_iconst 26 dX13_snap_25 rfl (v := nI 0) rfl ?_
    refine w_inv2 29 dX13_snap_26 rfl mlX13_369 rfl rfl (d' := 1) (by decide) (Nat.le_of_ble_eq_true rfl) (c_X13_strongOf (hC1.q hQ4).1 hX ⟨hr.2.2.1, hr.2.2.2.2.2.1⟩ ht (by decide) ?_)
    refine w_ifneN 38 32 dX13_snap_29 rfl rfl (by have := stg_le hC.2.2.2.1 t 0; omega) (fun c29 => ?_) (fun c29 => ?_)
    · skip
      have hT : tSnap s (nI t) = 0 := by unfold tSnap; rw [c10, hct, if_pos (by omega)]; rfl
      refine w_aload_n 39 dX13_snap_38 rfl rfl ?_
      refine w_inv0 42 dX13_snap_39 rfl mlX13_520 rfl rfl (d' := 0) (by decide) (Nat.le_of_ble_eq_true rfl) (c_X13_remembers (hC1.q hQ4) (hH1.q hQ4) (fun A3 hH3 hQ3 hv3 => ?_))
      refine w_aload_n 43 dX13_snap_42 rfl rfl ?_
      refine w_getr 46 dX13_snap_43 rfl faX13_17 rfl rfl rfl (r := .ref 102) rfl ?_
      refine w_bipush 48 dX13_snap_46 rfl (v := nI 16) rfl ?_
      refine w_iload_n 49 dX13_snap_48 rfl rfl ?_
      refine w_iaddN 50 dX13_snap_49 rfl ?_
      refine w_iconst 51 dX13_snap_50 rfl (v := nI 1) rfl ?_
      refine w_iastN 52 dX13_snap_51 rfl rfl rfl (by decide) (by omega) ?_
      have hC3 : MC w s A3 := (hC1.q hQ4).chg hQ3 (by rw [hv3]; exact (hC1.q hQ4).2.1) hC.2.2.2.1
      have hO5 : OffL [102] A3 (upd2 A3.1 102 (16 + t) (nI 1), A3.2) := OffL.rf.upd (by decide) _ _
      have hC5 : MC w (snS s t) (upd2 A3.1 102 (16 + t) (nI 1), A3.2) := hC3.chg (QA.o hO5 (by decide) (by decide)) (VR_sn hC.2.2.2.1 hC3.2.1 ht (by dsimp only; rw [upd2_at]; rfl) (fun k _ hk => by dsimp only; rw [upd2_off hk])) (snS_ok hC.2.2.2.1 (by omega))
      have hH5 : MH w (snS s t) (pushH s H) I (kpC c) m (upd2 A3.1 102 (16 + t) (nI 1), A3.2) := hH3.v (by rw [show snS s t 1 = s 1 from updN_ne (by decide)]; exact hH.1) hO5
      refine w_aload_n 53 dX13_snap_52 rfl rfl ?_
      refine w_inv0 56 dX13_snap_53 rfl mlX13_526 rfl rfl (d' := 1) (by decide) (Nat.le_of_ble_eq_true rfl) (c_X13_granted (fun A9 hQ9 ht9 hw9 => ?_))
      refine wr_z dX13_snap_56 rfl (by first | rfl | exact nb_b2i _) ?_
      exact hs hT A9 (hC5.q hQ9) (hH5.q hQ9) ((((hQ1.tr hQ4).qa.tr hQ3).tr (QA.o hO5 (by decide) (by decide))).tr hQ9.qa) ht9 hw9
    · skip
      have hT : tSnap s (nI t) = 5 := by unfold tSnap; rw [c10, hct, if_neg (by omega)]; rfl
      refine w_aload_n 33 dX13_snap_32 rfl rfl ?_
      refine w_iconst 34 dX13_snap_33 rfl (v := nI 5) rfl ?_
      refine w_inv1 37 dX13_snap_34 rfl mlX13_523 rfl rfl (d' := 1) (by decide) (Nat.le_of_ble_eq_true rfl) (c_X13_denied (fun A2 hQ2 ht2 hw2 => ?_))
      refine wr_z dX13_snap_37 rfl (by first | rfl | exact nb_b2i _) ?_
      exact hf (by rw [hT]; decide) A2 ((hQ1.tr hQ4).tr hQ2) (by rw [ht2, hT]) hw2
  · skip
    refine w_aload_n 14 dX13_snap_13 rfl rfl ?_
    refine w_iconst 15 dX13_snap_14 rfl (v := nI 1) rfl ?_
    refine w_inv1 18 dX13_snap_15 rfl mlX13_523 rfl rfl (d' := 1) (by decide) (Nat.le_of_ble_eq_true rfl) (c_X13_denied (fun A2 hQ2 ht2 hw2 => ?_))
    refine wr_z dX13_snap_18 rfl (by first | rfl | exact nb_b2i _) ?_
    have hT : tSnap s t = 1 := by unfold tSnap; rw [c10]; rfl
    exact hf (by rw [hT]; decide) A2 (hQ1.tr hQ2) (by rw [ht2, hT]) hw2

set_option maxRecDepth 4000 in
theorem c_X13_darn {K : Option Value → AH → Prop} {A : AH} {r : Value} {w : WT} {s : Nat → Nat} {H I : Nat → Nat → Nat} {c m : Nat} (hC : MC w s A) (hH : MH w s H I c m A) {t : Int32} (hf : tDarn s t ≠ 0 → ∀ A', QM A A' → A'.1 100 1 = nI (tDarn s t) → A'.1 100 2 = -1 → K (some (.int (-1))) A') (hs : tDarn s t = 0 → ∀ A', MC w (dnS s (cl t)) A' → MH w (dnS s (cl t)) (pushH s H) (I) (kpC c) (m) A' → QA A A' → A'.1 100 1 = nI 0 → A'.1 100 2 = -1 → K (some (.int (nI (stg (dnS s (cl t)) (cl t) 0)))) A') : Ct yX13_darn mX13_darn 2 dM (GG (.ref 111) r) [.ref 100, .int t] A K := by
  refine Ct.of [some (.ref 100), some (.int t)] rfl rfl rfl (Nat.le_of_ble_eq_true rfl) ?_
  refine w_aload_n 1 dX13_darn_0 rfl rfl ?_
  refine w_iconst 2 dX13_darn_1 rfl (v := nI 0) rfl ?_
  refine w_puti 5 dX13_darn_2 rfl faX13_46 rfl rfl rfl rfl ?_
  have hQ1 : QM A (upd2 A.1 100 0 (nI 0), A.2) := QM.rf.f (by decide) _
  have hC1 := hC.q hQ1
  have hH1 := hH.q hQ1
  refine w_aload_n 6 dX13_darn_5 rfl rfl ?_
  refine w_iload_n 7 dX13_darn_6 rfl rfl ?_
  refine w_inv1 10 dX13_darn_7 rfl mlX13_392 rfl rfl (d' := 0) (by decide) (Nat.le_of_ble_eq_true rfl) (c_X13_isThread hC1 ?_)
  refine w_ifneB 19 13 dX13_darn_10 rfl rfl (fun c10 => ?_) (fun c10 => ?_)
  · skip
    have hs8 := hC.2.2.2.1.2.1
    have hr := hC.rooms
    obtain ⟨t, rfl, ht⟩ := okR_of c10 (by omega)
    have hct : cl (nI t) = t := cl_nI (show t < 2 ^ 31 by omega)
    rw [hct] at hs
    have hv := hC1.2.1.2.2.2 t ht
    have h25 := hC1.2.1.2.1
    have hz5 := (cz_ok hC.2.2.2.1 t).2.2.2.2.2
    have hs0 := hC.2.2.2.1.1
    refine w_aload_n 20 dX13_darn_19 rfl rfl ?_
    refine w_getr 23 dX13_darn_20 rfl faX13_17 rfl rfl rfl (r := .ref 102) rfl ?_
    refine w_bipush 25 dX13_darn_23 rfl (v := nI 16) rfl ?_
    refine w_iload_n 26 dX13_darn_25 rfl rfl ?_
    refine w_iaddN 27 dX13_darn_26 rfl ?_
    refine w_ialdv 28 dX13_darn_27 rfl rfl rfl (by decide) (by omega) hv.2.1 ?_
    refine w_ifneB 56 31 dX13_darn_28 rfl rfl (fun c28 => ?_) (fun c28 => ?_)
    · skip
      have hT : tDarn s (nI t) = 0 := by unfold tDarn; rw [c10, hct, if_pos (Or.inl c28)]; rfl
      refine w_aload_n 57 dX13_darn_56 rfl rfl ?_
      refine w_inv0 60 dX13_darn_57 rfl mlX13_520 rfl rfl (d' := 0) (by decide) (Nat.le_of_ble_eq_true rfl) (c_X13_remembers hC1 hH1 (fun A3 hH3 hQ3 hv3 => ?_))
      refine w_aload_n 61 dX13_darn_60 rfl rfl ?_
      refine w_getr 64 dX13_darn_61 rfl faX13_17 rfl rfl rfl (r := .ref 102) rfl ?_
      refine w_bipush 66 dX13_darn_64 rfl (v := nI 8) rfl ?_
      refine w_iload_n 67 dX13_darn_66 rfl rfl ?_
      refine w_iaddN 68 dX13_darn_67 rfl ?_
      refine w_aload_n 69 dX13_darn_68 rfl rfl ?_
      refine w_getr 72 dX13_darn_69 rfl faX13_17 rfl rfl rfl (r := .ref 102) rfl ?_
      refine w_bipush 74 dX13_darn_72 rfl (v := nI 25) rfl ?_
      refine w_ialdv 75 dX13_darn_74 rfl rfl rfl (by decide) (by omega) (v := nI (s 0)) (by rw [hv3]; exact h25) ?_
      refine w_iastN 76 dX13_darn_75 rfl rfl rfl (by decide) (by omega) ?_
      refine w_aload_n 77 dX13_darn_76 rfl rfl ?_
      refine w_getr 80 dX13_darn_77 rfl faX13_17 rfl rfl rfl (r := .ref 102) rfl ?_
      refine w_bipush 82 dX13_darn_80 rfl (v := nI 16) rfl ?_
      refine w_iload_n 83 dX13_darn_82 rfl rfl ?_
      refine w_iaddN 84 dX13_darn_83 rfl ?_
      refine w_iconst 85 dX13_darn_84 rfl (v := nI 0) rfl ?_
      refine w_iastN 86 dX13_darn_85 rfl rfl rfl (by decide) (by omega) ?_
      refine w_aload_n 87 dX13_darn_86 rfl rfl ?_
      have hC3 : MC w s A3 := (hC1).chg hQ3 (by rw [hv3]; exact (hC1).2.1) hC.2.2.2.1
      have hO5 : OffL [102] A3 (upd2 (upd2 A3.1 102 (8 + t) (nI (s 0))) 102 (16 + t) (nI 0), A3.2) := (OffL.rf.upd (by decide) _ _).upd (by decide) _ _
      have hC5 : MC w (dnS s t) (upd2 (upd2 A3.1 102 (8 + t) (nI (s 0))) 102 (16 + t) (nI 0), A3.2) := hC3.chg (QA.o hO5 (by decide) (by decide)) (VR_dn hC.2.2.2.1 hC3.2.1 ht (by dsimp only; rw [upd2_off (by omega), upd2_at]) (by dsimp only; rw [upd2_at]; rfl) (fun k _ hk hk2 => by dsimp only; rw [upd2_off hk2, upd2_off hk])) (dnS_ok hC.2.2.2.1 (by omega))
      have e1 : dnS s t 1 = s 1 := dnS_e (by decide) (by omega)
      have hH5 : MH w (dnS s t) (pushH s H) I (kpC c) m (upd2 (upd2 A3.1 102 (8 + t) (nI (s 0))) 102 (16 + t) (nI 0), A3.2) := hH3.v (by rw [e1]; exact hH.1) hO5
      refine w_inv0 90 dX13_darn_87 rfl mlX13_376 rfl rfl (d' := 0) (by decide) (Nat.le_of_ble_eq_true rfl) (c_X13_worksR hC5 (fun A6 hX6 hQ6 => ?_))
      refine w_aload_n 91 dX13_darn_90 rfl rfl ?_
      refine w_aload_n 92 dX13_darn_91 rfl rfl ?_
      refine w_iload_n 93 dX13_darn_92 rfl rfl ?_
      refine w_iconst 94 dX13_darn_93 rfl (v := nI 0) rfl ?_
      refine w_inv2 97 dX13_darn_94 rfl mlX13_369 rfl rfl (d' := 1) (by decide) (Nat.le_of_ble_eq_true rfl) (c_X13_strongOf (hC5.q hQ6).1 hX6 ⟨hr.2.2.1, hr.2.2.2.2.2.1⟩ (by rw [e1]; exact ht) (by decide) ?_)
      refine w_inv1 100 dX13_darn_97 rfl mlX13_56 rfl rfl (d' := 0) (by decide) (Nat.le_of_ble_eq_true rfl) (c_X13_good (fun A9 hQ9 ht9 hw9 => ?_))
      refine wr_i dX13_darn_100 rfl ?_
      exact hs hT A9 ((hC5.q hQ6).q hQ9) ((hH5.q hQ6).q hQ9) (((hQ1.qa.tr hQ3).tr (QA.o hO5 (by decide) (by decide))).tr (hQ6.qa.tr hQ9.qa)) ht9 hw9
    · skip
      refine w_aload_n 32 dX13_darn_31 rfl rfl ?_
      refine w_getr 35 dX13_darn_32 rfl faX13_17 rfl rfl rfl (r := .ref 102) rfl ?_
      refine w_bipush 37 dX13_darn_35 rfl (v := nI 8) rfl ?_
      refine w_iload_n 38 dX13_darn_37 rfl rfl ?_
      refine w_iaddN 39 dX13_darn_38 rfl ?_
      refine w_ialdv 40 dX13_darn_39 rfl rfl rfl (by decide) (by omega) hv.1 ?_
      refine w_aload_n 41 dX13_darn_40 rfl rfl ?_
      refine w_getr 44 dX13_darn_41 rfl faX13_17 rfl rfl rfl (r := .ref 102) rfl ?_
      refine w_bipush 46 dX13_darn_44 rfl (v := nI 25) rfl ?_
      refine w_ialdv 47 dX13_darn_46 rfl rfl rfl (by decide) (by omega) h25 ?_
      refine w_icneN 56 50 dX13_darn_47 rfl rfl (by omega) (by omega) (fun c47 => ?_) (fun c47 => ?_)
      · skip
        have hT : tDarn s (nI t) = 0 := by unfold tDarn; rw [c10, hct, if_pos (Or.inr (by omega))]; rfl
        refine w_aload_n 57 dX13_darn_56 rfl rfl ?_
        refine w_inv0 60 dX13_darn_57 rfl mlX13_520 rfl rfl (d' := 0) (by decide) (Nat.le_of_ble_eq_true rfl) (c_X13_remembers hC1 hH1 (fun A3 hH3 hQ3 hv3 => ?_))
        refine w_aload_n 61 dX13_darn_60 rfl rfl ?_
        refine w_getr 64 dX13_darn_61 rfl faX13_17 rfl rfl rfl (r := .ref 102) rfl ?_
        refine w_bipush 66 dX13_darn_64 rfl (v := nI 8) rfl ?_
        refine w_iload_n 67 dX13_darn_66 rfl rfl ?_
        refine w_iaddN 68 dX13_darn_67 rfl ?_
        refine w_aload_n 69 dX13_darn_68 rfl rfl ?_
        refine w_getr 72 dX13_darn_69 rfl faX13_17 rfl rfl rfl (r := .ref 102) rfl ?_
        refine w_bipush 74 dX13_darn_72 rfl (v := nI 25) rfl ?_
        refine w_ialdv 75 dX13_darn_74 rfl rfl rfl (by decide) (by omega) (v := nI (s 0)) (by rw [hv3]; exact h25) ?_
        refine w_iastN 76 dX13_darn_75 rfl rfl rfl (by decide) (by omega) ?_
        refine w_aload_n 77 dX13_darn_76 rfl rfl ?_
        refine w_getr 80 dX13_darn_77 rfl faX13_17 rfl rfl rfl (r := .ref 102) rfl ?_
        refine w_bipush 82 dX13_darn_80 rfl (v := nI 16) rfl ?_
        refine w_iload_n 83 dX13_darn_82 rfl rfl ?_
        refine w_iaddN 84 dX13_darn_83 rfl ?_
        refine w_iconst 85 dX13_darn_84 rfl (v := nI 0) rfl ?_
        refine w_iastN 86 dX13_darn_85 rfl rfl rfl (by decide) (by omega) ?_
        refine w_aload_n 87 dX13_darn_86 rfl rfl ?_
        have hC3 : MC w s A3 := (hC1).chg hQ3 (by rw [hv3]; exact (hC1).2.1) hC.2.2.2.1
        have hO5 : OffL [102] A3 (upd2 (upd2 A3.1 102 (8 + t) (nI (s 0))) 102 (16 + t) (nI 0), A3.2) := (OffL.rf.upd (by decide) _ _).upd (by decide) _ _
        have hC5 : MC w (dnS s t) (upd2 (upd2 A3.1 102 (8 + t) (nI (s 0))) 102 (16 + t) (nI 0), A3.2) := hC3.chg (QA.o hO5 (by decide) (by decide)) (VR_dn hC.2.2.2.1 hC3.2.1 ht (by dsimp only; rw [upd2_off (by omega), upd2_at]) (by dsimp only; rw [upd2_at]; rfl) (fun k _ hk hk2 => by dsimp only; rw [upd2_off hk2, upd2_off hk])) (dnS_ok hC.2.2.2.1 (by omega))
        have e1 : dnS s t 1 = s 1 := dnS_e (by decide) (by omega)
        have hH5 : MH w (dnS s t) (pushH s H) I (kpC c) m (upd2 (upd2 A3.1 102 (8 + t) (nI (s 0))) 102 (16 + t) (nI 0), A3.2) := hH3.v (by rw [e1]; exact hH.1) hO5
        refine w_inv0 90 dX13_darn_87 rfl mlX13_376 rfl rfl (d' := 0) (by decide) (Nat.le_of_ble_eq_true rfl) (c_X13_worksR hC5 (fun A6 hX6 hQ6 => ?_))
        refine w_aload_n 91 dX13_darn_90 rfl rfl ?_
        refine w_aload_n 92 dX13_darn_91 rfl rfl ?_
        refine w_iload_n 93 dX13_darn_92 rfl rfl ?_
        refine w_iconst 94 dX13_darn_93 rfl (v := nI 0) rfl ?_
        refine w_inv2 97 dX13_darn_94 rfl mlX13_369 rfl rfl (d' := 1) (by decide) (Nat.le_of_ble_eq_true rfl) (c_X13_strongOf (hC5.q hQ6).1 hX6 ⟨hr.2.2.1, hr.2.2.2.2.2.1⟩ (by rw [e1]; exact ht) (by decide) ?_)
        refine w_inv1 100 dX13_darn_97 rfl mlX13_56 rfl rfl (d' := 0) (by decide) (Nat.le_of_ble_eq_true rfl) (c_X13_good (fun A9 hQ9 ht9 hw9 => ?_))
        refine wr_i dX13_darn_100 rfl ?_
        exact hs hT A9 ((hC5.q hQ6).q hQ9) ((hH5.q hQ6).q hQ9) (((hQ1.qa.tr hQ3).tr (QA.o hO5 (by decide) (by decide))).tr (hQ6.qa.tr hQ9.qa)) ht9 hw9
      · skip
        have hT : tDarn s (nI t) = 5 := by unfold tDarn; rw [c10, hct, c28, if_neg (by simp; omega)]; rfl
        refine w_aload_n 51 dX13_darn_50 rfl rfl ?_
        refine w_iconst 52 dX13_darn_51 rfl (v := nI 5) rfl ?_
        refine w_inv1 55 dX13_darn_52 rfl mlX13_52 rfl rfl (d' := 0) (by decide) (Nat.le_of_ble_eq_true rfl) (c_X13_refused (fun A2 hQ2 ht2 hw2 => ?_))
        refine wr_i dX13_darn_55 rfl ?_
        exact hf (by rw [hT]; decide) A2 (hQ1.tr hQ2) (by rw [ht2, hT]) hw2
  · skip
    refine w_aload_n 14 dX13_darn_13 rfl rfl ?_
    refine w_iconst 15 dX13_darn_14 rfl (v := nI 1) rfl ?_
    refine w_inv1 18 dX13_darn_15 rfl mlX13_52 rfl rfl (d' := 0) (by decide) (Nat.le_of_ble_eq_true rfl) (c_X13_refused (fun A2 hQ2 ht2 hw2 => ?_))
    refine wr_i dX13_darn_18 rfl ?_
    have hT : tDarn s t = 1 := by unfold tDarn; rw [c10]; rfl
    exact hf (by rw [hT]; decide) A2 (hQ1.tr hQ2) (by rw [ht2, hT]) hw2

