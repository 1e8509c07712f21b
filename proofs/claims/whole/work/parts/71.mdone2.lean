/-! ===== the reference: acts 2 ===== -/
set_option maxRecDepth 4000 in
theorem c_X13_spin {K : Option Value → AH → Prop} {A : AH} {r : Value} {w : WT} {s : Nat → Nat} {H I : Nat → Nat → Nat} {c m : Nat} (hC : MC w s A) (hH : MH w s H I c m A) {k : Int32} (hf : tSpin w s k ≠ 0 → ∀ A', QM A A' → A'.1 100 1 = nI (tSpin w s k) → A'.1 100 2 = -1 → K (some (.int (-1))) A') (hs : tSpin w s k = 0 → ∀ A', MC w (spS w s (cl k)) A' → MH w (spS w s (cl k)) (pushH s H) (I) (kpC c) (m) A' → QA A A' → A'.1 100 1 = nI 0 → A'.1 100 2 = -1 → K (some (.int (nI (s 1)))) A') : Ct yX13_spin mX13_spin 1 dM (GG (.ref 111) r) [.ref 100, .int k] A K := by
  refine Ct.of [some (.ref 100), some (.int k), none] rfl rfl rfl (Nat.le_of_ble_eq_true rfl) ?_
  refine w_aload_n 1 dX13_spin_0 rfl rfl ?_
  refine w_iconst 2 dX13_spin_1 rfl (v := nI 0) rfl ?_
  refine w_puti 5 dX13_spin_2 rfl faX13_46 rfl rfl rfl rfl ?_
  have hQ1 : QM A (upd2 A.1 100 0 (nI 0), A.2) := QM.rf.f (by decide) _
  have hC1 := hC.q hQ1
  have hH1 := hH.q hQ1
  refine w_aload_n 6 dX13_spin_5 rfl rfl ?_
  refine w_getr 9 dX13_spin_6 rfl faX13_343 rfl rfl rfl (r := .ref 111) rfl ?_
  refine w_nR 12 dX13_spin_9 rfl ?_
  refine w_iload_n 13 dX13_spin_12 rfl rfl ?_
  refine w_iflt 27 16 dX13_spin_13 rfl rfl (fun c13 => ?_) (fun c13 => ?_)
  · skip
    refine w_aload_n 28 dX13_spin_27 rfl rfl ?_
    refine w_iconst 29 dX13_spin_28 rfl (v := nI 1) rfl ?_
    refine w_inv1 32 dX13_spin_29 rfl mlX13_52 rfl rfl (d' := 0) (by decide) (Nat.le_of_ble_eq_true rfl) (c_X13_refused (fun A2 hQ2 ht2 hw2 => ?_))
    refine wr_i dX13_spin_32 rfl ?_
    have hno : okR (w.1 5) k = false := decide_eq_false (fun z => absurd c13 (Int32.not_lt.mpr z.1))
    have hT : tSpin w s k = 1 := by unfold tSpin; rw [hno]; rfl
    exact hf (by rw [hT]; decide) A2 (hQ1.tr hQ2) (by rw [ht2, hT]) hw2
  · skip
    refine w_iload_n 17 dX13_spin_16 rfl rfl ?_
    refine w_aload_n 18 dX13_spin_17 rfl rfl ?_
    refine w_getr 21 dX13_spin_18 rfl faX13_343 rfl rfl rfl (r := .ref 111) rfl ?_
    refine w_getiv 24 dX13_spin_21 rfl faX13_298 rfl rfl rfl (hC1.1.2.1 5 (by decide) (by decide)) ?_
    refine w_iclt 33 27 dX13_spin_24 rfl rfl (fun c24 => ?_) (fun c24 => ?_)
    · skip
      have hok : okR (w.1 5) k = true := decide_eq_true ⟨Int32.not_lt.mp c13, c24⟩
      have hr := hC.rooms
      have hs8 := hC.2.2.2.1.2.1
      obtain ⟨k, rfl, hk⟩ := okR_of hok (by omega)
      have hck : cl (nI k) = k := cl_nI (show k < 2 ^ 31 by omega)
      rw [hck] at hs
      have h24 := hC1.2.1.1
      have h25 := hC1.2.1.2.1
      refine w_aload_n 34 dX13_spin_33 rfl rfl ?_
      refine w_getr 37 dX13_spin_34 rfl faX13_17 rfl rfl rfl (r := .ref 102) rfl ?_
      refine w_bipush 39 dX13_spin_37 rfl (v := nI 24) rfl ?_
      refine w_ialdv 40 dX13_spin_39 rfl rfl rfl (by decide) (by omega) h24 ?_
      refine w_bipush 42 dX13_spin_40 rfl (v := nI 8) rfl ?_
      refine w_icneN 51 45 dX13_spin_42 rfl rfl (by omega) (by omega) (fun c42 => ?_) (fun c42 => ?_)
      · skip
        have hT : tSpin w s (nI k) = 0 := by unfold tSpin; rw [hok, if_pos (by omega)]; rfl
        refine w_aload_n 52 dX13_spin_51 rfl rfl ?_
        refine w_inv0 55 dX13_spin_52 rfl mlX13_520 rfl rfl (d' := 0) (by decide) (Nat.le_of_ble_eq_true rfl) (c_X13_remembers hC1 hH1 (fun A3 hH3 hQ3 hv3 => ?_))
        refine w_aload_n 56 dX13_spin_55 rfl rfl ?_
        refine w_getr 59 dX13_spin_56 rfl faX13_17 rfl rfl rfl (r := .ref 102) rfl ?_
        refine w_bipush 61 dX13_spin_59 rfl (v := nI 24) rfl ?_
        refine w_ialdv 62 dX13_spin_61 rfl rfl rfl (by decide) (by omega) (v := nI (s 1)) (by rw [hv3]; exact h24) ?_
        refine w_ist2 63 dX13_spin_62 rfl (by decide) rfl ?_
        refine w_aload_n 64 dX13_spin_63 rfl rfl ?_
        refine w_getr 67 dX13_spin_64 rfl faX13_17 rfl rfl rfl (r := .ref 102) rfl ?_
        refine w_iconst 68 dX13_spin_67 rfl (v := nI 0) rfl ?_
        refine w_iload_n 69 dX13_spin_68 rfl rfl ?_
        refine w_iaddN 70 dX13_spin_69 rfl ?_
        refine w_top (show nI (0 + s 1) = nI (s 1) by rw [Nat.zero_add]) ?_
        refine w_iload_n 71 dX13_spin_70 rfl rfl ?_
        refine w_iastN 72 dX13_spin_71 rfl rfl rfl (by decide) (by omega) ?_
        refine w_aload_n 73 dX13_spin_72 rfl rfl ?_
        refine w_getr 76 dX13_spin_73 rfl faX13_17 rfl rfl rfl (r := .ref 102) rfl ?_
        refine w_bipush 78 dX13_spin_76 rfl (v := nI 8) rfl ?_
        refine w_iload_n 79 dX13_spin_78 rfl rfl ?_
        refine w_iaddN 80 dX13_spin_79 rfl ?_
        refine w_aload_n 81 dX13_spin_80 rfl rfl ?_
        refine w_getr 84 dX13_spin_81 rfl faX13_17 rfl rfl rfl (r := .ref 102) rfl ?_
        refine w_bipush 86 dX13_spin_84 rfl (v := nI 25) rfl ?_
        refine w_ialdv 87 dX13_spin_86 rfl rfl rfl (by decide) (by omega) (v := nI (s 0)) (by dsimp only; rw [upd2_off (by omega), hv3]; exact h25) ?_
        refine w_iastN 88 dX13_spin_87 rfl rfl rfl (by decide) (by omega) ?_
        refine w_aload_n 89 dX13_spin_88 rfl rfl ?_
        refine w_getr 92 dX13_spin_89 rfl faX13_17 rfl rfl rfl (r := .ref 102) rfl ?_
        refine w_bipush 94 dX13_spin_92 rfl (v := nI 16) rfl ?_
        refine w_iload_n 95 dX13_spin_94 rfl rfl ?_
        refine w_iaddN 96 dX13_spin_95 rfl ?_
        refine w_iconst 97 dX13_spin_96 rfl (v := nI 0) rfl ?_
        refine w_iastN 98 dX13_spin_97 rfl rfl rfl (by decide) (by omega) ?_
        refine w_aload_n 99 dX13_spin_98 rfl rfl ?_
        refine w_getr 102 dX13_spin_99 rfl faX13_17 rfl rfl rfl (r := .ref 102) rfl ?_
        refine w_bipush 104 dX13_spin_102 rfl (v := nI 24) rfl ?_
        refine w_dup2 105 dX13_spin_104 rfl ?_
        refine w_ialdv 106 dX13_spin_105 rfl rfl rfl (by decide) (by omega) (v := nI (s 1)) (by dsimp only; rw [upd2_off (by omega), upd2_off (by omega), upd2_off (by omega), hv3]; exact h24) ?_
        refine w_iconst 107 dX13_spin_106 rfl (v := nI 1) rfl ?_
        refine w_iaddN 108 dX13_spin_107 rfl ?_
        refine w_iastN 109 dX13_spin_108 rfl rfl rfl (by decide) (by omega) ?_
        have hC3 : MC w s A3 := hC1.chg hQ3 (by rw [hv3]; exact hC1.2.1) hC.2.2.2.1
        have hO5 : OffL [102] A3 (upd2 (upd2 (upd2 (upd2 A3.1 102 (s 1) (nI k)) 102 (8 + s 1) (nI (s 0))) 102 (16 + s 1) (nI 0)) 102 24 (nI (s 1 + 1)), A3.2) := (((OffL.rf.upd (by decide) _ _).upd (by decide) _ _).upd (by decide) _ _).upd (by decide) _ _
        have he := hC.ent (J := 5) (by decide) hk
        simp only [eOK] at he
        have hC5 : MC w (spS w s k) (upd2 (upd2 (upd2 (upd2 A3.1 102 (s 1) (nI k)) 102 (8 + s 1) (nI (s 0))) 102 (16 + s 1) (nI 0)) 102 24 (nI (s 1 + 1)), A3.2) := hC3.chg (QA.o hO5 (by decide) (by decide)) (VR_sp hC.2.2.2.1 hC3.2.1 (by omega) hk hH.1 (by dsimp only; rw [upd2_off (by omega), upd2_off (by omega), upd2_off (by omega), upd2_at]) (by dsimp only; rw [upd2_off (by omega), upd2_off (by omega), upd2_at]) (by dsimp only; rw [upd2_off (by omega), upd2_at]; rfl) (by dsimp only; rw [upd2_at]) (fun j _ h1 h2 h3 h4 => by dsimp only; rw [upd2_off h4, upd2_off h3, upd2_off h2, upd2_off h1])) (addR_ok hC.2.2.2.1 (by omega) (by omega) (by omega) (by omega))
        have hH5 : MH w (spS w s k) (pushH s H) I (kpC c) m (upd2 (upd2 (upd2 (upd2 A3.1 102 (s 1) (nI k)) 102 (8 + s 1) (nI (s 0))) 102 (16 + s 1) (nI 0)) 102 24 (nI (s 1 + 1)), A3.2) := hH3.v (by rw [show spS w s k 1 = s 1 + 1 from addR_1]; have := hH.1; omega) hO5
        refine w_aload_n 110 dX13_spin_109 rfl rfl ?_
        refine w_iload_n 111 dX13_spin_110 rfl rfl ?_
        refine w_inv1 114 dX13_spin_111 rfl mlX13_56 rfl rfl (d' := 0) (by decide) (Nat.le_of_ble_eq_true rfl) (c_X13_good (fun A9 hQ9 ht9 hw9 => ?_))
        refine wr_i dX13_spin_114 rfl ?_
        exact hs hT A9 (hC5.q hQ9) (hH5.q hQ9) (((hQ1.qa.tr hQ3).tr (QA.o hO5 (by decide) (by decide))).tr hQ9.qa) ht9 hw9
      · skip
        have hT : tSpin w s (nI k) = 3 := by unfold tSpin; rw [hok, if_neg (by omega)]; rfl
        refine w_aload_n 46 dX13_spin_45 rfl rfl ?_
        refine w_iconst 47 dX13_spin_46 rfl (v := nI 3) rfl ?_
        refine w_inv1 50 dX13_spin_47 rfl mlX13_52 rfl rfl (d' := 0) (by decide) (Nat.le_of_ble_eq_true rfl) (c_X13_refused (fun A2 hQ2 ht2 hw2 => ?_))
        refine wr_i dX13_spin_50 rfl ?_
        exact hf (by rw [hT]; decide) A2 (hQ1.tr hQ2) (by rw [ht2, hT]) hw2
    · skip
      refine w_aload_n 28 dX13_spin_27 rfl rfl ?_
      refine w_iconst 29 dX13_spin_28 rfl (v := nI 1) rfl ?_
      refine w_inv1 32 dX13_spin_29 rfl mlX13_52 rfl rfl (d' := 0) (by decide) (Nat.le_of_ble_eq_true rfl) (c_X13_refused (fun A2 hQ2 ht2 hw2 => ?_))
      refine wr_i dX13_spin_32 rfl ?_
      have hno : okR (w.1 5) k = false := decide_eq_false (fun z => c24 z.2)
      have hT : tSpin w s k = 1 := by unfold tSpin; rw [hno]; rfl
      exact hf (by rw [hT]; decide) A2 (hQ1.tr hQ2) (by rw [ht2, hT]) hw2

set_option maxRecDepth 4000 in
theorem a_X13_undo {K : Option Value → AH → Prop} {A : AH} {r : Value} {w : WT} {s : Nat → Nat} {H I : Nat → Nat → Nat} {c m : Nat} (hC : MC w s A) (h20 : A.1 100 20 = nI (c - 1)) (hc : 0 < c) (hc2 : c ≤ 16) (hR : RwM w (H 0) A 104 (26 * (c - 1))) (h : ∀ A' A9, MC w (H 0) A' → OffL [102] A A' → QM A' A9 → A9.1 100 1 = nI 0 → A9.1 100 2 = -1 → K (some (.int (nI 1))) A9) : WP mX13_undo 2 dM (GG (.ref 111) r) 36 [some (.ref 100), none] [] A K := by
  have lp38 : ∀ (nf : Nat) (i : Nat) (A' : AH), i ≤ 26 → OffL [102] A A' → (∀ k, A'.1 102 k = if k < i then A.1 104 (26 * (c - 1) + k) else A.1 102 k) → 26 - i < nf → WP mX13_undo 2 dM (GG (.ref 111) r) 38 [some (.ref 100), some (.int (nI i))] [] A' K := by
    intro nf
    induction nf with
    | zero => intros; omega
    | succ nf ih =>
      intro i A' hi hO hp hms
      refine w_iload_n 39 dX13_undo_38 rfl rfl ?_
      refine w_bipush 41 dX13_undo_39 rfl (v := nI 26) rfl ?_
      refine w_icgeN 70 44 dX13_undo_41 rfl rfl (by omega) (by omega) (fun c41 => ?_) (fun c41 => ?_)
      · skip
        have e : i = 26 := by omega
        subst e
        have hC5 : MC w (H 0) A' := hC.chg (QA.o hO (by decide) (by decide)) (hR.1.eq hR.2.1 (fun k hk => by rw [hp k, if_pos hk])) hR.2.1
        
        refine w_aload_n 71 dX13_undo_70 rfl rfl ?_
        refine w_inv0 74 dX13_undo_71 rfl mlX13_526 rfl rfl (d' := 1) (by decide) (Nat.le_of_ble_eq_true rfl) (c_X13_granted (fun A9 hQ9 ht9 hw9 => ?_))
        refine wr_z dX13_undo_74 rfl (by first | rfl | exact nb_b2i _) ?_
        exact h A' A9 hC5 hO hQ9 ht9 hw9
      · skip
        refine w_aload_n 45 dX13_undo_44 rfl rfl ?_
        refine w_getr 48 dX13_undo_45 rfl faX13_17 rfl rfl rfl (r := .ref 102) rfl ?_
        refine w_iload_n 49 dX13_undo_48 rfl rfl ?_
        refine w_aload_n 50 dX13_undo_49 rfl rfl ?_
        refine w_getr 53 dX13_undo_50 rfl faX13_24 rfl rfl rfl (r := .ref 104) rfl ?_
        refine w_bipush 55 dX13_undo_53 rfl (v := nI 26) rfl ?_
        refine w_aload_n 56 dX13_undo_55 rfl rfl ?_
        refine w_getiv 59 dX13_undo_56 rfl faX13_345 rfl rfl rfl (v := nI (c - 1)) (by rw [(hO 100 (by decide)).1]; exact h20) ?_
        refine w_imulN 60 dX13_undo_59 rfl ?_
        refine w_iload_n 61 dX13_undo_60 rfl rfl ?_
        refine w_iaddN 62 dX13_undo_61 rfl ?_
        refine w_ialdN 63 dX13_undo_62 rfl rfl rfl (by decide) (by omega) ?_
        refine w_iastN 64 dX13_undo_63 rfl rfl rfl (by decide) (by omega) ?_
        refine w_inc1 67 dX13_undo_64 rfl (by decide) rfl (v := nI (_ + 1)) (nI_1 _) ?_
        refine w_goto 38 dX13_undo_67 rfl ?_
        refine ih (i + 1) _ (by omega) (hO.upd (by decide) _ _) (fun k => ?_) (by omega)
        dsimp only
        by_cases q : k = i
        · subst q
          rw [upd2_at, if_pos (by omega), (hO 104 (by decide)).1]
        · rw [upd2_off q, hp k]
          by_cases z : k < i
          · rw [if_pos z, if_pos (by omega)]
          · rw [if_neg z, if_neg (by omega)]
  refine w_iconst 37 dX13_undo_36 rfl (v := nI 0) rfl ?_
  refine w_ist1 38 dX13_undo_37 rfl (by decide) rfl ?_
  exact lp38 _ 0 A (Nat.zero_le _) OffL.rf (fun k => by rw [if_neg (by omega)]) (Nat.lt_succ_self _)

set_option maxRecDepth 4000 in
theorem c_X13_undo {K : Option Value → AH → Prop} {A : AH} {r : Value} {w : WT} {s : Nat → Nat} {H I : Nat → Nat → Nat} {c m : Nat} (hC : MC w s A) (hH : MH w s H I c m A)  (hf : tUndo c ≠ 0 → ∀ A', QM A A' → A'.1 100 1 = nI (tUndo c) → A'.1 100 2 = -1 → K (some (.int (nI 0))) A') (hs : tUndo c = 0 → ∀ A', MC w (H 0) A' → MH w (H 0) (fun i => H (i + 1)) (I) (c - 1) (m) A' → QA A A' → A'.1 100 1 = nI 0 → A'.1 100 2 = -1 → K (some (.int (nI 1))) A') : Ct yX13_undo mX13_undo 2 dM (GG (.ref 111) r) [.ref 100] A K := by
  refine Ct.of [some (.ref 100), none] rfl rfl rfl (Nat.le_of_ble_eq_true rfl) ?_
  refine w_aload_n 1 dX13_undo_0 rfl rfl ?_
  refine w_iconst 2 dX13_undo_1 rfl (v := nI 0) rfl ?_
  refine w_puti 5 dX13_undo_2 rfl faX13_46 rfl rfl rfl rfl ?_
  have hQ1 : QM A (upd2 A.1 100 0 (nI 0), A.2) := QM.rf.f (by decide) _
  have hC1 := hC.q hQ1
  have hH1 := hH.q hQ1
  refine w_aload_n 6 dX13_undo_5 rfl rfl ?_
  refine w_getr 9 dX13_undo_6 rfl faX13_343 rfl rfl rfl (r := .ref 111) rfl ?_
  refine w_nR 12 dX13_undo_9 rfl ?_
  refine w_aload_n 13 dX13_undo_12 rfl rfl ?_
  refine w_getiv 16 dX13_undo_13 rfl faX13_345 rfl rfl rfl hH1.2.2.2.1 ?_
  refine w_ifneN 26 19 dX13_undo_16 rfl rfl (by have := hH.2.1; omega) (fun c16 => ?_) (fun c16 => ?_)
  · skip
    have hT : tUndo c = 0 := by unfold tUndo; rw [if_pos (by omega)]
    refine w_aload_n 27 dX13_undo_26 rfl rfl ?_
    refine w_dup_r 28 dX13_undo_27 rfl ?_
    refine w_getiv 31 dX13_undo_28 rfl faX13_345 rfl rfl rfl hH1.2.2.2.1 ?_
    refine w_iconst 32 dX13_undo_31 rfl (v := nI 1) rfl ?_
    refine w_isubN 33 dX13_undo_32 rfl (by omega) ?_
    refine w_puti 36 dX13_undo_33 rfl faX13_345 rfl rfl rfl rfl ?_
    obtain ⟨g0, g1, g2, g3, g4, g5, g6⟩ := hH1
    have hQ5 : QA A (upd2 (upd2 A.1 100 0 (nI 0)) 100 20 (nI (c - 1)), A.2) := hQ1.qa.f (by decide) _
    have hC5 : MC w s (upd2 (upd2 A.1 100 0 (nI 0)) 100 20 (nI (c - 1)), A.2) := hC.chg hQ5 (by dsimp only; rw [upd2_ne (by decide), upd2_ne (by decide)]; exact hC.2.1) hC.2.2.2.1
    have hR0 := g5 0 (by omega)
    refine a_X13_undo (H := H) (I := I) (c := c) (m := m) hC5 (by dsimp only; rw [upd2_at]) (by omega) g1 (hR0.eq (fun k _ => by dsimp only; rw [upd2_ne (show (104 : Nat) ≠ 100 by decide)]; rfl)) (fun A' A9 hC6 hO6 hQ9 ht9 hw9 => ?_)
    have hH6 : MH w (H 0) (fun i => H (i + 1)) I (c - 1) m A' := by
      refine ⟨hR0.2.2, by omega, g2, by rw [(hO6 100 (by decide)).1]; dsimp only; rw [upd2_at], by rw [(hO6 100 (by decide)).1]; dsimp only; rw [upd2_off (by decide)]; exact g4, fun i hi => ?_, fun i hi => (g6 i hi).eq (fun k _ => by rw [(hO6 105 (by decide)).1]; dsimp only; rw [upd2_ne (show (105 : Nat) ≠ 100 by decide)])⟩
      refine (g5 (i + 1) (by omega)).eq (fun k _ => ?_)
      rw [(hO6 104 (by decide)).1]
      dsimp only
      rw [upd2_ne (show (104 : Nat) ≠ 100 by decide), show c - 1 - 1 - i = c - 1 - (i + 1) by omega]
    exact hs hT A9 (hC6.q hQ9) (hH6.q hQ9) ((hQ5.tr (QA.o hO6 (by decide) (by decide))).tr hQ9.qa) ht9 hw9
  · skip
    have hT : tUndo c = 6 := by unfold tUndo; rw [if_neg (by omega)]
    refine w_aload_n 20 dX13_undo_19 rfl rfl ?_
    refine w_bipush 22 dX13_undo_20 rfl (v := nI 6) rfl ?_
    refine w_inv1 25 dX13_undo_22 rfl mlX13_523 rfl rfl (d' := 1) (by decide) (Nat.le_of_ble_eq_true rfl) (c_X13_denied (fun A2 hQ2 ht2 hw2 => ?_))
    refine wr_z dX13_undo_25 rfl (by first | rfl | exact nb_b2i _) ?_
    exact hf (by rw [hT]; decide) A2 (hQ1.tr hQ2) (by rw [ht2, hT]) hw2

set_option maxRecDepth 4000 in
theorem a_X13_back {K : Option Value → AH → Prop} {A : AH} {r : Value} {w : WT} {s : Nat → Nat} {H I : Nat → Nat → Nat} {c m : Nat} {x : Nat} (hC : MC w s A) (hx : x < 3) (hR : RwM w (I x) A 105 (26 * x)) (h : ∀ A' A9, MC w (I x) A' → OffL [102] A A' → QM (upd2 A'.1 100 20 (nI 0), A'.2) A9 → A9.1 100 1 = nI 0 → A9.1 100 2 = -1 → K (some (.int (nI 1))) A9) : WP mX13_back 2 dM (GG (.ref 111) r) 30 [some (.ref 100), some (.int (nI x)), none] [] A K := by
  have lp32 : ∀ (nf : Nat) (i : Nat) (A' : AH), i ≤ 26 → OffL [102] A A' → (∀ k, A'.1 102 k = if k < i then A.1 105 (26 * x + k) else A.1 102 k) → 26 - i < nf → WP mX13_back 2 dM (GG (.ref 111) r) 32 [some (.ref 100), some (.int (nI x)), some (.int (nI i))] [] A' K := by
    intro nf
    induction nf with
    | zero => intros; omega
    | succ nf ih =>
      intro i A' hi hO hp hms
      refine w_iload_n 33 dX13_back_32 rfl rfl ?_
      refine w_bipush 35 dX13_back_33 rfl (v := nI 26) rfl ?_
      refine w_icgeN 61 38 dX13_back_35 rfl rfl (by omega) (by omega) (fun c35 => ?_) (fun c35 => ?_)
      · skip
        have e : i = 26 := by omega
        subst e
        have hC5 : MC w (I x) A' := hC.chg (QA.o hO (by decide) (by decide)) (hR.1.eq hR.2.1 (fun k hk => by rw [hp k, if_pos hk])) hR.2.1
        
        refine w_aload_n 62 dX13_back_61 rfl rfl ?_
        refine w_iconst 63 dX13_back_62 rfl (v := nI 0) rfl ?_
        refine w_puti 66 dX13_back_63 rfl faX13_345 rfl rfl rfl rfl ?_
        refine w_aload_n 67 dX13_back_66 rfl rfl ?_
        refine w_inv0 70 dX13_back_67 rfl mlX13_526 rfl rfl (d' := 1) (by decide) (Nat.le_of_ble_eq_true rfl) (c_X13_granted (fun A9 hQ9 ht9 hw9 => ?_))
        refine wr_z dX13_back_70 rfl (by first | rfl | exact nb_b2i _) ?_
        exact h A' A9 hC5 hO hQ9 ht9 hw9
      · skip
        refine w_aload_n 39 dX13_back_38 rfl rfl ?_
        refine w_getr 42 dX13_back_39 rfl faX13_17 rfl rfl rfl (r := .ref 102) rfl ?_
        refine w_iload_n 43 dX13_back_42 rfl rfl ?_
        refine w_aload_n 44 dX13_back_43 rfl rfl ?_
        refine w_getr 47 dX13_back_44 rfl faX13_27 rfl rfl rfl (r := .ref 105) rfl ?_
        refine w_bipush 49 dX13_back_47 rfl (v := nI 26) rfl ?_
        refine w_iload_n 50 dX13_back_49 rfl rfl ?_
        refine w_imulN 51 dX13_back_50 rfl ?_
        refine w_iload_n 52 dX13_back_51 rfl rfl ?_
        refine w_iaddN 53 dX13_back_52 rfl ?_
        refine w_ialdN 54 dX13_back_53 rfl rfl rfl (by decide) (by omega) ?_
        refine w_iastN 55 dX13_back_54 rfl rfl rfl (by decide) (by omega) ?_
        refine w_inc2 58 dX13_back_55 rfl (by decide) rfl (v := nI (_ + 1)) (nI_1 _) ?_
        refine w_goto 32 dX13_back_58 rfl ?_
        refine ih (i + 1) _ (by omega) (hO.upd (by decide) _ _) (fun k => ?_) (by omega)
        dsimp only
        by_cases q : k = i
        · subst q
          rw [upd2_at, if_pos (by omega), (hO 105 (by decide)).1]
        · rw [upd2_off q, hp k]
          by_cases z : k < i
          · rw [if_pos z, if_pos (by omega)]
          · rw [if_neg z, if_neg (by omega)]
  refine w_iconst 31 dX13_back_30 rfl (v := nI 0) rfl ?_
  refine w_ist2 32 dX13_back_31 rfl (by decide) rfl ?_
  exact lp32 _ 0 A (Nat.zero_le _) OffL.rf (fun k => by rw [if_neg (by omega)]) (Nat.lt_succ_self _)

set_option maxRecDepth 4000 in
theorem c_X13_back {K : Option Value → AH → Prop} {A : AH} {r : Value} {w : WT} {s : Nat → Nat} {H I : Nat → Nat → Nat} {c m : Nat} (hC : MC w s A) (hH : MH w s H I c m A) {x : Int32} (hf : tBack m x ≠ 0 → ∀ A', QM A A' → A'.1 100 1 = nI (tBack m x) → A'.1 100 2 = -1 → K (some (.int (nI 0))) A') (hs : tBack m x = 0 → ∀ A', MC w (I (cl x)) A' → MH w (I (cl x)) (H) (I) (0) (m) A' → QA A A' → A'.1 100 1 = nI 0 → A'.1 100 2 = -1 → K (some (.int (nI 1))) A') : Ct yX13_back mX13_back 2 dM (GG (.ref 111) r) [.ref 100, .int x] A K := by
  refine Ct.of [some (.ref 100), some (.int x), none] rfl rfl rfl (Nat.le_of_ble_eq_true rfl) ?_
  refine w_aload_n 1 dX13_back_0 rfl rfl ?_
  refine w_iconst 2 dX13_back_1 rfl (v := nI 0) rfl ?_
  refine w_puti 5 dX13_back_2 rfl faX13_46 rfl rfl rfl rfl ?_
  have hQ1 : QM A (upd2 A.1 100 0 (nI 0), A.2) := QM.rf.f (by decide) _
  have hC1 := hC.q hQ1
  have hH1 := hH.q hQ1
  refine w_aload_n 6 dX13_back_5 rfl rfl ?_
  refine w_getr 9 dX13_back_6 rfl faX13_343 rfl rfl rfl (r := .ref 111) rfl ?_
  refine w_nR 12 dX13_back_9 rfl ?_
  refine w_iload_n 13 dX13_back_12 rfl rfl ?_
  refine w_iflt 24 16 dX13_back_13 rfl rfl (fun c13 => ?_) (fun c13 => ?_)
  · skip
    refine w_aload_n 25 dX13_back_24 rfl rfl ?_
    refine w_iconst 26 dX13_back_25 rfl (v := nI 1) rfl ?_
    refine w_inv1 29 dX13_back_26 rfl mlX13_523 rfl rfl (d' := 1) (by decide) (Nat.le_of_ble_eq_true rfl) (c_X13_denied (fun A2 hQ2 ht2 hw2 => ?_))
    refine wr_z dX13_back_29 rfl (by first | rfl | exact nb_b2i _) ?_
    have hno : okR m x = false := decide_eq_false (fun z => absurd c13 (Int32.not_lt.mpr z.1))
    have hT : tBack m x = 1 := by unfold tBack; rw [hno]; rfl
    exact hf (by rw [hT]; decide) A2 (hQ1.tr hQ2) (by rw [ht2, hT]) hw2
  · skip
    refine w_iload_n 17 dX13_back_16 rfl rfl ?_
    refine w_aload_n 18 dX13_back_17 rfl rfl ?_
    refine w_getiv 21 dX13_back_18 rfl faX13_348 rfl rfl rfl hH1.2.2.2.2.1 ?_
    refine w_iclt 30 24 dX13_back_21 rfl rfl (fun c21 => ?_) (fun c21 => ?_)
    · skip
      have hok : okR m x = true := decide_eq_true ⟨Int32.not_lt.mp c13, c21⟩
      have hT : tBack m x = 0 := by unfold tBack; rw [hok]; rfl
      obtain ⟨g0, g1, g2, g3, g4, g5, g6⟩ := hH1
      obtain ⟨x, rfl, hx⟩ := okR_of hok (by omega)
      have hcx : cl (nI x) = x := cl_nI (show x < 2 ^ 31 by omega)
      rw [hcx] at hs
      have hR0 := g6 x hx
      refine a_X13_back (H := H) (I := I) (c := c) (m := m) hC1 (by omega) hR0 (fun A' A9 hC6 hO6 hQ9 ht9 hw9 => ?_)
      have hQ6 : QA A' (upd2 A'.1 100 20 (nI 0), A'.2) := (QM.rf.qa).f (by decide) _
      have hC7 : MC w (I x) (upd2 A'.1 100 20 (nI 0), A'.2) := hC6.chg hQ6 (by dsimp only; rw [upd2_ne (by decide)]; exact hC6.2.1) hC6.2.2.2.1
      have hH6 : MH w (I x) H I 0 m (upd2 A'.1 100 20 (nI 0), A'.2) := ⟨hR0.2.2, by omega, g2, by dsimp only; rw [upd2_at], by dsimp only; rw [upd2_off (by decide), (hO6 100 (by decide)).1]; exact g4, fun i hi => absurd hi (Nat.not_lt_zero i), fun i hi => (g6 i hi).eq (fun k _ => by dsimp only; rw [upd2_ne (show (105 : Nat) ≠ 100 by decide), (hO6 105 (by decide)).1])⟩
      exact hs hT A9 (hC7.q hQ9) (hH6.q hQ9) (((hQ1.qa.tr (QA.o hO6 (by decide) (by decide))).tr hQ6).tr hQ9.qa) ht9 hw9
    · skip
      refine w_aload_n 25 dX13_back_24 rfl rfl ?_
      refine w_iconst 26 dX13_back_25 rfl (v := nI 1) rfl ?_
      refine w_inv1 29 dX13_back_26 rfl mlX13_523 rfl rfl (d' := 1) (by decide) (Nat.le_of_ble_eq_true rfl) (c_X13_denied (fun A2 hQ2 ht2 hw2 => ?_))
      refine wr_z dX13_back_29 rfl (by first | rfl | exact nb_b2i _) ?_
      have hno : okR m x = false := decide_eq_false (fun z => c21 z.2)
      have hT : tBack m x = 1 := by unfold tBack; rw [hno]; rfl
      exact hf (by rw [hT]; decide) A2 (hQ1.tr hQ2) (by rw [ht2, hT]) hw2

set_option maxRecDepth 4000 in
theorem a_X13_image {K : Option Value → AH → Prop} {A : AH} {r : Value} {w : WT} {s : Nat → Nat} {H I : Nat → Nat → Nat} {c m : Nat} (hC : MC w s A) (hm : m < 3) (h21 : A.1 100 21 = nI m) (h : ∀ A' A9, OffL [105] A A' → (∀ k, A'.1 105 k = if 26 * m ≤ k ∧ k < 26 * m + 26 then A.1 102 (k - 26 * m) else A.1 105 k) → QM (upd2 A'.1 100 21 (nI (m + 1)), A'.2) A9 → A9.1 100 1 = nI 0 → A9.1 100 2 = -1 → K (some (.int (nI m))) A9) : WP mX13_image 1 dM (GG (.ref 111) r) 32 [some (.ref 100), none] [] A K := by
  have lp34 : ∀ (nf : Nat) (i : Nat) (A' : AH), i ≤ 26 → OffL [105] A A' → (∀ k, A'.1 105 k = if 26 * m ≤ k ∧ k < 26 * m + i then A.1 102 (k - 26 * m) else A.1 105 k) → 26 - i < nf → WP mX13_image 1 dM (GG (.ref 111) r) 34 [some (.ref 100), some (.int (nI i))] [] A' K := by
    intro nf
    induction nf with
    | zero => intros; omega
    | succ nf ih =>
      intro i A' hi hO hp hms
      have h21' : A'.1 100 21 = nI m := by rw [(hO 100 (by decide)).1]; exact h21
      refine w_iload_n 35 dX13_image_34 rfl rfl ?_
      refine w_bipush 37 dX13_image_35 rfl (v := nI 26) rfl ?_
      refine w_icgeN 66 40 dX13_image_37 rfl rfl (by omega) (by omega) (fun c37 => ?_) (fun c37 => ?_)
      · skip
        refine w_aload_n 67 dX13_image_66 rfl rfl ?_
        refine w_dup_r 68 dX13_image_67 rfl ?_
        refine w_getiv 71 dX13_image_68 rfl faX13_348 rfl rfl rfl h21' ?_
        refine w_iconst 72 dX13_image_71 rfl (v := nI 1) rfl ?_
        refine w_iaddN 73 dX13_image_72 rfl ?_
        refine w_puti 76 dX13_image_73 rfl faX13_348 rfl rfl rfl rfl ?_
        refine w_aload_n 77 dX13_image_76 rfl rfl ?_
        refine w_aload_n 78 dX13_image_77 rfl rfl ?_
        refine w_getiv 81 dX13_image_78 rfl faX13_348 rfl rfl rfl (v := nI (m + 1)) (by dsimp only; rw [upd2_at]) ?_
        refine w_iconst 82 dX13_image_81 rfl (v := nI 1) rfl ?_
        refine w_isubN 83 dX13_image_82 rfl (by omega) ?_
        have e : i = 26 := by omega
        subst e
        refine w_inv1 86 dX13_image_83 rfl mlX13_56 rfl rfl (d' := 0) (by decide) (Nat.le_of_ble_eq_true rfl) (c_X13_good (fun A9 hQ9 ht9 hw9 => ?_))
        refine wr_i dX13_image_86 rfl ?_
        exact kq (h A' A9 hO hp hQ9 ht9 hw9) (by rw [Nat.add_sub_cancel])
      · skip
        refine w_aload_n 41 dX13_image_40 rfl rfl ?_
        refine w_getr 44 dX13_image_41 rfl faX13_27 rfl rfl rfl (r := .ref 105) rfl ?_
        refine w_bipush 46 dX13_image_44 rfl (v := nI 26) rfl ?_
        refine w_aload_n 47 dX13_image_46 rfl rfl ?_
        refine w_getiv 50 dX13_image_47 rfl faX13_348 rfl rfl rfl h21' ?_
        refine w_imulN 51 dX13_image_50 rfl ?_
        refine w_iload_n 52 dX13_image_51 rfl rfl ?_
        refine w_iaddN 53 dX13_image_52 rfl ?_
        refine w_aload_n 54 dX13_image_53 rfl rfl ?_
        refine w_getr 57 dX13_image_54 rfl faX13_17 rfl rfl rfl (r := .ref 102) rfl ?_
        refine w_iload_n 58 dX13_image_57 rfl rfl ?_
        refine w_ialdN 59 dX13_image_58 rfl rfl rfl (by decide) (by omega) ?_
        refine w_iastN 60 dX13_image_59 rfl rfl rfl (by decide) (by omega) ?_
        refine w_inc1 63 dX13_image_60 rfl (by decide) rfl (v := nI (_ + 1)) (nI_1 _) ?_
        refine w_goto 34 dX13_image_63 rfl ?_
        refine ih (i + 1) _ (by omega) (hO.upd (by decide) _ _) (fun k => ?_) (by omega)
        dsimp only
        by_cases q : k = 26 * m + i
        · subst q
          rw [upd2_at, if_pos ⟨by omega, by omega⟩, show 26 * m + i - 26 * m = i by omega, (hO 102 (by decide)).1]
        · rw [upd2_off q, hp k]
          by_cases z : 26 * m ≤ k ∧ k < 26 * m + i
          · rw [if_pos z, if_pos ⟨z.1, by omega⟩]
          · rw [if_neg z, if_neg (by omega)]
  refine w_iconst 33 dX13_image_32 rfl (v := nI 0) rfl ?_
  refine w_ist1 34 dX13_image_33 rfl (by decide) rfl ?_
  exact lp34 _ 0 A (Nat.zero_le _) OffL.rf (fun k => by rw [if_neg (by omega)]) (Nat.lt_succ_self _)

set_option maxRecDepth 4000 in
theorem c_X13_image {K : Option Value → AH → Prop} {A : AH} {r : Value} {w : WT} {s : Nat → Nat} {H I : Nat → Nat → Nat} {c m : Nat} (hC : MC w s A) (hH : MH w s H I c m A)  (hf : tImage w m ≠ 0 → ∀ A', QM A A' → A'.1 100 1 = nI (tImage w m) → A'.1 100 2 = -1 → K (some (.int (-1))) A') (hs : tImage w m = 0 → ∀ A', MC w (s) A' → MH w (s) (H) (fun i => if i = m then s else I i) (c) (m + 1) A' → QA A A' → A'.1 100 1 = nI 0 → A'.1 100 2 = -1 → K (some (.int (nI m))) A') : Ct yX13_image mX13_image 1 dM (GG (.ref 111) r) [.ref 100] A K := by
  refine Ct.of [some (.ref 100), none] rfl rfl rfl (Nat.le_of_ble_eq_true rfl) ?_
  refine w_aload_n 1 dX13_image_0 rfl rfl ?_
  refine w_iconst 2 dX13_image_1 rfl (v := nI 0) rfl ?_
  refine w_puti 5 dX13_image_2 rfl faX13_46 rfl rfl rfl rfl ?_
  have hQ1 : QM A (upd2 A.1 100 0 (nI 0), A.2) := QM.rf.f (by decide) _
  have hC1 := hC.q hQ1
  have hH1 := hH.q hQ1
  refine w_aload_n 6 dX13_image_5 rfl rfl ?_
  refine w_getr 9 dX13_image_6 rfl faX13_343 rfl rfl rfl (r := .ref 111) rfl ?_
  refine w_nnR 18 dX13_image_9 rfl ?_
  refine w_aload_n 19 dX13_image_18 rfl rfl ?_
  refine w_getiv 22 dX13_image_19 rfl faX13_348 rfl rfl rfl hH1.2.2.2.2.1 ?_
  refine w_iconst 23 dX13_image_22 rfl (v := nI 3) rfl ?_
  refine w_icneN 32 26 dX13_image_23 rfl rfl (by have := hH.2.2.1; omega) (by omega) (fun c23 => ?_) (fun c23 => ?_)
  · skip
    have hm3 := hH.2.2.1
    have hT : tImage w m = 0 := by unfold tImage; rw [okW1_t hC, if_pos (by omega)]; rfl
    obtain ⟨g0, g1, g2, g3, g4, g5, g6⟩ := hH1
    refine a_X13_image (H := H) (I := I) (c := c) (m := m) hC1 (by omega) g4 (fun A' A9 hO6 hp6 hQ9 ht9 hw9 => ?_)
    have hQ6 : QA A (upd2 A'.1 100 21 (nI (m + 1)), A'.2) := (hQ1.qa.tr (QA.o hO6 (by decide) (by decide))).f (by decide) _
    have hC7 : MC w s (upd2 A'.1 100 21 (nI (m + 1)), A'.2) := hC.chg hQ6 (by dsimp only; rw [upd2_ne (by decide), (hO6 102 (by decide)).1]; exact hC1.2.1) hC.2.2.2.1
    have hH6 : MH w s H (fun i => if i = m then s else I i) c (m + 1) (upd2 A'.1 100 21 (nI (m + 1)), A'.2) := by
      refine ⟨g0, g1, by omega, by dsimp only; rw [upd2_off (by decide), (hO6 100 (by decide)).1]; exact g3, by dsimp only; rw [upd2_at], fun i hi => (g5 i hi).eq (fun k _ => by dsimp only; rw [upd2_ne (show (104 : Nat) ≠ 100 by decide), (hO6 104 (by decide)).1]), fun i hi => ?_⟩
      dsimp only
      by_cases q : i = m
      · subst q
        rw [if_pos rfl]
        refine RwM.eq (A := A) (o := 102) (b := 0) (s := s) ⟨hC.2.1.eq hC.2.2.2.1 (fun k _ => by rw [Nat.zero_add]), hC.2.2.2.1, g0⟩ (fun k hk => ?_)
        dsimp only
        rw [upd2_ne (show (105 : Nat) ≠ 100 by decide), hp6, if_pos ⟨by omega, by omega⟩, show 26 * i + k - 26 * i = 0 + k by omega]
        dsimp only
        rw [upd2_ne (by decide)]
      · rw [if_neg q]
        refine (g6 i (by omega)).eq (fun k hk => ?_)
        dsimp only
        rw [upd2_ne (show (105 : Nat) ≠ 100 by decide), hp6, if_neg (by omega)]
    exact hs hT A9 (hC7.q hQ9) (hH6.q hQ9) (hQ6.tr hQ9.qa) ht9 hw9
  · skip
    have hT : tImage w m = 3 := by unfold tImage; rw [okW1_t hC, if_neg (by omega)]; rfl
    refine w_aload_n 27 dX13_image_26 rfl rfl ?_
    refine w_iconst 28 dX13_image_27 rfl (v := nI 3) rfl ?_
    refine w_inv1 31 dX13_image_28 rfl mlX13_52 rfl rfl (d' := 0) (by decide) (Nat.le_of_ble_eq_true rfl) (c_X13_refused (fun A2 hQ2 ht2 hw2 => ?_))
    refine wr_i dX13_image_31 rfl ?_
    exact hf (by rw [hT]; decide) A2 (hQ1.tr hQ2) (by rw [ht2, hT]) hw2

