/-! ===== the reference: fits, odds, tests ===== -/
theorem wgt_lt {w : WT} {s : Nat → Nat} {A : AH} (h : MC w s A) (x : Nat) : wgt w x < 2 ^ 63 := Nat.lt_of_le_of_lt (wgt_le h.okT.2.2.2.1 x) (by decide)
theorem sumL2 {w : WT} {s : Nat → Nat} {A : AH} (h : MC w s A) {g : Nat → Nat} (hg : ∀ x, g x ≤ wgt w x) {n : Nat} (hn : n ≤ 32) : sumTo g n < 2 ^ 63 := sumL hn (wgt_le h.okT.2.2.2.1) hg
theorem liedB_0 {w : WT} {s : Nat → Nat} {A : AH} (h : MC w s A) {t : Nat} (ht : w.1 2 ≤ t) (x : Nat) : liedB w t x = false := by
  have hn : fst1 (fun k => decide (w.2 6 k 0 = t)) (w.1 6) = none := fst1_none (fun k hk => by
    have he := h.ent (J := 6) (by decide) hk
    simp only [eOK] at he
    exact decide_eq_false (by omega))
  rw [liedB, hn]
  dsimp only
  rw [tbz, if_neg (by omega)]
  decide
set_option maxRecDepth 4000 in
theorem c_X13_fitting {K : Option Value → AH → Prop} {A : AH} {r : Value} {w : WT} {s : Nat → Nat} {i : Int32} (hC : MC w s A) (h : ∀ A', FT w (LN w) A' → QM A A' → K (some (.int (encO (fdF (wpB w) i (LN w))))) A') : Ct yX13_fitting mX13_fitting 4 dM (GG (.ref 111) r) [.ref 100, .int i] A K := by
  refine Ct.of [some (.ref 100), some (.int i), none, none, none] rfl rfl rfl (Nat.le_of_ble_eq_true rfl) ?_
  have hr := hC.rooms
  have hLN := LN_le hC
  have lp73 : ∀ (nf : Nat) (x k : Nat) (A' : AH), x < LN w → wpB w x = true → k ≤ w.1 6 → A'.1 100 26 = nI (cntTo (wpB w) (x + 1)) → (∀ j, j < w.1 6 → A'.1 109 j = nI (if j < k then liC w j (x + 1) else liC w j x)) → QM A A' → (∀ A'', FT w (x + 1) A'' → QM A A'' → WP mX13_fitting 4 dM (GG (.ref 111) r) 115 [some (.ref 100), some (.int i), some (.int (encO (fdF (wpB w) i (x + 1)))), some (.int (nI x)), none] [] A'' K) → w.1 6 - k < nf → WP mX13_fitting 4 dM (GG (.ref 111) r) 73 [some (.ref 100), some (.int i), some (.int (encO (fdF (wpB w) i (x + 1)))), some (.int (nI x)), some (.int (nI k))] [] A' K := by
    intro nf
    induction nf with
    | zero => intros; omega
    | succ nf ih =>
      intro x k A' hx hw hk hf hl hQ hk2 hms
      have hC2 := hC.q hQ
      refine w_iload 75 dX13_fitting_73 rfl rfl ?_
      refine w_aload_n 76 dX13_fitting_75 rfl rfl ?_
      refine w_getr 79 dX13_fitting_76 rfl faX13_343 rfl rfl rfl (r := .ref 111) rfl ?_
      refine w_getiv 82 dX13_fitting_79 rfl faX13_313 rfl rfl rfl (hC2.1.2.1 6 (by decide) (by decide)) ?_
      refine w_icgeN 115 85 dX13_fitting_82 rfl rfl (by omega) (by omega) (fun c82 => ?_) (fun c82 => ?_)
      · skip
        have e : k = w.1 6 := by omega
        subst e
        refine wp_to ?_ rfl rfl (hk2 A' ⟨hf, fun j hj => by rw [hl j hj, if_pos hj]⟩ hQ)
        simp [lle]
      · skip
        refine w_aload_n 86 dX13_fitting_85 rfl rfl ?_
        refine w_getr 89 dX13_fitting_86 rfl faX13_39 rfl rfl rfl (r := .ref 109) rfl ?_
        refine w_iload 91 dX13_fitting_89 rfl rfl ?_
        refine w_dup2 92 dX13_fitting_91 rfl ?_
        refine w_ialdv 93 dX13_fitting_92 rfl rfl rfl (by decide) (by omega) (v := nI (liC w k x)) (by rw [hl k c82, if_neg (by omega)]) ?_
        refine w_iload_n 94 dX13_fitting_93 rfl rfl ?_
        refine w_iload 96 dX13_fitting_94 rfl rfl ?_
        refine w_invs2 99 dX13_fitting_96 rfl slX13_277 (d' := 0) (by decide) (Nat.le_of_ble_eq_true rfl) (c_X13_bit ?_)
        rw [hasB_nI (by omega) (by omega)]
        refine w_ifeqB 106 102 dX13_fitting_99 rfl rfl (fun c99 => ?_) (fun c99 => ?_)
        · skip
          refine w_iconst 107 dX13_fitting_106 rfl (v := nI 0) rfl ?_
          refine w_iaddN 108 dX13_fitting_107 rfl ?_
          refine w_iastN 109 dX13_fitting_108 rfl rfl rfl (by decide) (by omega) ?_
          refine w_inc4 112 dX13_fitting_109 rfl (by decide) rfl (v := nI (_ + 1)) (nI_1 _) ?_
          refine w_goto 73 dX13_fitting_112 rfl ?_
          refine ih x (k + 1) _ hx hw (by omega) (by dsimp only; rw [upd2_ne (by decide)]; exact hf) (fun j hj => ?_) (hQ.a (by decide) (by decide) _ _) hk2 (by omega)
          dsimp only
          by_cases q : j = k
          · subst q
            rw [upd2_at, if_pos (by omega)]
            unfold liC
            simp only [cntTo, c99, Bool.false_and]
            simp
          · rw [upd2_off q, hl j hj]
            by_cases z : j < k
            · rw [if_pos z, if_pos (by omega)]
            · rw [if_neg z, if_neg (by omega)]
        · skip
          refine w_iconst 103 dX13_fitting_102 rfl (v := nI 1) rfl ?_
          refine w_goto 107 dX13_fitting_103 rfl ?_
          refine w_iaddN 108 dX13_fitting_107 rfl ?_
          refine w_iastN 109 dX13_fitting_108 rfl rfl rfl (by decide) (by omega) ?_
          refine w_inc4 112 dX13_fitting_109 rfl (by decide) rfl (v := nI (_ + 1)) (nI_1 _) ?_
          refine w_goto 73 dX13_fitting_112 rfl ?_
          refine ih x (k + 1) _ hx hw (by omega) (by dsimp only; rw [upd2_ne (by decide)]; exact hf) (fun j hj => ?_) (hQ.a (by decide) (by decide) _ _) hk2 (by omega)
          dsimp only
          by_cases q : j = k
          · subst q
            rw [upd2_at, if_pos (by omega)]
            unfold wpB at hw
            unfold liC
            simp only [cntTo, c99, hw, Bool.and_self, if_pos]
          · rw [upd2_off q, hl j hj]
            by_cases z : j < k
            · rw [if_pos z, if_pos (by omega)]
            · rw [if_neg z, if_neg (by omega)]
  have lp29 : ∀ (nf : Nat) (x : Nat) (A' : AH) (y : Option Value), x ≤ LN w → FT w x A' → QM A A' → LN w - x < nf → WP mX13_fitting 4 dM (GG (.ref 111) r) 29 [some (.ref 100), some (.int i), some (.int (encO (fdF (wpB w) i x))), some (.int (nI x)), y] [] A' K := by
    intro nf
    induction nf with
    | zero => intros; omega
    | succ nf ih =>
      intro x A' y hx hF hQ hms
      have hC2 := hC.q hQ
      have hcx := cntTo_le (wpB w) x
      refine w_iload_n 30 dX13_fitting_29 rfl rfl ?_
      refine w_aload_n 31 dX13_fitting_30 rfl rfl ?_
      refine w_inv0 34 dX13_fitting_31 rfl mlX13_458 rfl rfl (d' := 0) (by decide) (Nat.le_of_ble_eq_true rfl) (c_X13_sets hC2 ?_)
      refine w_icgeN 121 37 dX13_fitting_34 rfl rfl (by omega) (by omega) (fun c34 => ?_) (fun c34 => ?_)
      · skip
        have e : x = LN w := by omega
        subst e
        refine w_iload_n 122 dX13_fitting_121 rfl rfl ?_
        refine wr_i dX13_fitting_122 rfl ?_
        exact h A' hF hQ
      · skip
        refine w_aload_n 38 dX13_fitting_37 rfl rfl ?_
        refine w_iload_n 39 dX13_fitting_38 rfl rfl ?_
        refine w_inv1 42 dX13_fitting_39 rfl mlX13_461 rfl rfl (d' := 3) (by decide) (Nat.le_of_ble_eq_true rfl) (c_X13_weightOf hC2 (by omega) ?_)
        refine w_lconst 43 dX13_fitting_42 rfl (v := lN 0) rfl ?_
        refine w_lcmp 44 dX13_fitting_43 rfl ?_
        refine w_ifneL 50 47 dX13_fitting_44 rfl rfl (wgt_lt hC x) (by decide) (fun c44 => ?_) (fun c44 => ?_)
        · skip
          have hwp : wpB w x = true := decide_eq_true (by omega)
          refine w_aload_n 51 dX13_fitting_50 rfl rfl ?_
          refine w_getiv 54 dX13_fitting_51 rfl faX13_455 rfl rfl rfl (v := nI (cntTo (wpB w) x)) hF.1 ?_
          refine w_iload_n 55 dX13_fitting_54 rfl rfl ?_
          refine w_icne 60 58 dX13_fitting_55 rfl rfl (fun c55 => ?_) (fun c55 => ?_)
          · skip
            have hfd : fdF (wpB w) i (x + 1) = fdF (wpB w) i x := by simp only [fdF]; rw [if_neg (by rw [decide_eq_false c55]; simp)]
            rw [← hfd]
            refine w_aload_n 61 dX13_fitting_60 rfl rfl ?_
            refine w_dup_r 62 dX13_fitting_61 rfl ?_
            refine w_getiv 65 dX13_fitting_62 rfl faX13_455 rfl rfl rfl (v := nI (cntTo (wpB w) x)) hF.1 ?_
            refine w_iconst 66 dX13_fitting_65 rfl (v := nI 1) rfl ?_
            refine w_iaddN 67 dX13_fitting_66 rfl ?_
            refine w_puti 70 dX13_fitting_67 rfl faX13_455 rfl rfl rfl rfl ?_
            refine w_iconst 71 dX13_fitting_70 rfl (v := nI 0) rfl ?_
            refine w_ist4 73 dX13_fitting_71 rfl (by decide) rfl ?_
            refine lp73 _ x 0 _ c34 hwp (Nat.zero_le _) ?_ (fun j hj => ?_) (hQ.f (k := 26) (by decide) _) (fun A3 hF3 hQ3 => ?_) (Nat.lt_succ_self _)
            · dsimp only; rw [upd2_at]; simp only [cntTo, hwp, if_pos]
            · dsimp only; rw [upd2_ne (by decide), if_neg (by omega)]; exact hF.2 j hj
            refine w_inc3 118 dX13_fitting_115 rfl (by decide) rfl (v := nI (_ + 1)) (nI_1 _) ?_
            refine w_goto 29 dX13_fitting_118 rfl ?_
            exact ih (x + 1) A3 none (by omega) hF3 hQ3 (by omega)
          · skip
            have hfd : fdF (wpB w) i (x + 1) = some x := by simp only [fdF]; rw [if_pos (by rw [hwp, decide_eq_true c55]; rfl)]
            refine w_iload_n 59 dX13_fitting_58 rfl rfl ?_
            refine w_ist2 60 dX13_fitting_59 rfl (by decide) rfl ?_
            refine w_aload_n 61 dX13_fitting_60 rfl rfl ?_
            refine w_dup_r 62 dX13_fitting_61 rfl ?_
            refine w_getiv 65 dX13_fitting_62 rfl faX13_455 rfl rfl rfl (v := nI (cntTo (wpB w) x)) hF.1 ?_
            refine w_iconst 66 dX13_fitting_65 rfl (v := nI 1) rfl ?_
            refine w_iaddN 67 dX13_fitting_66 rfl ?_
            refine w_puti 70 dX13_fitting_67 rfl faX13_455 rfl rfl rfl rfl ?_
            refine w_iconst 71 dX13_fitting_70 rfl (v := nI 0) rfl ?_
            refine w_ist4 73 dX13_fitting_71 rfl (by decide) rfl ?_
            refine wp_eq (L' := [some (.ref 100), some (.int i), some (.int (encO (fdF (wpB w) i (x + 1)))), some (.int (nI x)), some (.int (nI 0))]) (by rw [hfd]; rfl) rfl rfl ?_
            refine lp73 _ x 0 _ c34 hwp (Nat.zero_le _) ?_ (fun j hj => ?_) (hQ.f (k := 26) (by decide) _) (fun A3 hF3 hQ3 => ?_) (Nat.lt_succ_self _)
            · dsimp only; rw [upd2_at]; simp only [cntTo, hwp, if_pos]
            · dsimp only; rw [upd2_ne (by decide), if_neg (by omega)]; exact hF.2 j hj
            refine w_inc3 118 dX13_fitting_115 rfl (by decide) rfl (v := nI (_ + 1)) (nI_1 _) ?_
            refine w_goto 29 dX13_fitting_118 rfl ?_
            exact ih (x + 1) A3 none (by omega) hF3 hQ3 (by omega)
        · skip
          have hwp : wpB w x = false := decide_eq_false (by omega)
          refine w_goto 115 dX13_fitting_47 rfl ?_
          refine w_inc3 118 dX13_fitting_115 rfl (by decide) rfl (v := nI (_ + 1)) (nI_1 _) ?_
          refine w_goto 29 dX13_fitting_118 rfl ?_
          refine wp_to ?_ rfl rfl (ih (x + 1) A' none (by omega) ⟨?_, fun j hj => ?_⟩ hQ (by omega))
          · simp only [lle, fdF, hwp, Bool.false_and]; simp
          · rw [hF.1]; simp only [cntTo, hwp]; simp
          · rw [hF.2 j hj]; unfold liC; unfold wpB at hwp; simp only [cntTo, hwp, Bool.and_false]; simp
  have lp9 : ∀ (nf : Nat) (k : Nat) (A' : AH), k ≤ 5 → (∀ j, j < k → A'.1 109 j = nI 0) → A'.1 100 26 = nI 0 → QM A A' → 5 - k < nf → WP mX13_fitting 4 dM (GG (.ref 111) r) 9 [some (.ref 100), some (.int i), some (.int (-1)), some (.int (nI k)), none] [] A' K := by
    intro nf
    induction nf with
    | zero => intros; omega
    | succ nf ih =>
      intro k A' hk hz hf hQ hms
      refine w_iload_n 10 dX13_fitting_9 rfl rfl ?_
      refine w_iconst 11 dX13_fitting_10 rfl (v := nI 5) rfl ?_
      refine w_icgeN 27 14 dX13_fitting_11 rfl rfl (by omega) (by omega) (fun c11 => ?_) (fun c11 => ?_)
      · skip
        refine w_iconst 28 dX13_fitting_27 rfl (v := nI 0) rfl ?_
        refine w_ist3 29 dX13_fitting_28 rfl (by decide) rfl ?_
        exact lp29 _ 0 A' none (Nat.zero_le _) ⟨hf, fun j hj => by rw [hz j (by omega)]; rfl⟩ hQ (Nat.lt_succ_self _)
      · skip
        refine w_aload_n 15 dX13_fitting_14 rfl rfl ?_
        refine w_getr 18 dX13_fitting_15 rfl faX13_39 rfl rfl rfl (r := .ref 109) rfl ?_
        refine w_iload_n 19 dX13_fitting_18 rfl rfl ?_
        refine w_iconst 20 dX13_fitting_19 rfl (v := nI 0) rfl ?_
        refine w_iastN 21 dX13_fitting_20 rfl rfl rfl (by decide) (by omega) ?_
        refine w_inc3 24 dX13_fitting_21 rfl (by decide) rfl (v := nI (_ + 1)) (nI_1 _) ?_
        refine w_goto 9 dX13_fitting_24 rfl ?_
        refine ih (k + 1) _ (by omega) (fun j hj => ?_) (by dsimp only; rw [upd2_ne (by decide)]; exact hf) (hQ.a (by decide) (by decide) _ _) (by omega)
        dsimp only
        by_cases q : j = k
        · subst q; rw [upd2_at]
        · rw [upd2_off q]; exact hz j (by omega)
  refine w_aload_n 1 dX13_fitting_0 rfl rfl ?_
  refine w_iconst 2 dX13_fitting_1 rfl (v := nI 0) rfl ?_
  refine w_puti 5 dX13_fitting_2 rfl faX13_455 rfl rfl rfl rfl ?_
  refine w_iconst 6 dX13_fitting_5 rfl (v := (-1)) rfl ?_
  refine w_ist2 7 dX13_fitting_6 rfl (by decide) rfl ?_
  refine w_iconst 8 dX13_fitting_7 rfl (v := nI 0) rfl ?_
  refine w_ist3 9 dX13_fitting_8 rfl (by decide) rfl ?_
  exact lp9 _ 0 _ (Nat.zero_le _) (fun j hj => absurd hj (Nat.not_lt_zero j)) (by dsimp only; rw [upd2_at]) (QM.rf.f (by decide) _) (Nat.lt_succ_self _)

set_option maxRecDepth 4000 in
theorem c_X13_fits {K : Option Value → AH → Prop} {A : AH} {r : Value} {w : WT} {s : Nat → Nat} (hC : MC w s A) (h : ∀ A', QM A A' → A'.1 100 1 = nI (t1 (okW1 w)) → A'.1 100 2 = -1 → K (some (.int (rFits w))) A') : Ct yX13_fits mX13_fits 5 dM (GG (.ref 111) r) [.ref 100] A K := by
  refine Ct.of [some (.ref 100)] rfl rfl rfl (Nat.le_of_ble_eq_true rfl) ?_
  refine w_aload_n 1 dX13_fits_0 rfl rfl ?_
  refine w_iconst 2 dX13_fits_1 rfl (v := nI 0) rfl ?_
  refine w_puti 5 dX13_fits_2 rfl faX13_46 rfl rfl rfl rfl ?_
  have hQ1 : QM A (upd2 A.1 100 0 (nI 0), A.2) := QM.rf.f (by decide) _
  have hC1 := hC.q hQ1
  have hz : t1 (okW1 w) = 0 := by rw [okW1_t hC]; rfl
  refine w_aload_n 6 dX13_fits_5 rfl rfl ?_
  refine w_getr 9 dX13_fits_6 rfl faX13_343 rfl rfl rfl (r := .ref 111) rfl ?_
  refine w_nnR 18 dX13_fits_9 rfl ?_
  refine w_aload_n 19 dX13_fits_18 rfl rfl ?_
  refine w_iconst 20 dX13_fits_19 rfl (v := (-1)) rfl ?_
  refine w_inv1 23 dX13_fits_20 rfl mlX13_465 rfl rfl (d' := 4) (by decide) (Nat.le_of_ble_eq_true rfl) (c_X13_fitting hC1 (fun A3 hF hQ3 => ?_))
  refine w_pop 24 dX13_fits_23 rfl ?_
  refine w_aload_n 25 dX13_fits_24 rfl rfl ?_
  refine w_aload_n 26 dX13_fits_25 rfl rfl ?_
  refine w_getiv 29 dX13_fits_26 rfl faX13_455 rfl rfl rfl (v := nI (fitN w)) hF.1 ?_
  refine w_inv1 32 dX13_fits_29 rfl mlX13_56 rfl rfl (d' := 0) (by decide) (Nat.le_of_ble_eq_true rfl) (c_X13_good (fun A9 hQ9 ht9 hw9 => ?_))
  refine wr_i dX13_fits_32 rfl ?_
  exact kq (h A9 ((hQ1.tr hQ3).tr hQ9) (by rw [hz]; exact ht9) hw9) (by unfold rFits; rw [if_pos hz])

set_option maxRecDepth 4000 in
theorem c_X13_fitAt {K : Option Value → AH → Prop} {A : AH} {r : Value} {w : WT} {s : Nat → Nat} (hC : MC w s A) {i : Int32} (h : ∀ A', QM A A' → A'.1 100 1 = nI (tqFit w i) → A'.1 100 2 = -1 → K (some (.int (qFitAt w i))) A') : Ct yX13_fitAt mX13_fitAt 5 dM (GG (.ref 111) r) [.ref 100, .int i] A K := by
  refine Ct.of [some (.ref 100), some (.int i), none] rfl rfl rfl (Nat.le_of_ble_eq_true rfl) ?_
  refine w_aload_n 1 dX13_fitAt_0 rfl rfl ?_
  refine w_iconst 2 dX13_fitAt_1 rfl (v := nI 0) rfl ?_
  refine w_puti 5 dX13_fitAt_2 rfl faX13_46 rfl rfl rfl rfl ?_
  have hQ1 : QM A (upd2 A.1 100 0 (nI 0), A.2) := QM.rf.f (by decide) _
  have hC1 := hC.q hQ1
  refine w_aload_n 6 dX13_fitAt_5 rfl rfl ?_
  refine w_getr 9 dX13_fitAt_6 rfl faX13_343 rfl rfl rfl (r := .ref 111) rfl ?_
  refine w_nR 12 dX13_fitAt_9 rfl ?_
  refine w_iload_n 13 dX13_fitAt_12 rfl rfl ?_
  refine w_ifge 22 16 dX13_fitAt_13 rfl rfl (fun c13 => ?_) (fun c13 => ?_)
  · skip
    have hn : ¬ i < 0 := Int32.not_lt.mpr c13
    refine w_aload_n 23 dX13_fitAt_22 rfl rfl ?_
    refine w_iload_n 24 dX13_fitAt_23 rfl rfl ?_
    refine w_inv1 27 dX13_fitAt_24 rfl mlX13_465 rfl rfl (d' := 4) (by decide) (Nat.le_of_ble_eq_true rfl) (c_X13_fitting hC1 (fun A3 hF hQ3 => ?_))
    have hLN := LN_le hC
    refine w_ist2 28 dX13_fitAt_27 rfl (by decide) rfl ?_
    refine w_iload_n 29 dX13_fitAt_28 rfl rfl ?_
    refine w_iconst 30 dX13_fitAt_29 rfl (v := (-1)) rfl ?_
    refine w_icne 41 33 dX13_fitAt_30 rfl rfl (fun c30 => ?_) (fun c30 => ?_)
    · skip
      refine w_aload_n 42 dX13_fitAt_41 rfl rfl ?_
      refine w_iload_n 43 dX13_fitAt_42 rfl rfl ?_
      refine w_inv1 46 dX13_fitAt_43 rfl mlX13_56 rfl rfl (d' := 0) (by decide) (Nat.le_of_ble_eq_true rfl) (c_X13_good (fun A9 hQ9 ht9 hw9 => ?_))
      refine wr_i dX13_fitAt_46 rfl ?_
      have hex : (fdF (wpB w) i (LN w)).isSome = true := by
        cases q : fdF (wpB w) i (LN w) with
        | none => rw [q] at c30; exact absurd rfl c30
        | some x => rfl
      exact kq (h A9 ((hQ1.tr hQ3).tr hQ9) (by rw [ht9, tqFit, if_neg hn, hex]; rfl) hw9) (by unfold qFitAt; rw [if_neg hn])
    · skip
      refine w_aload_n 34 dX13_fitAt_33 rfl rfl ?_
      refine w_iconst 35 dX13_fitAt_34 rfl (v := nI 1) rfl ?_
      refine w_inv1 38 dX13_fitAt_35 rfl mlX13_52 rfl rfl (d' := 0) (by decide) (Nat.le_of_ble_eq_true rfl) (c_X13_refused (fun A2 hQ2 ht2 hw2 => ?_))
      refine w_goto 46 dX13_fitAt_38 rfl ?_
      refine wr_i dX13_fitAt_46 rfl ?_
      have hno : fdF (wpB w) i (LN w) = none := (enc_m1 (fun v hv => by have := fdF_lt hv; omega)).mp c30
      exact kq (h A2 ((hQ1.tr hQ3).tr hQ2) (by rw [ht2, tqFit, if_neg hn, hno]; rfl) hw2) (by unfold qFitAt; rw [if_neg hn, hno]; rfl)
  · skip
    refine w_aload_n 17 dX13_fitAt_16 rfl rfl ?_
    refine w_iconst 18 dX13_fitAt_17 rfl (v := nI 1) rfl ?_
    refine w_inv1 21 dX13_fitAt_18 rfl mlX13_52 rfl rfl (d' := 0) (by decide) (Nat.le_of_ble_eq_true rfl) (c_X13_refused (fun A2 hQ2 ht2 hw2 => ?_))
    refine wr_i dX13_fitAt_21 rfl ?_
    exact kq (h A2 (hQ1.tr hQ2) (by rw [ht2, tqFit, if_pos (Int32.not_le.mp c13)]) hw2) (by unfold qFitAt; rw [if_pos (Int32.not_le.mp c13)])

set_option maxRecDepth 4000 in
theorem a_X13_odds {K : Option Value → AH → Prop} {A : AH} {r : Value} {w : WT} {s : Nat → Nat} {k : Nat} {lo : Bool} (hC : MC w s A) (hk : k < w.1 6) (h : ∀ A', QM A A' → A'.1 100 1 = nI 0 → A'.1 100 2 = -1 → K (some (.long (sh lo (sumTo (fun x => if x.testBit k then wgt w x else 0) (LN w)) (sumTo (wgt w) (LN w))))) A') : WP mX13_odds 4 dM (GG (.ref 111) r) 34 [some (.ref 100), some (.int (nI k)), some (.int (b2i lo)), none, none, none, none, none] [] A K := by
  have hLN := LN_le hC
  have hr := hC.rooms
  have lp42 : ∀ (nf : Nat) (i : Nat), i ≤ LN w → LN w - i < nf → WP mX13_odds 4 dM (GG (.ref 111) r) 42 [some (.ref 100), some (.int (nI k)), some (.int (b2i lo)), some (.long (lN (sumTo (fun x => if x.testBit k then wgt w x else 0) i))), none, some (.long (lN (sumTo (wgt w) i))), none, some (.int (nI i))] [] A K := by
    intro nf
    induction nf with
    | zero => intros; omega
    | succ nf ih =>
      intro i hi hms
      refine w_iload 44 dX13_odds_42 rfl rfl ?_
      refine w_aload_n 45 dX13_odds_44 rfl rfl ?_
      refine w_inv0 48 dX13_odds_45 rfl mlX13_458 rfl rfl (d' := 0) (by decide) (Nat.le_of_ble_eq_true rfl) (c_X13_sets hC ?_)
      refine w_icgeN 90 51 dX13_odds_48 rfl rfl (by omega) (by omega) (fun c48 => ?_) (fun c48 => ?_)
      · skip
        have e : i = LN w := by omega
        subst e
        refine w_aload_n 91 dX13_odds_90 rfl rfl ?_
        refine w_lload_n 92 dX13_odds_91 rfl rfl ?_
        refine w_lload 94 dX13_odds_92 rfl rfl ?_
        refine w_iload_n 95 dX13_odds_94 rfl rfl ?_
        refine w_inv3 98 dX13_odds_95 rfl mlX13_468 rfl rfl (d' := 1) (by decide) (Nat.le_of_ble_eq_true rfl) (c_X13_fraction (sumL2 hC (fun x => by split <;> omega) hLN) (sumL2 hC (fun x => Nat.le_refl _) hLN) (fun A9 hQ9 ht9 hw9 => ?_))
        refine wr_l dX13_odds_98 rfl ?_
        exact h A9 hQ9 ht9 hw9
      · skip
        refine w_lload 53 dX13_odds_51 rfl rfl ?_
        refine w_aload_n 54 dX13_odds_53 rfl rfl ?_
        refine w_iload 56 dX13_odds_54 rfl rfl ?_
        refine w_inv1 59 dX13_odds_56 rfl mlX13_461 rfl rfl (d' := 3) (by decide) (Nat.le_of_ble_eq_true rfl) (c_X13_weightOf hC (by omega) ?_)
        refine w_laddN 60 dX13_odds_59 rfl ?_
        refine w_lst5 62 dX13_odds_60 rfl (by decide) rfl ?_
        refine w_lload_n 63 dX13_odds_62 rfl rfl ?_
        refine w_iload 65 dX13_odds_63 rfl rfl ?_
        refine w_iload_n 66 dX13_odds_65 rfl rfl ?_
        refine w_invs2 69 dX13_odds_66 rfl slX13_277 (d' := 0) (by decide) (Nat.le_of_ble_eq_true rfl) (c_X13_bit ?_)
        rw [hasB_nI (by omega) (by omega)]
        refine w_ifeqB 81 72 dX13_odds_69 rfl rfl (fun c69 => ?_) (fun c69 => ?_)
        · skip
          refine w_lconst 82 dX13_odds_81 rfl (v := lN 0) rfl ?_
          refine w_laddN 83 dX13_odds_82 rfl ?_
          refine w_lst3 84 dX13_odds_83 rfl (by decide) rfl ?_
          refine w_inc7 87 dX13_odds_84 rfl (by decide) rfl (v := nI (_ + 1)) (nI_1 _) ?_
          refine w_goto 42 dX13_odds_87 rfl ?_
          refine wp_eq ?_ rfl rfl (ih (i + 1) (by omega) (by omega))
          simp [sumTo, c69]
        · skip
          refine w_aload_n 73 dX13_odds_72 rfl rfl ?_
          refine w_iload 75 dX13_odds_73 rfl rfl ?_
          refine w_inv1 78 dX13_odds_75 rfl mlX13_461 rfl rfl (d' := 3) (by decide) (Nat.le_of_ble_eq_true rfl) (c_X13_weightOf hC (by omega) ?_)
          refine w_goto 82 dX13_odds_78 rfl ?_
          refine w_laddN 83 dX13_odds_82 rfl ?_
          refine w_lst3 84 dX13_odds_83 rfl (by decide) rfl ?_
          refine w_inc7 87 dX13_odds_84 rfl (by decide) rfl (v := nI (_ + 1)) (nI_1 _) ?_
          refine w_goto 42 dX13_odds_87 rfl ?_
          refine wp_eq ?_ rfl rfl (ih (i + 1) (by omega) (by omega))
          simp [sumTo, c69]
  refine w_lconst 35 dX13_odds_34 rfl (v := lN 0) rfl ?_
  refine w_lst3 36 dX13_odds_35 rfl (by decide) rfl ?_
  refine w_lconst 37 dX13_odds_36 rfl (v := lN 0) rfl ?_
  refine w_lst5 39 dX13_odds_37 rfl (by decide) rfl ?_
  refine w_iconst 40 dX13_odds_39 rfl (v := nI 0) rfl ?_
  refine w_ist7 42 dX13_odds_40 rfl (by decide) rfl ?_
  exact lp42 _ 0 (Nat.zero_le _) (Nat.lt_succ_self _)

set_option maxRecDepth 4000 in
theorem c_X13_odds {K : Option Value → AH → Prop} {A : AH} {r : Value} {w : WT} {s : Nat → Nat} (hC : MC w s A) {k : Int32} {lo : Bool} (h : ∀ A', QM A A' → A'.1 100 1 = nI (t1 (okR (w.1 6) k)) → A'.1 100 2 = -1 → K (some (.long (rOdds w k lo))) A') : Ct yX13_odds mX13_odds 4 dM (GG (.ref 111) r) [.ref 100, .int k, .int (b2i lo)] A K := by
  refine Ct.of [some (.ref 100), some (.int k), some (.int (b2i lo)), none, none, none, none, none] rfl rfl rfl (Nat.le_of_ble_eq_true rfl) ?_
  refine w_aload_n 1 dX13_odds_0 rfl rfl ?_
  refine w_iconst 2 dX13_odds_1 rfl (v := nI 0) rfl ?_
  refine w_puti 5 dX13_odds_2 rfl faX13_46 rfl rfl rfl rfl ?_
  have hQ1 : QM A (upd2 A.1 100 0 (nI 0), A.2) := QM.rf.f (by decide) _
  have hC1 := hC.q hQ1
  refine w_aload_n 6 dX13_odds_5 rfl rfl ?_
  refine w_getr 9 dX13_odds_6 rfl faX13_343 rfl rfl rfl (r := .ref 111) rfl ?_
  refine w_nR 12 dX13_odds_9 rfl ?_
  refine w_iload_n 13 dX13_odds_12 rfl rfl ?_
  refine w_iflt 27 16 dX13_odds_13 rfl rfl (fun c13 => ?_) (fun c13 => ?_)
  · skip
    refine w_aload_n 28 dX13_odds_27 rfl rfl ?_
    refine w_iconst 29 dX13_odds_28 rfl (v := nI 1) rfl ?_
    refine w_inv1 32 dX13_odds_29 rfl mlX13_52 rfl rfl (d' := 0) (by decide) (Nat.le_of_ble_eq_true rfl) (c_X13_refused (fun A2 hQ2 ht2 hw2 => ?_))
    refine w_i2l 33 dX13_odds_32 rfl ?_
    refine wr_l dX13_odds_33 rfl ?_
    have hno : okR (w.1 6) k = false := decide_eq_false (fun z => absurd c13 (Int32.not_lt.mpr z.1))
    exact kl (h A2 (hQ1.tr hQ2) (by rw [ht2, hno]; rfl) hw2) (by unfold rOdds; rw [hno]; rfl)
  · skip
    refine w_iload_n 17 dX13_odds_16 rfl rfl ?_
    refine w_aload_n 18 dX13_odds_17 rfl rfl ?_
    refine w_getr 21 dX13_odds_18 rfl faX13_343 rfl rfl rfl (r := .ref 111) rfl ?_
    refine w_getiv 24 dX13_odds_21 rfl faX13_313 rfl rfl rfl (hC1.1.2.1 6 (by decide) (by decide)) ?_
    refine w_iclt 34 27 dX13_odds_24 rfl rfl (fun c24 => ?_) (fun c24 => ?_)
    · skip
      have hok : okR (w.1 6) k = true := decide_eq_true ⟨Int32.not_lt.mp c13, c24⟩
      have hr := hC.rooms
      obtain ⟨k, rfl, hk⟩ := okR_of hok (by omega)
      have hz : t1 (okR (w.1 6) (nI k)) = 0 := by rw [hok]; rfl
      exact a_X13_odds hC1 hk (fun A9 hQ9 ht9 hw9 => kl (h A9 (hQ1.tr hQ9) (by rw [hz]; exact ht9) hw9) (by unfold rOdds; rw [if_pos hz, cl_nI (show k < 2 ^ 31 by omega)]))
    · skip
      refine w_aload_n 28 dX13_odds_27 rfl rfl ?_
      refine w_iconst 29 dX13_odds_28 rfl (v := nI 1) rfl ?_
      refine w_inv1 32 dX13_odds_29 rfl mlX13_52 rfl rfl (d' := 0) (by decide) (Nat.le_of_ble_eq_true rfl) (c_X13_refused (fun A2 hQ2 ht2 hw2 => ?_))
      refine w_i2l 33 dX13_odds_32 rfl ?_
      refine wr_l dX13_odds_33 rfl ?_
      have hno : okR (w.1 6) k = false := decide_eq_false (fun z => c24 z.2)
      exact kl (h A2 (hQ1.tr hQ2) (by rw [ht2, hno]; rfl) hw2) (by unfold rOdds; rw [hno]; rfl)

set_option maxRecDepth 4000 in
theorem a_X13_likeliest {K : Option Value → AH → Prop} {A : AH} {r : Value} {w : WT} {s : Nat → Nat} (hC : MC w s A) (h : ∀ A', QM A A' → A'.1 100 1 = nI 0 → A'.1 100 2 = -1 → K (some (.int (enc2 (hv (wgt w) (LN w)).1))) A') : WP mX13_likeliest 4 dM (GG (.ref 111) r) 18 [some (.ref 100), none, none, none, none] [] A K := by
  have hLN := LN_le hC
  have lp26 : ∀ (nf : Nat) (i : Nat), i ≤ LN w → LN w - i < nf → WP mX13_likeliest 4 dM (GG (.ref 111) r) 26 [some (.ref 100), some (.int (enc2 (hv (wgt w) i).1)), some (.long (lN (hv (wgt w) i).2)), none, some (.int (nI i))] [] A K := by
    intro nf
    induction nf with
    | zero => intros; omega
    | succ nf ih =>
      intro i hi hms
      have hle : (hv (wgt w) i).2 ≤ 1000000000000 := hv_le (wgt_le hC.okT.2.2.2.1) i
      have hwl := wgt_le hC.okT.2.2.2.1 i
      refine w_iload 28 dX13_likeliest_26 rfl rfl ?_
      refine w_aload_n 29 dX13_likeliest_28 rfl rfl ?_
      refine w_inv0 32 dX13_likeliest_29 rfl mlX13_458 rfl rfl (d' := 0) (by decide) (Nat.le_of_ble_eq_true rfl) (c_X13_sets hC ?_)
      refine w_icgeN 65 35 dX13_likeliest_32 rfl rfl (by omega) (by omega) (fun c32 => ?_) (fun c32 => ?_)
      · skip
        refine w_aload_n 66 dX13_likeliest_65 rfl rfl ?_
        refine w_iload_n 67 dX13_likeliest_66 rfl rfl ?_
        have e : i = LN w := by omega
        subst e
        refine w_inv1 70 dX13_likeliest_67 rfl mlX13_56 rfl rfl (d' := 0) (by decide) (Nat.le_of_ble_eq_true rfl) (c_X13_good (fun A9 hQ9 ht9 hw9 => ?_))
        refine wr_i dX13_likeliest_70 rfl ?_
        exact h A9 hQ9 ht9 hw9
      · skip
        refine w_aload_n 36 dX13_likeliest_35 rfl rfl ?_
        refine w_iload 38 dX13_likeliest_36 rfl rfl ?_
        refine w_inv1 41 dX13_likeliest_38 rfl mlX13_461 rfl rfl (d' := 3) (by decide) (Nat.le_of_ble_eq_true rfl) (c_X13_weightOf hC (by omega) ?_)
        refine w_lload_n 42 dX13_likeliest_41 rfl rfl ?_
        refine w_lcmp 43 dX13_likeliest_42 rfl ?_
        refine w_ifgtL 49 46 dX13_likeliest_43 rfl rfl (by omega) (by omega) (fun c43 => ?_) (fun c43 => ?_)
        · skip
          refine w_aload_n 50 dX13_likeliest_49 rfl rfl ?_
          refine w_iload 52 dX13_likeliest_50 rfl rfl ?_
          refine w_inv1 55 dX13_likeliest_52 rfl mlX13_461 rfl rfl (d' := 3) (by decide) (Nat.le_of_ble_eq_true rfl) (c_X13_weightOf hC (by omega) ?_)
          refine w_lst2 56 dX13_likeliest_55 rfl (by decide) rfl ?_
          refine w_iload 58 dX13_likeliest_56 rfl rfl ?_
          refine w_ist1 59 dX13_likeliest_58 rfl (by decide) rfl ?_
          refine w_inc4 62 dX13_likeliest_59 rfl (by decide) rfl (v := nI (_ + 1)) (nI_1 _) ?_
          refine w_goto 26 dX13_likeliest_62 rfl ?_
          refine wp_eq ?_ rfl rfl (ih (i + 1) (by omega) (by omega))
          simp [hv, show (hv (wgt w) i).2 < wgt w i by omega, enc2]
        · skip
          refine w_goto 59 dX13_likeliest_46 rfl ?_
          refine w_inc4 62 dX13_likeliest_59 rfl (by decide) rfl (v := nI (_ + 1)) (nI_1 _) ?_
          refine w_goto 26 dX13_likeliest_62 rfl ?_
          refine wp_eq ?_ rfl rfl (ih (i + 1) (by omega) (by omega))
          simp [hv, show ¬ (hv (wgt w) i).2 < wgt w i by omega]
  refine w_bipush 20 dX13_likeliest_18 rfl (v := (-2)) rfl ?_
  refine w_ist1 21 dX13_likeliest_20 rfl (by decide) rfl ?_
  refine w_lconst 22 dX13_likeliest_21 rfl (v := lN 0) rfl ?_
  refine w_lst2 23 dX13_likeliest_22 rfl (by decide) rfl ?_
  refine w_iconst 24 dX13_likeliest_23 rfl (v := nI 0) rfl ?_
  refine w_ist4 26 dX13_likeliest_24 rfl (by decide) rfl ?_
  exact lp26 _ 0 (Nat.zero_le _) (Nat.lt_succ_self _)

set_option maxRecDepth 4000 in
theorem c_X13_likeliest {K : Option Value → AH → Prop} {A : AH} {r : Value} {w : WT} {s : Nat → Nat} (hC : MC w s A) (h : ∀ A', QM A A' → A'.1 100 1 = nI (t1 (okW1 w)) → A'.1 100 2 = -1 → K (some (.int (rLikeliest w))) A') : Ct yX13_likeliest mX13_likeliest 4 dM (GG (.ref 111) r) [.ref 100] A K := by
  refine Ct.of [some (.ref 100), none, none, none, none] rfl rfl rfl (Nat.le_of_ble_eq_true rfl) ?_
  refine w_aload_n 1 dX13_likeliest_0 rfl rfl ?_
  refine w_iconst 2 dX13_likeliest_1 rfl (v := nI 0) rfl ?_
  refine w_puti 5 dX13_likeliest_2 rfl faX13_46 rfl rfl rfl rfl ?_
  have hQ1 : QM A (upd2 A.1 100 0 (nI 0), A.2) := QM.rf.f (by decide) _
  have hC1 := hC.q hQ1
  have hz : t1 (okW1 w) = 0 := by rw [okW1_t hC]; rfl
  refine w_aload_n 6 dX13_likeliest_5 rfl rfl ?_
  refine w_getr 9 dX13_likeliest_6 rfl faX13_343 rfl rfl rfl (r := .ref 111) rfl ?_
  refine w_nnR 18 dX13_likeliest_9 rfl ?_
  exact a_X13_likeliest hC1 (fun A9 hQ9 ht9 hw9 => kq (h A9 (hQ1.tr hQ9) (by rw [hz]; exact ht9) hw9) (by unfold rLikeliest; rw [if_pos hz]))

theorem tsV_0 {w : WT} : tsV w 0 = (none, 0) := by
  unfold tsV
  split <;> rfl
theorem tsV_lt {w : WT} {k v : Nat} (h : (tsV w k).1 = some v) : v < k := by
  unfold tsV at h
  split at h
  · cases h
  · exact lvP_lt h
theorem tsV_le {w : WT} {s : Nat → Nat} {A : AH} (hC : MC w s A) (k : Nat) : (tsV w k).2 ≤ 32 := by
  have hLN := LN_le hC
  have hcn := cntTo_le (wpB w) (LN w)
  unfold tsV
  split
  · omega
  · refine lvP_le (fun j => ?_) k
    have := liC_le (w := w) (k := j) (LN w)
    unfold tsM
    split <;> omega
theorem tsV_t {w : WT} {k : Nat} (hc : ¬ cntTo (wpB w) (LN w) = 0) (h : (tsV w k).1 = none ∨ tsM w k < (tsV w k).2) : tsV w (k + 1) = (some k, tsM w k) := by
  unfold tsV at h ⊢
  rw [if_neg hc] at h ⊢
  simp only [lvP]
  rw [if_pos ⟨trivial, h⟩]
theorem tsV_f {w : WT} {k v : Nat} (hc : ¬ cntTo (wpB w) (LN w) = 0) (h : (tsV w k).1 = some v) (h2 : ¬ tsM w k < (tsV w k).2) : tsV w (k + 1) = tsV w k := by
  unfold tsV at h h2 ⊢
  simp only [if_neg hc] at h h2 ⊢
  simp only [lvP]
  rw [if_neg (fun z => z.2.elim (fun y => by rw [h] at y; cases y) h2)]
set_option maxRecDepth 4000 in
theorem c_X13_tests {K : Option Value → AH → Prop} {A : AH} {r : Value} {w : WT} {s : Nat → Nat} (hC : MC w s A) (h : ∀ A', QM A A' → A'.1 100 28 = enc2 ((tsV w (w.1 6)).1.map (fun _ => (tsV w (w.1 6)).2)) → K (some (.int (enc2 (tsV w (w.1 6)).1))) A') : Ct yX13_tests mX13_tests 5 dM (GG (.ref 111) r) [.ref 100] A K := by
  refine Ct.of [some (.ref 100), none, none, none] rfl rfl rfl (Nat.le_of_ble_eq_true rfl) ?_
  have hr := hC.rooms
  have hLN := LN_le hC
  have hcn := cntTo_le (wpB w) (LN w)
  have lp17 : ∀ (nf : Nat) (k : Nat) (A' : AH) (y : Option Value), k ≤ w.1 6 → FT w (LN w) A' → A'.1 100 28 = enc2 ((tsV w k).1.map (fun _ => (tsV w k).2)) → QM A A' → w.1 6 - k < nf → WP mX13_tests 5 dM (GG (.ref 111) r) 17 [some (.ref 100), some (.int (enc2 (tsV w k).1)), some (.int (nI k)), y] [] A' K := by
    intro nf
    induction nf with
    | zero => intros; omega
    | succ nf ih =>
      intro k A' y hk hF2 h28 hQ2 hms
      have hC2 := hC.q hQ2
      have hlk := liC_le (w := w) (k := k) (LN w)
      have hml : tsM w k ≤ 32 := by unfold tsM; split <;> omega
      refine w_iload_n 18 dX13_tests_17 rfl rfl ?_
      refine w_aload_n 19 dX13_tests_18 rfl rfl ?_
      refine w_getr 22 dX13_tests_19 rfl faX13_343 rfl rfl rfl (r := .ref 111) rfl ?_
      refine w_getiv 25 dX13_tests_22 rfl faX13_313 rfl rfl rfl (hC2.1.2.1 6 (by decide) (by decide)) ?_
      refine w_icgeN 106 28 dX13_tests_25 rfl rfl (by omega) (by omega) (fun c25 => ?_) (fun c25 => ?_)
      · skip
        have e9 : tsV w k = tsV w (w.1 6) := by
          first
          | (have e : k = w.1 6 := by omega
             rw [e])
          | (have e : cntTo (wpB w) (LN w) = 0 := by omega
             unfold tsV
             rw [if_pos e, if_pos e])
        refine w_iload_n 107 dX13_tests_106 rfl rfl ?_
        refine wr_i dX13_tests_107 rfl ?_
        exact kq (h A' hQ2 (by rw [h28, e9])) (by rw [e9])
      · skip
        refine w_aload_n 29 dX13_tests_28 rfl rfl ?_
        refine w_getiv 32 dX13_tests_29 rfl faX13_455 rfl rfl rfl (v := nI (cntTo (wpB w) (LN w))) hF2.1 ?_
        refine w_ifleN 106 35 dX13_tests_32 rfl rfl (by omega) (fun c32 => ?_) (fun c32 => ?_)
        · skip
          have e9 : tsV w k = tsV w (w.1 6) := by
            first
            | (have e : k = w.1 6 := by omega
               rw [e])
            | (have e : cntTo (wpB w) (LN w) = 0 := by omega
               unfold tsV
               rw [if_pos e, if_pos e])
          refine w_iload_n 107 dX13_tests_106 rfl rfl ?_
          refine wr_i dX13_tests_107 rfl ?_
          exact kq (h A' hQ2 (by rw [h28, e9])) (by rw [e9])
        · skip
          have hc0 : ¬ cntTo (wpB w) (LN w) = 0 := by omega
          have hc1 : tsV w k = tsV w k := rfl
          refine w_aload_n 36 dX13_tests_35 rfl rfl ?_
          refine w_getr 39 dX13_tests_36 rfl faX13_39 rfl rfl rfl (r := .ref 109) rfl ?_
          refine w_iload_n 40 dX13_tests_39 rfl rfl ?_
          refine w_ialdv 41 dX13_tests_40 rfl rfl rfl (by decide) (by omega) (v := nI (liC w k (LN w))) (hF2.2 k c25) ?_
          refine w_aload_n 42 dX13_tests_41 rfl rfl ?_
          refine w_getiv 45 dX13_tests_42 rfl faX13_455 rfl rfl rfl (v := nI (cntTo (wpB w) (LN w))) hF2.1 ?_
          refine w_aload_n 46 dX13_tests_45 rfl rfl ?_
          refine w_getr 49 dX13_tests_46 rfl faX13_39 rfl rfl rfl (r := .ref 109) rfl ?_
          refine w_iload_n 50 dX13_tests_49 rfl rfl ?_
          refine w_ialdv 51 dX13_tests_50 rfl rfl rfl (by decide) (by omega) (v := nI (liC w k (LN w))) (hF2.2 k c25) ?_
          refine w_isubN 52 dX13_tests_51 rfl hlk ?_
          refine w_icleN 64 55 dX13_tests_52 rfl rfl (by omega) (by omega) (fun c52 => ?_) (fun c52 => ?_)
          · skip
            have hm : tsM w k = cntTo (wpB w) (LN w) - liC w k (LN w) := if_neg (by omega)
            refine w_aload_n 65 dX13_tests_64 rfl rfl ?_
            refine w_getiv 68 dX13_tests_65 rfl faX13_455 rfl rfl rfl (v := nI (cntTo (wpB w) (LN w))) hF2.1 ?_
            refine w_aload_n 69 dX13_tests_68 rfl rfl ?_
            refine w_getr 72 dX13_tests_69 rfl faX13_39 rfl rfl rfl (r := .ref 109) rfl ?_
            refine w_iload_n 73 dX13_tests_72 rfl rfl ?_
            refine w_ialdv 74 dX13_tests_73 rfl rfl rfl (by decide) (by omega) (v := nI (liC w k (LN w))) (hF2.2 k c25) ?_
            refine w_isubN 75 dX13_tests_74 rfl hlk ?_
            refine w_ist3 76 dX13_tests_75 rfl (by decide) rfl ?_
            refine w_iload_n 77 dX13_tests_76 rfl rfl ?_
            refine w_bipush 79 dX13_tests_77 rfl (v := (-2)) rfl ?_
            refine w_iceq 93 82 dX13_tests_79 rfl rfl (fun c79 => ?_) (fun c79 => ?_)
            · skip
              have hno : (tsV w k).1 = none := (enc2_m2 (fun v hv => by have := tsV_lt hv; omega)).mp c79
              refine w_iload_n 94 dX13_tests_93 rfl rfl ?_
              refine w_ist1 95 dX13_tests_94 rfl (by decide) rfl ?_
              refine w_aload_n 96 dX13_tests_95 rfl rfl ?_
              refine w_iload_n 97 dX13_tests_96 rfl rfl ?_
              refine w_puti 100 dX13_tests_97 rfl faX13_472 rfl rfl rfl rfl ?_
              refine w_inc2 103 dX13_tests_100 rfl (by decide) rfl (v := nI (_ + 1)) (nI_1 _) ?_
              refine w_goto 17 dX13_tests_103 rfl ?_
              have e9 := tsV_t hc0 (Or.inl hno)
              refine wp_to ?_ rfl rfl (ih (k + 1) _ none (by omega) ⟨?_, fun j hj => ?_⟩ ?_ ?_ (by omega))
              · rw [e9]; simp [lle, enc2]
              · dsimp only; rw [upd2_off (by decide)]; exact hF2.1
              · dsimp only; rw [upd2_ne (by decide)]; exact hF2.2 j hj
              · dsimp only; rw [upd2_at, e9, ← hm]; rfl
              · exact hQ2.f (by decide) _
            · skip
              have hex : ∃ v, (tsV w k).1 = some v := by
                cases q : (tsV w k).1 with
                | none => rw [q] at c79; exact absurd rfl c79
                | some v => exact ⟨v, rfl⟩
              obtain ⟨v, hv⟩ := hex
              have hv2 : (tsV w k).2 ≤ 32 := tsV_le hC k
              refine w_iload_n 83 dX13_tests_82 rfl rfl ?_
              refine w_aload_n 84 dX13_tests_83 rfl rfl ?_
              refine w_getiv 87 dX13_tests_84 rfl faX13_472 rfl rfl rfl (v := nI (tsV w k).2) (by rw [h28, hv]; rfl) ?_
              refine w_icltN 93 90 dX13_tests_87 rfl rfl (by omega) (by omega) (fun c87 => ?_) (fun c87 => ?_)
              · skip
                have hlt : tsM w k < (tsV w k).2 := by omega
                refine w_iload_n 94 dX13_tests_93 rfl rfl ?_
                refine w_ist1 95 dX13_tests_94 rfl (by decide) rfl ?_
                refine w_aload_n 96 dX13_tests_95 rfl rfl ?_
                refine w_iload_n 97 dX13_tests_96 rfl rfl ?_
                refine w_puti 100 dX13_tests_97 rfl faX13_472 rfl rfl rfl rfl ?_
                refine w_inc2 103 dX13_tests_100 rfl (by decide) rfl (v := nI (_ + 1)) (nI_1 _) ?_
                refine w_goto 17 dX13_tests_103 rfl ?_
                have e9 := tsV_t hc0 (Or.inr hlt)
                refine wp_to ?_ rfl rfl (ih (k + 1) _ none (by omega) ⟨?_, fun j hj => ?_⟩ ?_ ?_ (by omega))
                · rw [e9]; simp [lle, enc2]
                · dsimp only; rw [upd2_off (by decide)]; exact hF2.1
                · dsimp only; rw [upd2_ne (by decide)]; exact hF2.2 j hj
                · dsimp only; rw [upd2_at, e9, ← hm]; rfl
                · exact hQ2.f (by decide) _
              · skip
                have hlt : ¬ tsM w k < (tsV w k).2 := by omega
                refine w_goto 100 dX13_tests_90 rfl ?_
                refine w_inc2 103 dX13_tests_100 rfl (by decide) rfl (v := nI (_ + 1)) (nI_1 _) ?_
                refine w_goto 17 dX13_tests_103 rfl ?_
                have e9 := tsV_f hc0 hv hlt
                refine wp_to ?_ rfl rfl (ih (k + 1) A' none (by omega) hF2 (by rw [e9]; exact h28) hQ2 (by omega))
                rw [e9]; simp [lle]
          · skip
            have hm : tsM w k = liC w k (LN w) := if_pos (by omega)
            refine w_aload_n 56 dX13_tests_55 rfl rfl ?_
            refine w_getr 59 dX13_tests_56 rfl faX13_39 rfl rfl rfl (r := .ref 109) rfl ?_
            refine w_iload_n 60 dX13_tests_59 rfl rfl ?_
            refine w_ialdv 61 dX13_tests_60 rfl rfl rfl (by decide) (by omega) (v := nI (liC w k (LN w))) (hF2.2 k c25) ?_
            refine w_goto 75 dX13_tests_61 rfl ?_
            refine w_ist3 76 dX13_tests_75 rfl (by decide) rfl ?_
            refine w_iload_n 77 dX13_tests_76 rfl rfl ?_
            refine w_bipush 79 dX13_tests_77 rfl (v := (-2)) rfl ?_
            refine w_iceq 93 82 dX13_tests_79 rfl rfl (fun c79 => ?_) (fun c79 => ?_)
            · skip
              have hno : (tsV w k).1 = none := (enc2_m2 (fun v hv => by have := tsV_lt hv; omega)).mp c79
              refine w_iload_n 94 dX13_tests_93 rfl rfl ?_
              refine w_ist1 95 dX13_tests_94 rfl (by decide) rfl ?_
              refine w_aload_n 96 dX13_tests_95 rfl rfl ?_
              refine w_iload_n 97 dX13_tests_96 rfl rfl ?_
              refine w_puti 100 dX13_tests_97 rfl faX13_472 rfl rfl rfl rfl ?_
              refine w_inc2 103 dX13_tests_100 rfl (by decide) rfl (v := nI (_ + 1)) (nI_1 _) ?_
              refine w_goto 17 dX13_tests_103 rfl ?_
              have e9 := tsV_t hc0 (Or.inl hno)
              refine wp_to ?_ rfl rfl (ih (k + 1) _ none (by omega) ⟨?_, fun j hj => ?_⟩ ?_ ?_ (by omega))
              · rw [e9]; simp [lle, enc2]
              · dsimp only; rw [upd2_off (by decide)]; exact hF2.1
              · dsimp only; rw [upd2_ne (by decide)]; exact hF2.2 j hj
              · dsimp only; rw [upd2_at, e9, ← hm]; rfl
              · exact hQ2.f (by decide) _
            · skip
              have hex : ∃ v, (tsV w k).1 = some v := by
                cases q : (tsV w k).1 with
                | none => rw [q] at c79; exact absurd rfl c79
                | some v => exact ⟨v, rfl⟩
              obtain ⟨v, hv⟩ := hex
              have hv2 : (tsV w k).2 ≤ 32 := tsV_le hC k
              refine w_iload_n 83 dX13_tests_82 rfl rfl ?_
              refine w_aload_n 84 dX13_tests_83 rfl rfl ?_
              refine w_getiv 87 dX13_tests_84 rfl faX13_472 rfl rfl rfl (v := nI (tsV w k).2) (by rw [h28, hv]; rfl) ?_
              refine w_icltN 93 90 dX13_tests_87 rfl rfl (by omega) (by omega) (fun c87 => ?_) (fun c87 => ?_)
              · skip
                have hlt : tsM w k < (tsV w k).2 := by omega
                refine w_iload_n 94 dX13_tests_93 rfl rfl ?_
                refine w_ist1 95 dX13_tests_94 rfl (by decide) rfl ?_
                refine w_aload_n 96 dX13_tests_95 rfl rfl ?_
                refine w_iload_n 97 dX13_tests_96 rfl rfl ?_
                refine w_puti 100 dX13_tests_97 rfl faX13_472 rfl rfl rfl rfl ?_
                refine w_inc2 103 dX13_tests_100 rfl (by decide) rfl (v := nI (_ + 1)) (nI_1 _) ?_
                refine w_goto 17 dX13_tests_103 rfl ?_
                have e9 := tsV_t hc0 (Or.inr hlt)
                refine wp_to ?_ rfl rfl (ih (k + 1) _ none (by omega) ⟨?_, fun j hj => ?_⟩ ?_ ?_ (by omega))
                · rw [e9]; simp [lle, enc2]
                · dsimp only; rw [upd2_off (by decide)]; exact hF2.1
                · dsimp only; rw [upd2_ne (by decide)]; exact hF2.2 j hj
                · dsimp only; rw [upd2_at, e9, ← hm]; rfl
                · exact hQ2.f (by decide) _
              · skip
                have hlt : ¬ tsM w k < (tsV w k).2 := by omega
                refine w_goto 100 dX13_tests_90 rfl ?_
                refine w_inc2 103 dX13_tests_100 rfl (by decide) rfl (v := nI (_ + 1)) (nI_1 _) ?_
                refine w_goto 17 dX13_tests_103 rfl ?_
                have e9 := tsV_f hc0 hv hlt
                refine wp_to ?_ rfl rfl (ih (k + 1) A' none (by omega) hF2 (by rw [e9]; exact h28) hQ2 (by omega))
                rw [e9]; simp [lle]
  refine w_aload_n 1 dX13_tests_0 rfl rfl ?_
  refine w_iconst 2 dX13_tests_1 rfl (v := (-1)) rfl ?_
  refine w_inv1 5 dX13_tests_2 rfl mlX13_465 rfl rfl (d' := 4) (by decide) (Nat.le_of_ble_eq_true rfl) (c_X13_fitting hC (fun A3 hF hQ3 => ?_))
  refine w_pop 6 dX13_tests_5 rfl ?_
  refine w_bipush 8 dX13_tests_6 rfl (v := (-2)) rfl ?_
  refine w_ist1 9 dX13_tests_8 rfl (by decide) rfl ?_
  refine w_aload_n 10 dX13_tests_9 rfl rfl ?_
  refine w_bipush 12 dX13_tests_10 rfl (v := (-2)) rfl ?_
  refine w_puti 15 dX13_tests_12 rfl faX13_472 rfl rfl rfl rfl ?_
  refine w_iconst 16 dX13_tests_15 rfl (v := nI 0) rfl ?_
  refine w_ist2 17 dX13_tests_16 rfl (by decide) rfl ?_
  refine wp_eq ?_ rfl rfl (lp17 _ 0 _ none (Nat.zero_le _) ⟨by dsimp only; rw [upd2_off (by decide)]; exact hF.1, fun j hj => by dsimp only; rw [upd2_ne (by decide)]; exact hF.2 j hj⟩ ?_ (hQ3.f (by decide) _) (Nat.lt_succ_self _))
  · rw [tsV_0]; rfl
  · dsimp only; rw [upd2_at, tsV_0]; rfl

