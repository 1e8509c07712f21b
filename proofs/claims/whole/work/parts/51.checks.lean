/-! ===== the reader: checks ===== -/
set_option maxRecDepth 4000 in
theorem c_X5_areUnlike {K : Option Value → AH → Prop} {A0 A : AH} {tp : Nat → Int32} {e p st : Nat} {row : List Nat} {w : WT} {nm : NT} (hO : OffL rdL A0 A) (hR : RS tp e p st row w nm A) (h2 : 2 ≤ row.length) (hf : badU row = true → ∀ A', FL 3 st A' → OffL rdL A0 A' → K (some (.int (b2i false))) A') (hs : badU row = false → K (some (.int (b2i true))) A) : Ct yX5_areUnlike mX5_areUnlike 1 dC gC [.ref 1] A K := by
  refine Ct.of [some (.ref 1), none] rfl rfl rfl (Nat.le_of_ble_eq_true rfl) ?_
  obtain ⟨r1, r2, r3, r4⟩ := id hR.2.1
  have b1 := hR.2.1.lt (row.length - 1)
  have b2 := hR.2.1.lt (row.length - 2)
  refine w_aload_n 1 dX5_areUnlike_0 rfl rfl ?_
  refine w_getiv 4 dX5_areUnlike_1 rfl faX5_150 rfl rfl rfl r1 ?_
  refine w_iconst 5 dX5_areUnlike_4 rfl (v := nI 2) rfl ?_
  refine w_icltN 46 8 dX5_areUnlike_5 rfl rfl (by omega) (by omega) (fun c5 => (by omega)) (fun c5 => ?_)
  refine w_aload_n 9 dX5_areUnlike_8 rfl rfl ?_
  refine w_getiv 12 dX5_areUnlike_9 rfl faX5_150 rfl rfl rfl r1 ?_
  refine w_bipush 14 dX5_areUnlike_12 rfl (v := nI 6) rfl ?_
  refine w_icgtN 46 17 dX5_areUnlike_14 rfl rfl (by omega) (by omega) (fun c14 => (by omega)) (fun c14 => ?_)
  refine w_aload_n 18 dX5_areUnlike_17 rfl rfl ?_
  refine w_getr 21 dX5_areUnlike_18 rfl faX5_18 rfl rfl rfl (r := .ref 6) rfl ?_
  refine w_aload_n 22 dX5_areUnlike_21 rfl rfl ?_
  refine w_getiv 25 dX5_areUnlike_22 rfl faX5_150 rfl rfl rfl r1 ?_
  refine w_iconst 26 dX5_areUnlike_25 rfl (v := nI 1) rfl ?_
  refine w_isubN 27 dX5_areUnlike_26 rfl (by omega) ?_
  refine w_ialdv 28 dX5_areUnlike_27 rfl rfl rfl (by decide) (by omega) (r3 (row.length - 1) (by omega)) ?_
  refine w_aload_n 29 dX5_areUnlike_28 rfl rfl ?_
  refine w_getr 32 dX5_areUnlike_29 rfl faX5_18 rfl rfl rfl (r := .ref 6) rfl ?_
  refine w_aload_n 33 dX5_areUnlike_32 rfl rfl ?_
  refine w_getiv 36 dX5_areUnlike_33 rfl faX5_150 rfl rfl rfl r1 ?_
  refine w_iconst 37 dX5_areUnlike_36 rfl (v := nI 2) rfl ?_
  refine w_isubN 38 dX5_areUnlike_37 rfl h2 ?_
  refine w_ialdv 39 dX5_areUnlike_38 rfl rfl rfl (by decide) (by omega) (r3 (row.length - 2) (by omega)) ?_
  refine w_icneN 46 42 dX5_areUnlike_39 rfl rfl (by omega) (by omega) (fun c39 => ?_) (fun c39 => ?_)
  · skip
    refine w_iconst 47 dX5_areUnlike_46 rfl (v := nI 0) rfl ?_
    refine w_ist1 48 dX5_areUnlike_47 rfl (by decide) rfl ?_
    refine w_iload_n 49 dX5_areUnlike_48 rfl rfl ?_
    refine w_ifeqN 60 52 dX5_areUnlike_49 rfl rfl (by decide) (fun _ => ?_) (fun cc => absurd cc (by decide))
    refine w_iconst 61 dX5_areUnlike_60 rfl (v := nI 1) rfl ?_
    refine w_goto 65 dX5_areUnlike_61 rfl ?_
    refine wr_z dX5_areUnlike_65 rfl (by first | rfl | exact nb_b2i _) ?_
    exact kq (hs (decide_eq_false (fun z => c39 z.2))) rfl
  · skip
    refine w_iconst 43 dX5_areUnlike_42 rfl (v := nI 1) rfl ?_
    refine w_goto 47 dX5_areUnlike_43 rfl ?_
    refine w_ist1 48 dX5_areUnlike_47 rfl (by decide) rfl ?_
    refine w_iload_n 49 dX5_areUnlike_48 rfl rfl ?_
    refine w_ifeqN 60 52 dX5_areUnlike_49 rfl rfl (by decide) (fun cc => absurd cc (by decide)) (fun _ => ?_)
    refine w_aload_n 53 dX5_areUnlike_52 rfl rfl ?_
    refine w_iconst 54 dX5_areUnlike_53 rfl (v := nI 3) rfl ?_
    refine w_inv1 57 dX5_areUnlike_54 rfl mlX5_62 rfl rfl (d' := 0) (by decide) (Nat.le_of_ble_eq_true rfl) (c_X5_failR hR.1.2.2.2.2 hO (fun A2 hF hO2 => ?_))
    refine w_ifeqB 64 60 dX5_areUnlike_57 rfl rfl (fun _ => ?_) (fun cc => by cases cc)
    refine w_iconst 65 dX5_areUnlike_64 rfl (v := nI 0) rfl ?_
    refine wr_z dX5_areUnlike_65 rfl (by first | rfl | exact nb_b2i _) ?_
    exact kq (hf (decide_eq_true ⟨h2, c39⟩) A2 hF hO2) rfl

set_option maxRecDepth 4000 in
theorem c_X5_takeKind {K : Option Value → AH → Prop} {A0 A : AH} {tp : Nat → Int32} {e p st : Nat} {row : List Nat} {w : WT} {nm : NT} (hO : OffL rdL A0 A) (hR : RS tp e p st row w nm A) (hl : row.length < 6) (hf : ∀ f pl, sKd (gB tp) e (p, row) = .inl (f, pl) → ∀ A', FL f pl A' → OffL rdL A0 A' → K (some (.int (b2i false))) A') (hs : ∀ v, sKd (gB tp) e (p, row) = .inr ((tkE (gB tp) e p), row ++ [v]) → v < 1000 → ∀ A', RS tp e (tkE (gB tp) e p) (tkS (gB tp) e p) (row ++ [v]) w nm A' → OffL rdL A0 A' → K (some (.int (b2i true))) A') : Ct yX5_takeKind mX5_takeKind 5 dC gC [.ref 1] A K := by
  refine Ct.of [some (.ref 1)] rfl rfl rfl (Nat.le_of_ble_eq_true rfl) ?_
  refine w_aload_n 1 dX5_takeKind_0 rfl rfl ?_
  refine w_getr 4 dX5_takeKind_1 rfl faX5_25 rfl rfl rfl (r := .ref 7) rfl ?_
  refine w_inv0 7 dX5_takeKind_4 rfl mlX5_69 rfl rfl (d' := 1) (by decide) (Nat.le_of_ble_eq_true rfl) (c_X9_advance hR.1.1 hR.1.2.1 hR.1.2.2.1 hR.1.2.2.2.1 (fun A1 hK hT1 => ?_))
  have hR1 := hR.adv hK hT1
  have hO1 := OffT.r hO hT1
  refine w_aload_n 8 dX5_takeKind_7 rfl rfl ?_
  refine w_getr 11 dX5_takeKind_8 rfl faX5_25 rfl rfl rfl (r := .ref 7) rfl ?_
  refine w_ldcS 13 dX5_takeKind_11 rfl srX5_174 ?_
  refine w_inv1 16 dX5_takeKind_13 rfl mlX5_94 rfl rfl (d' := 4) (by decide) (Nat.le_of_ble_eq_true rfl) (c_X9_isWordT (by decide) hK ?_)
  refine w_ifeqB 25 19 dX5_takeKind_16 rfl rfl (fun c16 => ?_) (fun c16 => ?_)
  · skip
    refine w_aload_n 26 dX5_takeKind_25 rfl rfl ?_
    refine w_getr 29 dX5_takeKind_26 rfl faX5_25 rfl rfl rfl (r := .ref 7) rfl ?_
    refine w_ldcS 31 dX5_takeKind_29 rfl srX5_176 ?_
    refine w_inv1 34 dX5_takeKind_31 rfl mlX5_94 rfl rfl (d' := 4) (by decide) (Nat.le_of_ble_eq_true rfl) (c_X9_isWordT (by decide) hK ?_)
    refine w_ifeqB 43 37 dX5_takeKind_34 rfl rfl (fun c34 => ?_) (fun c34 => ?_)
    · skip
      refine w_aload_n 44 dX5_takeKind_43 rfl rfl ?_
      refine w_getr 47 dX5_takeKind_44 rfl faX5_25 rfl rfl rfl (r := .ref 7) rfl ?_
      refine w_ldcS 49 dX5_takeKind_47 rfl srX5_178 ?_
      refine w_inv1 52 dX5_takeKind_49 rfl mlX5_94 rfl rfl (d' := 4) (by decide) (Nat.le_of_ble_eq_true rfl) (c_X9_isWordT (by decide) hK ?_)
      refine w_ifeqB 61 55 dX5_takeKind_52 rfl rfl (fun c52 => ?_) (fun c52 => ?_)
      · skip
        refine w_aload_n 62 dX5_takeKind_61 rfl rfl ?_
        refine w_getr 65 dX5_takeKind_62 rfl faX5_25 rfl rfl rfl (r := .ref 7) rfl ?_
        refine w_ldcS 67 dX5_takeKind_65 rfl srX5_180 ?_
        refine w_inv1 70 dX5_takeKind_67 rfl mlX5_94 rfl rfl (d' := 4) (by decide) (Nat.le_of_ble_eq_true rfl) (c_X9_isWordT (by decide) hK ?_)
        refine w_ifeqB 81 73 dX5_takeKind_70 rfl rfl (fun c70 => ?_) (fun c70 => ?_)
        · skip
          refine w_aload_n 82 dX5_takeKind_81 rfl rfl ?_
          refine w_iconst 83 dX5_takeKind_82 rfl (v := nI 1) rfl ?_
          refine w_inv1 86 dX5_takeKind_83 rfl mlX5_62 rfl rfl (d' := 0) (by decide) (Nat.le_of_ble_eq_true rfl) (c_X5_failR hR1.1.2.2.2.2 hO1 (fun A2 hF hO2 => ?_))
          refine wr_z dX5_takeKind_86 rfl (by first | rfl | exact nb_b2i _) ?_
          exact kq (hf 1 _ (by unfold sKd; rw [show fst1 (fun i => tkW (gB tp) e p (10 + i)) 4 = none from fst1_none (fun i hi => match i, hi with | 0, _ => c16 | 1, _ => c34 | 2, _ => c52 | 3, _ => c70 | i + 4, hi => absurd hi (by omega))]) A2 hF hO2) rfl
        · skip
          refine w_aload_n 74 dX5_takeKind_73 rfl rfl ?_
          refine w_iconst 75 dX5_takeKind_74 rfl (v := nI 3) rfl ?_
          refine w_inv1 78 dX5_takeKind_75 rfl mlX5_156 rfl rfl (d' := 0) (by decide) (Nat.le_of_ble_eq_true rfl) (c_X5_put (x := 3) hO1 hR1 hl (by decide) (fun A2 hR2 hO2 => ?_))
          refine w_goto 86 dX5_takeKind_78 rfl ?_
          refine wr_z dX5_takeKind_86 rfl (by first | rfl | exact nb_b2i _) ?_
          exact kq (hs 3 (by unfold sKd; rw [show fst1 (fun i => tkW (gB tp) e p (10 + i)) 4 = some 3 from fst1_some (p := (fun i => tkW (gB tp) e p (10 + i))) (i := 3) (fst1_none (fun i hi => match i, hi with | 0, _ => c16 | 1, _ => c34 | 2, _ => c52 | i + 3, hi => absurd hi (by omega))) c70 (by decide)]) (by decide) A2 hR2 hO2) rfl
      · skip
        refine w_aload_n 56 dX5_takeKind_55 rfl rfl ?_
        refine w_iconst 57 dX5_takeKind_56 rfl (v := nI 2) rfl ?_
        refine w_inv1 60 dX5_takeKind_57 rfl mlX5_156 rfl rfl (d' := 0) (by decide) (Nat.le_of_ble_eq_true rfl) (c_X5_put (x := 2) hO1 hR1 hl (by decide) (fun A2 hR2 hO2 => ?_))
        refine wr_z dX5_takeKind_60 rfl (by first | rfl | exact nb_b2i _) ?_
        exact kq (hs 2 (by unfold sKd; rw [show fst1 (fun i => tkW (gB tp) e p (10 + i)) 4 = some 2 from fst1_some (p := (fun i => tkW (gB tp) e p (10 + i))) (i := 2) (fst1_none (fun i hi => match i, hi with | 0, _ => c16 | 1, _ => c34 | i + 2, hi => absurd hi (by omega))) c52 (by decide)]) (by decide) A2 hR2 hO2) rfl
    · skip
      refine w_aload_n 38 dX5_takeKind_37 rfl rfl ?_
      refine w_iconst 39 dX5_takeKind_38 rfl (v := nI 1) rfl ?_
      refine w_inv1 42 dX5_takeKind_39 rfl mlX5_156 rfl rfl (d' := 0) (by decide) (Nat.le_of_ble_eq_true rfl) (c_X5_put (x := 1) hO1 hR1 hl (by decide) (fun A2 hR2 hO2 => ?_))
      refine wr_z dX5_takeKind_42 rfl (by first | rfl | exact nb_b2i _) ?_
      exact kq (hs 1 (by unfold sKd; rw [show fst1 (fun i => tkW (gB tp) e p (10 + i)) 4 = some 1 from fst1_some (p := (fun i => tkW (gB tp) e p (10 + i))) (i := 1) (fst1_none (fun i hi => match i, hi with | 0, _ => c16 | i + 1, hi => absurd hi (by omega))) c34 (by decide)]) (by decide) A2 hR2 hO2) rfl
  · skip
    refine w_aload_n 20 dX5_takeKind_19 rfl rfl ?_
    refine w_iconst 21 dX5_takeKind_20 rfl (v := nI 0) rfl ?_
    refine w_inv1 24 dX5_takeKind_21 rfl mlX5_156 rfl rfl (d' := 0) (by decide) (Nat.le_of_ble_eq_true rfl) (c_X5_put (x := 0) hO1 hR1 hl (by decide) (fun A2 hR2 hO2 => ?_))
    refine wr_z dX5_takeKind_24 rfl (by first | rfl | exact nb_b2i _) ?_
    exact kq (hs 0 (by unfold sKd; rw [show fst1 (fun i => tkW (gB tp) e p (10 + i)) 4 = some 0 from fst1_some (p := (fun i => tkW (gB tp) e p (10 + i))) (i := 0) (rfl) c16 (by decide)]) (by decide) A2 hR2 hO2) rfl

set_option maxRecDepth 4000 in
theorem c_X5_takeHow {K : Option Value → AH → Prop} {A0 A : AH} {tp : Nat → Int32} {e p st : Nat} {row : List Nat} {w : WT} {nm : NT} (hO : OffL rdL A0 A) (hR : RS tp e p st row w nm A) (hl : row.length < 6) (hf : ∀ f pl, sHw (gB tp) e (p, row) = .inl (f, pl) → ∀ A', FL f pl A' → OffL rdL A0 A' → K (some (.int (b2i false))) A') (hs : ∀ v, sHw (gB tp) e (p, row) = .inr ((tkE (gB tp) e p), row ++ [v]) → v < 1000 → ∀ A', RS tp e (tkE (gB tp) e p) (tkS (gB tp) e p) (row ++ [v]) w nm A' → OffL rdL A0 A' → K (some (.int (b2i true))) A') : Ct yX5_takeHow mX5_takeHow 5 dC gC [.ref 1] A K := by
  refine Ct.of [some (.ref 1)] rfl rfl rfl (Nat.le_of_ble_eq_true rfl) ?_
  refine w_aload_n 1 dX5_takeHow_0 rfl rfl ?_
  refine w_getr 4 dX5_takeHow_1 rfl faX5_25 rfl rfl rfl (r := .ref 7) rfl ?_
  refine w_inv0 7 dX5_takeHow_4 rfl mlX5_69 rfl rfl (d' := 1) (by decide) (Nat.le_of_ble_eq_true rfl) (c_X9_advance hR.1.1 hR.1.2.1 hR.1.2.2.1 hR.1.2.2.2.1 (fun A1 hK hT1 => ?_))
  have hR1 := hR.adv hK hT1
  have hO1 := OffT.r hO hT1
  refine w_aload_n 8 dX5_takeHow_7 rfl rfl ?_
  refine w_getr 11 dX5_takeHow_8 rfl faX5_25 rfl rfl rfl (r := .ref 7) rfl ?_
  refine w_ldcS 13 dX5_takeHow_11 rfl srX5_182 ?_
  refine w_inv1 16 dX5_takeHow_13 rfl mlX5_94 rfl rfl (d' := 4) (by decide) (Nat.le_of_ble_eq_true rfl) (c_X9_isWordT (by decide) hK ?_)
  refine w_ifeqB 25 19 dX5_takeHow_16 rfl rfl (fun c16 => ?_) (fun c16 => ?_)
  · skip
    refine w_aload_n 26 dX5_takeHow_25 rfl rfl ?_
    refine w_getr 29 dX5_takeHow_26 rfl faX5_25 rfl rfl rfl (r := .ref 7) rfl ?_
    refine w_ldcS 31 dX5_takeHow_29 rfl srX5_184 ?_
    refine w_inv1 34 dX5_takeHow_31 rfl mlX5_94 rfl rfl (d' := 4) (by decide) (Nat.le_of_ble_eq_true rfl) (c_X9_isWordT (by decide) hK ?_)
    refine w_ifeqB 45 37 dX5_takeHow_34 rfl rfl (fun c34 => ?_) (fun c34 => ?_)
    · skip
      refine w_aload_n 46 dX5_takeHow_45 rfl rfl ?_
      refine w_iconst 47 dX5_takeHow_46 rfl (v := nI 1) rfl ?_
      refine w_inv1 50 dX5_takeHow_47 rfl mlX5_62 rfl rfl (d' := 0) (by decide) (Nat.le_of_ble_eq_true rfl) (c_X5_failR hR1.1.2.2.2.2 hO1 (fun A2 hF hO2 => ?_))
      refine wr_z dX5_takeHow_50 rfl (by first | rfl | exact nb_b2i _) ?_
      exact kq (hf 1 _ (by unfold sHw; rw [if_neg (by rw [c16]; decide), if_neg (by rw [c34]; decide)]) A2 hF hO2) rfl
    · skip
      refine w_aload_n 38 dX5_takeHow_37 rfl rfl ?_
      refine w_iconst 39 dX5_takeHow_38 rfl (v := nI 0) rfl ?_
      refine w_inv1 42 dX5_takeHow_39 rfl mlX5_156 rfl rfl (d' := 0) (by decide) (Nat.le_of_ble_eq_true rfl) (c_X5_put (x := 0) hO1 hR1 hl (by decide) (fun A2 hR2 hO2 => ?_))
      refine w_goto 50 dX5_takeHow_42 rfl ?_
      refine wr_z dX5_takeHow_50 rfl (by first | rfl | exact nb_b2i _) ?_
      exact kq (hs 0 (by unfold sHw; rw [if_neg (by rw [c16]; decide), if_pos c34]) (by decide) A2 hR2 hO2) rfl
  · skip
    refine w_aload_n 20 dX5_takeHow_19 rfl rfl ?_
    refine w_iconst 21 dX5_takeHow_20 rfl (v := nI 1) rfl ?_
    refine w_inv1 24 dX5_takeHow_21 rfl mlX5_156 rfl rfl (d' := 0) (by decide) (Nat.le_of_ble_eq_true rfl) (c_X5_put (x := 1) hO1 hR1 hl (by decide) (fun A2 hR2 hO2 => ?_))
    refine wr_z dX5_takeHow_24 rfl (by first | rfl | exact nb_b2i _) ?_
    exact kq (hs 1 (by unfold sHw; rw [if_pos c16]) (by decide) A2 hR2 hO2) rfl

theorem foesTo_lt {w : WT} {t : Nat} : ∀ {n : Nat}, (∀ i, i < n → w.2 3 i 0 < 8 ∧ w.2 3 i 1 < 8) → foesTo w t n < 2 ^ 8
  | 0, _ => by simp [foesTo]
  | n + 1, h => by
    have ih := foesTo_lt (t := t) (n := n) (fun i hi => h i (by omega))
    obtain ⟨h0, h1⟩ := h n (by omega)
    simp only [foesTo]
    refine Nat.or_lt_two_pow ih ?_
    have p0 : 2 ^ (w.2 3 n 0) < 2 ^ 8 := Nat.pow_lt_pow_right (by decide) h0
    have p1 : 2 ^ (w.2 3 n 1) < 2 ^ 8 := Nat.pow_lt_pow_right (by decide) h1
    split
    · exact p1
    · split
      · exact p0
      · decide
set_option maxRecDepth 4000 in
theorem c_X5_isNewClash {K : Option Value → AH → Prop} {A0 A : AH} {tp : Nat → Int32} {e p st : Nat} {row : List Nat} {w : WT} {nm : NT} (hO : OffL rdL A0 A) (hR : RS tp e p st row w nm A) (hc : clOK w) (hu : row.getD 1 0 < 8) (hf : ((foesTo w (row.getD 0 0) (w.1 3)).testBit (row.getD 1 0)) = true → ∀ A', FL 3 st A' → OffL rdL A0 A' → K (some (.int (b2i false))) A') (hs : ((foesTo w (row.getD 0 0) (w.1 3)).testBit (row.getD 1 0)) = false → K (some (.int (b2i true))) A) : Ct yX5_isNewClash mX5_isNewClash 2 dC gC [.ref 1] A K := by
  refine Ct.of [some (.ref 1), none] rfl rfl rfl (Nat.le_of_ble_eq_true rfl) ?_
  obtain ⟨r1, r2, r3, r4⟩ := id hR.2.1
  have b0 := hR.2.1.lt 0
  have hfl := foesTo_lt (t := row.getD 0 0) hc
  refine w_aload_n 1 dX5_isNewClash_0 rfl rfl ?_
  refine w_getr 4 dX5_isNewClash_1 rfl faX5_32 rfl rfl rfl (r := .ref 9) rfl ?_
  refine w_aload_n 5 dX5_isNewClash_4 rfl rfl ?_
  refine w_getr 8 dX5_isNewClash_5 rfl faX5_18 rfl rfl rfl (r := .ref 6) rfl ?_
  refine w_iconst 9 dX5_isNewClash_8 rfl (v := nI 0) rfl ?_
  refine w_ialdv 10 dX5_isNewClash_9 rfl rfl rfl (by decide) (by omega) (r3 0 (by decide)) ?_
  refine w_inv1 13 dX5_isNewClash_10 rfl mlX5_185 rfl rfl (d' := 1) (by decide) (Nat.le_of_ble_eq_true rfl) (c_X10_clashingWith_9 hR.2.2.1 hc (by omega) ?_)
  refine w_aload_n 14 dX5_isNewClash_13 rfl rfl ?_
  refine w_getr 17 dX5_isNewClash_14 rfl faX5_18 rfl rfl rfl (r := .ref 6) rfl ?_
  refine w_iconst 18 dX5_isNewClash_17 rfl (v := nI 1) rfl ?_
  refine w_ialdv 19 dX5_isNewClash_18 rfl rfl rfl (by decide) (by omega) (r3 1 (by decide)) ?_
  refine w_invs2 22 dX5_isNewClash_19 rfl slX5_188 (d' := 0) (by decide) (Nat.le_of_ble_eq_true rfl) (c_X11_has ?_)
  rw [hasB_nI (by omega) (by omega)]
  refine w_ist1 23 dX5_isNewClash_22 rfl (by decide) rfl ?_
  refine w_iload_n 24 dX5_isNewClash_23 rfl rfl ?_
  refine w_ifeqB 35 27 dX5_isNewClash_24 rfl rfl (fun c24 => ?_) (fun c24 => ?_)
  · skip
    refine w_iconst 36 dX5_isNewClash_35 rfl (v := nI 1) rfl ?_
    refine w_goto 40 dX5_isNewClash_36 rfl ?_
    refine wr_z dX5_isNewClash_40 rfl (by first | rfl | exact nb_b2i _) ?_
    exact kq (hs c24) rfl
  · skip
    refine w_aload_n 28 dX5_isNewClash_27 rfl rfl ?_
    refine w_iconst 29 dX5_isNewClash_28 rfl (v := nI 3) rfl ?_
    refine w_inv1 32 dX5_isNewClash_29 rfl mlX5_62 rfl rfl (d' := 0) (by decide) (Nat.le_of_ble_eq_true rfl) (c_X5_failR hR.1.2.2.2.2 hO (fun A2 hF hO2 => ?_))
    refine w_ifeqB 39 35 dX5_isNewClash_32 rfl rfl (fun _ => ?_) (fun cc => by cases cc)
    refine w_iconst 40 dX5_isNewClash_39 rfl (v := nI 0) rfl ?_
    refine wr_z dX5_isNewClash_40 rfl (by first | rfl | exact nb_b2i _) ?_
    exact kq (hf c24 A2 hF hO2) rfl

set_option maxRecDepth 4000 in
theorem c_X5_isNewUnsure {K : Option Value → AH → Prop} {A0 A : AH} {tp : Nat → Int32} {e p st : Nat} {row : List Nat} {w : WT} {nm : NT} (hO : OffL rdL A0 A) (hR : RS tp e p st row w nm A) (h6 : w.1 6 ≤ 5) (hsm : smW w) (hf : badQ w row = true → ∀ A', FL 3 st A' → OffL rdL A0 A' → K (some (.int (b2i false))) A') (hs : badQ w row = false → K (some (.int (b2i true))) A) : Ct yX5_isNewUnsure mX5_isNewUnsure 2 dC gC [.ref 1] A K := by
  refine Ct.of [some (.ref 1), none] rfl rfl rfl (Nat.le_of_ble_eq_true rfl) ?_
  obtain ⟨r1, r2, r3, r4⟩ := id hR.2.1
  have b0 := hR.2.1.lt 0
  have lp2 : ∀ (nf : Nat) (i : Nat), i ≤ w.1 6 → fst1 (fun k => decide (w.2 6 k 0 = row.getD 0 0)) i = none → w.1 6 - i < nf → WP mX5_isNewUnsure 2 dC gC 2 [some (.ref 1), some (.int (nI i))] [] A K := by
    intro nf
    induction nf with
    | zero => intros; omega
    | succ nf ih =>
      intro i hi hq hms
      refine w_iload_n 3 dX5_isNewUnsure_2 rfl rfl ?_
      refine w_aload_n 4 dX5_isNewUnsure_3 rfl rfl ?_
      refine w_getr 7 dX5_isNewUnsure_4 rfl faX5_32 rfl rfl rfl (r := .ref 9) rfl ?_
      refine w_bipush 9 dX5_isNewUnsure_7 rfl (v := nI 6) rfl ?_
      refine w_inv1 12 dX5_isNewUnsure_9 rfl mlX5_58 rfl rfl (d' := 1) (by decide) (Nat.le_of_ble_eq_true rfl) (c_X10_howMany_9 hR.2.2.1 (by decide) ?_)
      refine w_icgeN 47 15 dX5_isNewUnsure_12 rfl rfl (by omega) (by omega) (fun c12 => ?_) (fun c12 => ?_)
      · skip
        refine w_iconst 48 dX5_isNewUnsure_47 rfl (v := nI 1) rfl ?_
        refine wr_z dX5_isNewUnsure_48 rfl (by first | rfl | exact nb_b2i _) ?_
        have e1 : i = w.1 6 := by omega
        subst e1
        exact kq (hs (by rw [badQ, hq]; rfl)) rfl
      · skip
        refine w_aload_n 16 dX5_isNewUnsure_15 rfl rfl ?_
        refine w_getr 19 dX5_isNewUnsure_16 rfl faX5_32 rfl rfl rfl (r := .ref 9) rfl ?_
        refine w_bipush 21 dX5_isNewUnsure_19 rfl (v := nI 6) rfl ?_
        refine w_iload_n 22 dX5_isNewUnsure_21 rfl rfl ?_
        refine w_iconst 23 dX5_isNewUnsure_22 rfl (v := nI 0) rfl ?_
        refine w_inv3 26 dX5_isNewUnsure_23 rfl mlX5_191 rfl rfl (d' := 1) (by decide) (Nat.le_of_ble_eq_true rfl) (c_X10_cell_9 hR.2.2.1 (by decide) (by omega) (by decide) ?_)
        rw [tbz_in c12]
        have hb := hsm 6 i 0 (by decide) c12 (by decide)
        refine w_aload_n 27 dX5_isNewUnsure_26 rfl rfl ?_
        refine w_getr 30 dX5_isNewUnsure_27 rfl faX5_18 rfl rfl rfl (r := .ref 6) rfl ?_
        refine w_iconst 31 dX5_isNewUnsure_30 rfl (v := nI 0) rfl ?_
        refine w_ialdv 32 dX5_isNewUnsure_31 rfl rfl rfl (by decide) (by omega) (r3 0 (by decide)) ?_
        refine w_icneN 41 35 dX5_isNewUnsure_32 rfl rfl (by omega) (by omega) (fun c32 => ?_) (fun c32 => ?_)
        · skip
          refine w_inc1 44 dX5_isNewUnsure_41 rfl (by decide) rfl (v := nI (_ + 1)) (nI_1 _) ?_
          refine w_goto 2 dX5_isNewUnsure_44 rfl ?_
          exact ih (i + 1) (by omega) (by simp only [fst1, hq]; rw [if_neg (fun z => c32 (of_decide_eq_true z))]) (by omega)
        · skip
          refine w_aload_n 36 dX5_isNewUnsure_35 rfl rfl ?_
          refine w_iconst 37 dX5_isNewUnsure_36 rfl (v := nI 3) rfl ?_
          refine w_inv1 40 dX5_isNewUnsure_37 rfl mlX5_62 rfl rfl (d' := 0) (by decide) (Nat.le_of_ble_eq_true rfl) (c_X5_failR hR.1.2.2.2.2 hO (fun A2 hF hO2 => ?_))
          refine wr_z dX5_isNewUnsure_40 rfl (by first | rfl | exact nb_b2i _) ?_
          exact kq (hf (by rw [badQ, fst1_some hq (decide_eq_true c32) c12]; rfl) A2 hF hO2) rfl
  refine w_iconst 1 dX5_isNewUnsure_0 rfl (v := nI 0) rfl ?_
  refine w_ist1 2 dX5_isNewUnsure_1 rfl (by decide) rfl ?_
  exact lp2 _ 0 (Nat.zero_le _) rfl (Nat.lt_succ_self _)

set_option maxRecDepth 4000 in
theorem c_X5_clearRow {K : Option Value → AH → Prop} {A0 A : AH} {tp : Nat → Int32} {e p st : Nat} {w : WT} {nm : NT} (hO : OffL rdL A0 A) (hR : RT7 tp e p st A) (hT : RepT w 9 A) (hN : RepN nm A) (h0 : R0 A) (h : ∀ A', RS tp e p st [] w nm A' → OffL rdL A0 A' → K none A') : Ct yX5_clearRow mX5_clearRow 0 dC gC [.ref 1] A K := by
  refine Ct.of [some (.ref 1), none] rfl rfl rfl (Nat.le_of_ble_eq_true rfl) ?_
  have lp2 : ∀ (nf : Nat) (i : Nat) (A' : AH), i ≤ 6 → OffL [6] A A' → (∀ k, k < i → A'.1 6 k = nI 0) → 6 - i < nf → WP mX5_clearRow 0 dC gC 2 [some (.ref 1), some (.int (nI i))] [] A' K := by
    intro nf
    induction nf with
    | zero => intros; omega
    | succ nf ih =>
      intro i A' hi hO2 hz hms
      refine w_iload_n 3 dX5_clearRow_2 rfl rfl ?_
      refine w_bipush 5 dX5_clearRow_3 rfl (v := nI 6) rfl ?_
      refine w_icgeN 21 8 dX5_clearRow_5 rfl rfl (by omega) (by omega) (fun c5 => ?_) (fun c5 => ?_)
      · skip
        refine w_aload_n 22 dX5_clearRow_21 rfl rfl ?_
        refine w_iconst 23 dX5_clearRow_22 rfl (v := nI 0) rfl ?_
        refine w_puti 26 dX5_clearRow_23 rfl faX5_150 rfl rfl rfl rfl ?_
        refine wr_v dX5_clearRow_26 rfl ?_
        have e6 : i = 6 := by omega
        subst e6
        obtain ⟨h1, h2, h3, h4, h5⟩ := hR
        refine h _ ⟨⟨h1.cong (by dsimp only; rw [upd2_ne (by decide)]; exact (hO2 8 (by decide)).1), ?_, ?_, h4, ?_⟩, ⟨?_, by decide, fun i hi => ?_, fun v hv => absurd hv List.not_mem_nil⟩, hT.cong (fun x a b => by dsimp only; rw [upd2_ne (by omega)]; exact (hO2 x (by simp; omega)).1), hN.cong ?_ ?_ ?_ ?_, ?_, ?_⟩ ((hO.tr (hO2.mono (by decide))).upd (by decide) _ _)
        · dsimp only; rw [upd2_ne (by decide), (hO2 7 (by decide)).1]; exact h2
        · dsimp only; rw [upd2_ne (by decide), (hO2 7 (by decide)).1]; exact h3
        · dsimp only; rw [upd2_ne (by decide), (hO2 7 (by decide)).1]; exact h5
        · dsimp only; rw [upd2_at]; rfl
        · dsimp only
          rw [upd2_ne (by decide), hz i hi]
          simp
        · dsimp only; rw [upd2_ne (by decide)]; exact (hO2 2 (by decide)).1
        · exact (hO2 3 (by decide)).2
        · dsimp only; rw [upd2_ne (by decide)]; exact (hO2 4 (by decide)).1
        · dsimp only; rw [upd2_ne (by decide)]; exact (hO2 5 (by decide)).1
        · dsimp only; rw [upd2_off (by decide), (hO2 1 (by decide)).1]; exact h0.1
        · dsimp only; rw [upd2_off (by decide), (hO2 1 (by decide)).1]; exact h0.2
      · skip
        refine w_aload_n 9 dX5_clearRow_8 rfl rfl ?_
        refine w_getr 12 dX5_clearRow_9 rfl faX5_18 rfl rfl rfl (r := .ref 6) rfl ?_
        refine w_iload_n 13 dX5_clearRow_12 rfl rfl ?_
        refine w_iconst 14 dX5_clearRow_13 rfl (v := nI 0) rfl ?_
        refine w_iastN 15 dX5_clearRow_14 rfl rfl rfl (by decide) (by omega) ?_
        refine w_inc1 18 dX5_clearRow_15 rfl (by decide) rfl (v := nI (_ + 1)) (nI_1 _) ?_
        refine w_goto 2 dX5_clearRow_18 rfl ?_
        refine ih (i + 1) _ (by omega) (hO2.upd (by decide) _ _) (fun k hk => ?_) (by omega)
        dsimp only
        by_cases q : k = i
        · subst q; exact upd2_at
        · rw [upd2_off q]; exact hz k (by omega)
  refine w_iconst 1 dX5_clearRow_0 rfl (v := nI 0) rfl ?_
  refine w_ist1 2 dX5_clearRow_1 rfl (by decide) rfl ?_
  exact lp2 _ 0 A (Nat.zero_le _) OffL.rf (fun k hk => absurd hk (Nat.not_lt_zero k)) (Nat.lt_succ_self _)

set_option maxRecDepth 4000 in
theorem c_X5_goesOn {K : Option Value → AH → Prop} {A0 A : AH} {tp : Nat → Int32} {e p st : Nat} {row : List Nat} {w : WT} {nm : NT} (hO : OffL rdL A0 A) (hR : RS tp e p st row w nm A) (h0 : tkK (gB tp) e p = 0 → ∀ A', RS tp e (tkE (gB tp) e p) (tkS (gB tp) e p) row w nm A' → OffL rdL A0 A' → K (some (.int (b2i false))) A') (h3 : tkK (gB tp) e p = 3 → ∀ A', RS tp e (tkE (gB tp) e p) (tkS (gB tp) e p) row w nm A' → OffL rdL A0 A' → K (some (.int (b2i true))) A') (hf : tkK (gB tp) e p ≠ 0 → tkK (gB tp) e p ≠ 3 → ∀ A', FL 1 (tkS (gB tp) e p) A' → OffL rdL A0 A' → K (some (.int (b2i false))) A') : Ct yX5_goesOn mX5_goesOn 2 dC gC [.ref 1] A K := by
  refine Ct.of [some (.ref 1)] rfl rfl rfl (Nat.le_of_ble_eq_true rfl) ?_
  refine w_aload_n 1 dX5_goesOn_0 rfl rfl ?_
  refine w_getr 4 dX5_goesOn_1 rfl faX5_25 rfl rfl rfl (r := .ref 7) rfl ?_
  refine w_inv0 7 dX5_goesOn_4 rfl mlX5_69 rfl rfl (d' := 1) (by decide) (Nat.le_of_ble_eq_true rfl) (c_X9_advance hR.1.1 hR.1.2.1 hR.1.2.2.1 hR.1.2.2.2.1 (fun A1 hK hT1 => ?_))
  have hR1 := hR.adv hK hT1
  have hO1 := OffT.r hO hT1
  refine w_aload_n 8 dX5_goesOn_7 rfl rfl ?_
  refine w_getr 11 dX5_goesOn_8 rfl faX5_25 rfl rfl rfl (r := .ref 7) rfl ?_
  refine w_getiv 14 dX5_goesOn_11 rfl faX5_72 rfl rfl rfl hK.2.2.1 ?_
  refine w_ifneN 19 17 dX5_goesOn_14 rfl rfl (by have := tkK_le (gB tp) e p; omega) (fun c14 => ?_) (fun c14 => ?_)
  · skip
    refine w_aload_n 20 dX5_goesOn_19 rfl rfl ?_
    refine w_getr 23 dX5_goesOn_20 rfl faX5_25 rfl rfl rfl (r := .ref 7) rfl ?_
    refine w_getiv 26 dX5_goesOn_23 rfl faX5_72 rfl rfl rfl hK.2.2.1 ?_
    refine w_iconst 27 dX5_goesOn_26 rfl (v := nI 3) rfl ?_
    refine w_iceqN 38 30 dX5_goesOn_27 rfl rfl (by have := tkK_le (gB tp) e p; omega) (by omega) (fun c27 => ?_) (fun c27 => ?_)
    · skip
      refine w_iconst 39 dX5_goesOn_38 rfl (v := nI 1) rfl ?_
      refine w_goto 43 dX5_goesOn_39 rfl ?_
      refine wr_z dX5_goesOn_43 rfl (by first | rfl | exact nb_b2i _) ?_
      exact kq (h3 c27 A1 hR1 hO1) rfl
    · skip
      refine w_aload_n 31 dX5_goesOn_30 rfl rfl ?_
      refine w_iconst 32 dX5_goesOn_31 rfl (v := nI 1) rfl ?_
      refine w_inv1 35 dX5_goesOn_32 rfl mlX5_62 rfl rfl (d' := 0) (by decide) (Nat.le_of_ble_eq_true rfl) (c_X5_failR hR1.1.2.2.2.2 hO1 (fun A2 hF hO2 => ?_))
      refine w_ifeqB 42 38 dX5_goesOn_35 rfl rfl (fun _ => ?_) (fun cc => by cases cc)
      refine w_iconst 43 dX5_goesOn_42 rfl (v := nI 0) rfl ?_
      refine wr_z dX5_goesOn_43 rfl (by first | rfl | exact nb_b2i _) ?_
      exact kq (hf c14 c27 A2 hF hO2) rfl
  · skip
    refine w_iconst 18 dX5_goesOn_17 rfl (v := nI 0) rfl ?_
    refine wr_z dX5_goesOn_18 rfl (by first | rfl | exact nb_b2i _) ?_
    exact kq (h0 c14 A1 hR1 hO1) rfl

