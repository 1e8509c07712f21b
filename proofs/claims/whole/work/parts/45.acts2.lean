/-! ===== spin, undo, image, back ===== -/
set_option maxRecDepth 4000 in
theorem a_X11_spin {K : Option Value → AH → Prop} {A : AH} {w : WT} {s : Nat → Nat} {H I : Nat → Nat → Nat} {nx c m : Nat} {k : Int32} (hC : CI w s A) (hP : RepP H I nx c m A) (hf : tSpin w s k ≠ 0 → ∀ A', Qk A A' → A'.1 0 8 = nI (tSpin w s k) → K (some (.int (-1))) A') (hs : tSpin w s k = 0 → ∀ A', CI w (spS w s (cl k)) A' → RepP (pushH s H) I ((nx + 1) % 16) (kpC c) m A' → Qa A A' → A'.1 0 8 = nI 0 → K (some (.int (nI (s 1)))) A') : WP mX11_spin 3 dC gC 24 [some (.ref 0), some (.int k)] [.int (nI (if s 1 < 8 then 0 else 3)), .int (nI (t1 (okR (w.1 5) k))), .ref 0] A K := by
  refine w_invs2 27 dX11_spin_24 rfl slX11_126 (d' := 0) (by decide) (Nat.le_of_ble_eq_true rfl) (c_X11_firstOfN (Nat.lt_of_le_of_lt (t1_le _) (by decide)) ?_)
  rw [tX_first]
  rw [show tX (okR (w.1 5) k) (if s 1 < 8 then 0 else 3) = tSpin w s k from rfl]
  refine w_inv1 30 dX11_spin_27 rfl mlX11_87 rfl rfl (d' := 0) (by decide) (Nat.le_of_ble_eq_true rfl) (c_X11_refused (by unfold tSpin; unfold tX; split <;> (try split) <;> omega) ?_)
  refine w_ifeqB 35 33 dX11_spin_30 rfl rfl (fun c30 => ?_) (fun c30 => ?_)
  · skip
    have hz : tSpin w s k = 0 := Decidable.not_not.mp (of_decide_eq_false c30)
    have hC1 := hC.off (hC.ref (nI (tSpin w s k)))
    have hP1 := hP.offq (hC.ref (nI (tSpin w s k)))
    obtain ⟨k1, k2⟩ := tX_0 hz
    have h8 : s 1 < 8 := by split at k2 <;> simp_all
    have h5 := hC.2.1.2.2.2.2.1.2.2.2
    obtain ⟨k, rfl, hk⟩ := okR_of k1 (by omega)
    have hcl := cl_nI (show k < 2 ^ 31 by omega)
    obtain ⟨o1, o2, o3⟩ := hC.2.1.2.2.1.2 k
    rw [tbz_in hk] at o1 o2 o3
    refine w_aload_n 36 dX11_spin_35 rfl rfl ?_
    refine w_getr 39 dX11_spin_36 rfl faX11_33 rfl rfl rfl (r := .ref 45) rfl ?_
    refine w_aload_n 40 dX11_spin_39 rfl rfl ?_
    refine w_getr 43 dX11_spin_40 rfl faX11_26 rfl rfl rfl (r := .ref 43) rfl ?_
    refine w_inv1 46 dX11_spin_43 rfl mlX11_320 rfl rfl (d' := 2) (by decide) (Nat.le_of_ble_eq_true rfl) (c_X4_keep hP1 hC1.2.2.1 (fun A3 hP3 hO3 => ?_))
    have hS3 : RepS s A3 := hC1.2.2.1.cong (hO3 44 (by decide)).1
    have hT3 : RepT w 26 A3 := hC1.1.cong (fun x a b => (hO3 x (by intro z; simp at z; omega)).1)
    refine w_aload_n 47 dX11_spin_46 rfl rfl ?_
    refine w_getr 50 dX11_spin_47 rfl faX11_26 rfl rfl rfl (r := .ref 43) rfl ?_
    refine w_aload_n 51 dX11_spin_50 rfl rfl ?_
    refine w_getr 54 dX11_spin_51 rfl faX11_19 rfl rfl rfl (r := .ref 26) rfl ?_
    refine w_iconst 55 dX11_spin_54 rfl (v := nI 5) rfl ?_
    refine w_iload_n 56 dX11_spin_55 rfl rfl ?_
    refine w_iconst 57 dX11_spin_56 rfl (v := nI 0) rfl ?_
    refine w_inv3 60 dX11_spin_57 rfl mlX11_206 rfl rfl (d' := 1) (by decide) (Nat.le_of_ble_eq_true rfl) (c_X10_cell_26 hT3 (by decide) (by omega) (by decide) ?_)
    refine w_aload_n 61 dX11_spin_60 rfl rfl ?_
    refine w_getr 64 dX11_spin_61 rfl faX11_19 rfl rfl rfl (r := .ref 26) rfl ?_
    refine w_iconst 65 dX11_spin_64 rfl (v := nI 5) rfl ?_
    refine w_iload_n 66 dX11_spin_65 rfl rfl ?_
    refine w_iconst 67 dX11_spin_66 rfl (v := nI 1) rfl ?_
    refine w_inv3 70 dX11_spin_67 rfl mlX11_206 rfl rfl (d' := 1) (by decide) (Nat.le_of_ble_eq_true rfl) (c_X10_cell_26 hT3 (by decide) (by omega) (by decide) ?_)
    refine w_aload_n 71 dX11_spin_70 rfl rfl ?_
    refine w_getr 74 dX11_spin_71 rfl faX11_19 rfl rfl rfl (r := .ref 26) rfl ?_
    refine w_iconst 75 dX11_spin_74 rfl (v := nI 5) rfl ?_
    refine w_iload_n 76 dX11_spin_75 rfl rfl ?_
    refine w_iconst 77 dX11_spin_76 rfl (v := nI 2) rfl ?_
    refine w_inv3 80 dX11_spin_77 rfl mlX11_206 rfl rfl (d' := 1) (by decide) (Nat.le_of_ble_eq_true rfl) (c_X10_cell_26 hT3 (by decide) (by omega) (by decide) ?_)
    rw [tbz_in hk, tbz_in hk, tbz_in hk]
    refine w_inv3 83 dX11_spin_80 rfl mlX11_329 rfl rfl (d' := 2) (by decide) (Nat.le_of_ble_eq_true rfl) (c_X7_addKept hS3 h8 (fun A4 hS4 hO5 => ?_))
    have hO4 : OffL [44, 45, 46] _ A4 := (hO3.mono (by intro x hx; simp at hx ⊢; omega)).tr (hO5.l.mono (by intro x hx; simp at hx ⊢; omega))
    have hQ4 := Qa.sub hC1.2.2.2.2 hO4 (by decide) (by decide) (by decide)
    have hC4 : CI w (spS w s k) A4 := hC1.chg hQ4 hS4 (addR_ok hC.2.2.2.1 h8 o1 o2 o3)
    have hP4 : RepP (pushH s H) I ((nx + 1) % 16) (kpC c) m A4 := hP3.cng (hO5.2 45 (by decide)) (hO5.2 46 (by decide)) (hO5.2 47 (by decide))
    refine w_aload_n 84 dX11_spin_83 rfl rfl ?_
    refine w_getr 87 dX11_spin_84 rfl faX11_26 rfl rfl rfl (r := .ref 43) rfl ?_
    refine w_inv0 90 dX11_spin_87 rfl mlX11_164 rfl rfl (d' := 0) (by decide) (Nat.le_of_ble_eq_true rfl) (c_X7_threads hC4.2.2.1 ?_)
    rw [show spS w s k 1 = s 1 + 1 from addR_1]
    refine w_iconst 91 dX11_spin_90 rfl (v := nI 1) rfl ?_
    refine w_isubN 92 dX11_spin_91 rfl (by omega) ?_
    refine wr_i dX11_spin_92 rfl ?_
    rw [hcl] at hs
    exact kq (hs hz _ hC4 hP4 ((hC.ref _).a.tr hQ4) (by rw [(hO4 0 (by decide)).1, ← hz]; exact upd2_at)) (by rw [Nat.add_sub_cancel])
  · skip
    refine w_iconst 34 dX11_spin_33 rfl (v := (-1)) rfl ?_
    refine wr_i dX11_spin_34 rfl ?_
    exact hf (of_decide_eq_true c30) _ (hC.ref _) (by dsimp only; rw [upd2_at])

set_option maxRecDepth 4000 in
theorem c_X11_spin {K : Option Value → AH → Prop} {A : AH} {w : WT} {s : Nat → Nat} {H I : Nat → Nat → Nat} {nx c m : Nat} {k : Int32} (hC : CI w s A) (hP : RepP H I nx c m A) (hf : tSpin w s k ≠ 0 → ∀ A', Qk A A' → A'.1 0 8 = nI (tSpin w s k) → K (some (.int (-1))) A') (hs : tSpin w s k = 0 → ∀ A', CI w (spS w s (cl k)) A' → RepP (pushH s H) I ((nx + 1) % 16) (kpC c) m A' → Qa A A' → A'.1 0 8 = nI 0 → K (some (.int (nI (s 1)))) A') : Ct yX11_spin mX11_spin 3 dC gC [.ref 0, .int k] A K := by
  refine Ct.of [some (.ref 0), some (.int k)] rfl rfl rfl (Nat.le_of_ble_eq_true rfl) ?_
  refine w_aload_n 1 dX11_spin_0 rfl rfl ?_
  refine w_aload_n 2 dX11_spin_1 rfl rfl ?_
  refine w_iconst 3 dX11_spin_2 rfl (v := nI 5) rfl ?_
  refine w_iload_n 4 dX11_spin_3 rfl rfl ?_
  refine w_inv2 7 dX11_spin_4 rfl mlX11_238 rfl rfl (d' := 2) (by decide) (Nat.le_of_ble_eq_true rfl) (c_X11_needRow hC (by decide) ?_)
  refine w_aload_n 8 dX11_spin_7 rfl rfl ?_
  refine w_getr 11 dX11_spin_8 rfl faX11_26 rfl rfl rfl (r := .ref 43) rfl ?_
  refine w_inv0 14 dX11_spin_11 rfl mlX11_164 rfl rfl (d' := 0) (by decide) (Nat.le_of_ble_eq_true rfl) (c_X7_threads hC.2.2.1 ?_)
  refine w_bipush 16 dX11_spin_14 rfl (v := nI 8) rfl ?_
  refine w_icgeN 23 19 dX11_spin_16 rfl rfl (by have := hC.2.2.2.1.2.1; omega) (by omega) (fun c16 => ?_) (fun c16 => ?_)
  · skip
    refine w_iconst 24 dX11_spin_23 rfl (v := nI 3) rfl ?_
    refine wp_eq rfl ?_ rfl (a_X11_spin hC hP hf hs)
    rw [if_neg (Nat.not_lt.mpr c16)]
    rfl
  · skip
    refine w_iconst 20 dX11_spin_19 rfl (v := nI 0) rfl ?_
    refine w_goto 24 dX11_spin_20 rfl ?_
    refine wp_eq rfl ?_ rfl (a_X11_spin hC hP hf hs)
    rw [if_pos c16]
    rfl

set_option maxRecDepth 4000 in
theorem a_X11_image {K : Option Value → AH → Prop} {A : AH} {w : WT} {s : Nat → Nat} {H I : Nat → Nat → Nat} {nx c m : Nat} (hC : CI w s A) (hP : RepP H I nx c m A) (hf : tImage w m ≠ 0 → ∀ A', Qk A A' → A'.1 0 8 = nI (tImage w m) → K (some (.int (-1))) A') (hs : tImage w m = 0 → ∀ A', CI w (s) A' → RepP H (fun i => if i = m then s else I i) nx c (m + 1) A' → Qa A A' → A'.1 0 8 = nI 0 → K (some (.int (nI m))) A') : WP mX11_image 3 dC gC 21 [some (.ref 0)] [.int (nI (if m < 3 then 0 else 3)), .int (nI (t1 (okW1 w))), .ref 0] A K := by
  refine w_invs2 24 dX11_image_21 rfl slX11_126 (d' := 0) (by decide) (Nat.le_of_ble_eq_true rfl) (c_X11_firstOfN (Nat.lt_of_le_of_lt (t1_le _) (by decide)) ?_)
  rw [tX_first]
  rw [show tX (okW1 w) (if m < 3 then 0 else 3) = tImage w m from rfl]
  refine w_inv1 27 dX11_image_24 rfl mlX11_87 rfl rfl (d' := 0) (by decide) (Nat.le_of_ble_eq_true rfl) (c_X11_refused (by unfold tImage; unfold tX; split <;> (try split) <;> omega) ?_)
  refine w_ifeqB 32 30 dX11_image_27 rfl rfl (fun c27 => ?_) (fun c27 => ?_)
  · skip
    have hz : tImage w m = 0 := Decidable.not_not.mp (of_decide_eq_false c27)
    have hC1 := hC.off (hC.ref (nI (tImage w m)))
    have hP1 := hP.offq (hC.ref (nI (tImage w m)))
    obtain ⟨k1, k2⟩ := tX_0 hz
    have h3 : m < 3 := by split at k2 <;> simp_all
    refine w_aload_n 33 dX11_image_32 rfl rfl ?_
    refine w_getr 36 dX11_image_33 rfl faX11_33 rfl rfl rfl (r := .ref 45) rfl ?_
    refine w_aload_n 37 dX11_image_36 rfl rfl ?_
    refine w_getr 40 dX11_image_37 rfl faX11_26 rfl rfl rfl (r := .ref 43) rfl ?_
    refine w_inv1 43 dX11_image_40 rfl mlX11_346 rfl rfl (d' := 2) (by decide) (Nat.le_of_ble_eq_true rfl) (c_X4_takeImage hP1 hC1.2.2.1 h3 (fun A3 hP3 hO3 => ?_))
    have hQ3 := Qa.sub hC1.2.2.2.2 hO3 (by decide) (by decide) (by decide)
    have hC3 : CI w s A3 := hC1.chg hQ3 (hC1.2.2.1.cong (hO3 44 (by decide)).1) hC.2.2.2.1
    refine w_aload_n 44 dX11_image_43 rfl rfl ?_
    refine w_getr 47 dX11_image_44 rfl faX11_33 rfl rfl rfl (r := .ref 45) rfl ?_
    refine w_getiv 50 dX11_image_47 rfl faX11_343 rfl rfl rfl hP3.2.2.2.2.2.1 ?_
    refine w_iconst 51 dX11_image_50 rfl (v := nI 1) rfl ?_
    refine w_isubN 52 dX11_image_51 rfl (by omega) ?_
    refine wr_i dX11_image_52 rfl ?_
    exact kq (hs hz _ hC3 hP3 ((hC.ref _).a.tr hQ3) (by rw [(hO3 0 (by decide)).1, ← hz]; exact upd2_at)) (by rw [Nat.add_sub_cancel])
  · skip
    refine w_iconst 31 dX11_image_30 rfl (v := (-1)) rfl ?_
    refine wr_i dX11_image_31 rfl ?_
    exact hf (of_decide_eq_true c27) _ (hC.ref _) (by dsimp only; rw [upd2_at])

set_option maxRecDepth 4000 in
theorem c_X11_image {K : Option Value → AH → Prop} {A : AH} {w : WT} {s : Nat → Nat} {H I : Nat → Nat → Nat} {nx c m : Nat} (hC : CI w s A) (hP : RepP H I nx c m A) (hf : tImage w m ≠ 0 → ∀ A', Qk A A' → A'.1 0 8 = nI (tImage w m) → K (some (.int (-1))) A') (hs : tImage w m = 0 → ∀ A', CI w (s) A' → RepP H (fun i => if i = m then s else I i) nx c (m + 1) A' → Qa A A' → A'.1 0 8 = nI 0 → K (some (.int (nI m))) A') : Ct yX11_image mX11_image 3 dC gC [.ref 0] A K := by
  refine Ct.of [some (.ref 0)] rfl rfl rfl (Nat.le_of_ble_eq_true rfl) ?_
  refine w_aload_n 1 dX11_image_0 rfl rfl ?_
  refine w_aload_n 2 dX11_image_1 rfl rfl ?_
  refine w_inv0 5 dX11_image_2 rfl mlX11_157 rfl rfl (d' := 2) (by decide) (Nat.le_of_ble_eq_true rfl) (c_X11_needWeb hC ?_)
  refine w_aload_n 6 dX11_image_5 rfl rfl ?_
  refine w_getr 9 dX11_image_6 rfl faX11_33 rfl rfl rfl (r := .ref 45) rfl ?_
  refine w_getiv 12 dX11_image_9 rfl faX11_343 rfl rfl rfl hP.2.2.2.2.2.1 ?_
  refine w_iconst 13 dX11_image_12 rfl (v := nI 3) rfl ?_
  refine w_icgeN 20 16 dX11_image_13 rfl rfl (by have := hP.2.2.1; omega) (by omega) (fun c13 => ?_) (fun c13 => ?_)
  · skip
    refine w_iconst 21 dX11_image_20 rfl (v := nI 3) rfl ?_
    refine wp_eq rfl ?_ rfl (a_X11_image hC hP hf hs)
    rw [if_neg (Nat.not_lt.mpr c13)]
    rfl
  · skip
    refine w_iconst 17 dX11_image_16 rfl (v := nI 0) rfl ?_
    refine w_goto 21 dX11_image_17 rfl ?_
    refine wp_eq rfl ?_ rfl (a_X11_image hC hP hf hs)
    rw [if_pos c13]
    rfl

set_option maxRecDepth 4000 in
theorem a_X11_undo {K : Option Value → AH → Prop} {A : AH} {w : WT} {s : Nat → Nat} {H I : Nat → Nat → Nat} {nx c m : Nat} (hC : CI w s A) (hP : RepP H I nx c m A) (hf : tUndo c ≠ 0 → ∀ A', Qk A A' → A'.1 0 8 = nI (tUndo c) → K (some (.int (nI 0))) A') (hH : ∀ i, i < c → okS (H i)) (hs : tUndo c = 0 → ∀ A', CI w (H 0) A' → RepP (fun i => H (i + 1)) I ((nx + 15) % 16) (c - 1) m A' → Qa A A' → A'.1 0 8 = nI 0 → K (some (.int (nI 1))) A') : WP mX11_undo 3 dC gC 17 [some (.ref 0)] [.int (nI (if 0 < c then 0 else 6)), .ref 0] A K := by
  rw [show (if 0 < c then 0 else 6) = tUndo c from rfl]
  refine w_inv1 20 dX11_undo_17 rfl mlX11_87 rfl rfl (d' := 0) (by decide) (Nat.le_of_ble_eq_true rfl) (c_X11_refused (by unfold tUndo; split <;> omega) ?_)
  refine w_ifeqB 25 23 dX11_undo_20 rfl rfl (fun c20 => ?_) (fun c20 => ?_)
  · skip
    have hz : tUndo c = 0 := Decidable.not_not.mp (of_decide_eq_false c20)
    have hC1 := hC.off (hC.ref (nI (tUndo c)))
    have hP1 := hP.offq (hC.ref (nI (tUndo c)))
    have h0 : 0 < c := by unfold tUndo at hz; split at hz <;> simp_all
    refine w_aload_n 26 dX11_undo_25 rfl rfl ?_
    refine w_getr 29 dX11_undo_26 rfl faX11_33 rfl rfl rfl (r := .ref 45) rfl ?_
    refine w_aload_n 30 dX11_undo_29 rfl rfl ?_
    refine w_getr 33 dX11_undo_30 rfl faX11_26 rfl rfl rfl (r := .ref 43) rfl ?_
    refine w_inv1 36 dX11_undo_33 rfl mlX11_340 rfl rfl (d' := 2) (by decide) (Nat.le_of_ble_eq_true rfl) (c_X4_takeBack hP1 h0 (fun A3 hP3 hS3 hO3 => ?_))
    have hQ3 := Qa.sub hC1.2.2.2.2 hO3 (by decide) (by decide) (by decide)
    have hC3 : CI w (H 0) A3 := hC1.chg hQ3 hS3 (hH 0 h0)
    refine w_iconst 37 dX11_undo_36 rfl (v := nI 1) rfl ?_
    refine wr_z dX11_undo_37 rfl (by first | rfl | exact nb_b2i _) ?_
    exact hs hz _ hC3 hP3 ((hC.ref _).a.tr hQ3) (by rw [(hO3 0 (by decide)).1, ← hz]; exact upd2_at)
  · skip
    refine w_iconst 24 dX11_undo_23 rfl (v := nI 0) rfl ?_
    refine wr_z dX11_undo_24 rfl (by first | rfl | exact nb_b2i _) ?_
    exact hf (of_decide_eq_true c20) _ (hC.ref _) (by dsimp only; rw [upd2_at])

set_option maxRecDepth 4000 in
theorem c_X11_undo {K : Option Value → AH → Prop} {A : AH} {w : WT} {s : Nat → Nat} {H I : Nat → Nat → Nat} {nx c m : Nat} (hC : CI w s A) (hP : RepP H I nx c m A) (hH : ∀ i, i < c → okS (H i)) (hf : tUndo c ≠ 0 → ∀ A', Qk A A' → A'.1 0 8 = nI (tUndo c) → K (some (.int (nI 0))) A') (hs : tUndo c = 0 → ∀ A', CI w (H 0) A' → RepP (fun i => H (i + 1)) I ((nx + 15) % 16) (c - 1) m A' → Qa A A' → A'.1 0 8 = nI 0 → K (some (.int (nI 1))) A') : Ct yX11_undo mX11_undo 3 dC gC [.ref 0] A K := by
  refine Ct.of [some (.ref 0)] rfl rfl rfl (Nat.le_of_ble_eq_true rfl) ?_
  refine w_aload_n 1 dX11_undo_0 rfl rfl ?_
  refine w_aload_n 2 dX11_undo_1 rfl rfl ?_
  refine w_getr 5 dX11_undo_2 rfl faX11_33 rfl rfl rfl (r := .ref 45) rfl ?_
  refine w_getiv 8 dX11_undo_5 rfl faX11_339 rfl rfl rfl hP.2.2.2.2.1 ?_
  refine w_ifleN 15 11 dX11_undo_8 rfl rfl (by have := hP.2.1; omega) (fun c8 => ?_) (fun c8 => ?_)
  · skip
    refine w_bipush 17 dX11_undo_15 rfl (v := nI 6) rfl ?_
    refine wp_eq rfl ?_ rfl (a_X11_undo hC hP hf hH hs)
    rw [if_neg (by omega)]
  · skip
    refine w_iconst 12 dX11_undo_11 rfl (v := nI 0) rfl ?_
    refine w_goto 17 dX11_undo_12 rfl ?_
    refine wp_eq rfl ?_ rfl (a_X11_undo hC hP hf hH hs)
    rw [if_pos (by omega)]

set_option maxRecDepth 4000 in
theorem a_X11_back {K : Option Value → AH → Prop} {A : AH} {w : WT} {s : Nat → Nat} {H I : Nat → Nat → Nat} {nx c m : Nat} {x : Int32} (hC : CI w s A) (hP : RepP H I nx c m A) (hf : tBack m x ≠ 0 → ∀ A', Qk A A' → A'.1 0 8 = nI (tBack m x) → K (some (.int (nI 0))) A') (hI : ∀ i, i < m → okS (I i)) (hs : tBack m x = 0 → ∀ A', CI w (I (cl x)) A' → RepP H I nx 0 m A' → Qa A A' → A'.1 0 8 = nI 0 → K (some (.int (nI 1))) A') : WP mX11_back 3 dC gC 21 [some (.ref 0), some (.int x)] [.int (nI (t1 (okR m x))), .ref 0] A K := by
  rw [show t1 (okR m x) = tBack m x from rfl]
  refine w_inv1 24 dX11_back_21 rfl mlX11_87 rfl rfl (d' := 0) (by decide) (Nat.le_of_ble_eq_true rfl) (c_X11_refused (Nat.lt_of_le_of_lt (t1_le _) (by decide)) ?_)
  refine w_ifeqB 29 27 dX11_back_24 rfl rfl (fun c24 => ?_) (fun c24 => ?_)
  · skip
    have hz : tBack m x = 0 := Decidable.not_not.mp (of_decide_eq_false c24)
    have hC1 := hC.off (hC.ref (nI (tBack m x)))
    have hP1 := hP.offq (hC.ref (nI (tBack m x)))
    have hm3 := hP.2.2.1
    obtain ⟨x, rfl, hx⟩ := okR_of (t1_0 hz) (by omega)
    have hcl := cl_nI (show x < 2 ^ 31 by omega)
    rw [hcl] at hs
    refine w_aload_n 30 dX11_back_29 rfl rfl ?_
    refine w_getr 33 dX11_back_30 rfl faX11_33 rfl rfl rfl (r := .ref 45) rfl ?_
    refine w_aload_n 34 dX11_back_33 rfl rfl ?_
    refine w_getr 37 dX11_back_34 rfl faX11_26 rfl rfl rfl (r := .ref 43) rfl ?_
    refine w_iload_n 38 dX11_back_37 rfl rfl ?_
    refine w_inv2 41 dX11_back_38 rfl mlX11_349 rfl rfl (d' := 2) (by decide) (Nat.le_of_ble_eq_true rfl) (c_X4_goBack hP1 hx (fun A3 hP3 hS3 hO3 => ?_))
    have hQ3 := Qa.sub hC1.2.2.2.2 hO3 (by decide) (by decide) (by decide)
    have hC3 : CI w (I x) A3 := hC1.chg hQ3 hS3 (hI x hx)
    refine w_iconst 42 dX11_back_41 rfl (v := nI 1) rfl ?_
    refine wr_z dX11_back_42 rfl (by first | rfl | exact nb_b2i _) ?_
    exact hs hz _ hC3 hP3 ((hC.ref _).a.tr hQ3) (by rw [(hO3 0 (by decide)).1, ← hz]; exact upd2_at)
  · skip
    refine w_iconst 28 dX11_back_27 rfl (v := nI 0) rfl ?_
    refine wr_z dX11_back_28 rfl (by first | rfl | exact nb_b2i _) ?_
    exact hf (of_decide_eq_true c24) _ (hC.ref _) (by dsimp only; rw [upd2_at])

set_option maxRecDepth 4000 in
theorem c_X11_back {K : Option Value → AH → Prop} {A : AH} {w : WT} {s : Nat → Nat} {H I : Nat → Nat → Nat} {nx c m : Nat} {x : Int32} (hC : CI w s A) (hP : RepP H I nx c m A) (hI : ∀ i, i < m → okS (I i)) (hf : tBack m x ≠ 0 → ∀ A', Qk A A' → A'.1 0 8 = nI (tBack m x) → K (some (.int (nI 0))) A') (hs : tBack m x = 0 → ∀ A', CI w (I (cl x)) A' → RepP H I nx 0 m A' → Qa A A' → A'.1 0 8 = nI 0 → K (some (.int (nI 1))) A') : Ct yX11_back mX11_back 3 dC gC [.ref 0, .int x] A K := by
  refine Ct.of [some (.ref 0), some (.int x)] rfl rfl rfl (Nat.le_of_ble_eq_true rfl) ?_
  refine w_aload_n 1 dX11_back_0 rfl rfl ?_
  refine w_iload_n 2 dX11_back_1 rfl rfl ?_
  refine w_iflt 20 5 dX11_back_2 rfl rfl (fun c2 => ?_) (fun c2 => ?_)
  · skip
    refine w_iconst 21 dX11_back_20 rfl (v := nI 1) rfl ?_
    refine wp_eq rfl ?_ rfl (a_X11_back hC hP hf hI hs)
    rw [show t1 (okR m x) = 1 from by unfold t1 okR; rw [if_neg]; intro q; exact absurd c2 (Int32.not_lt.mpr (of_decide_eq_true q).1)]
  · skip
    refine w_iload_n 6 dX11_back_5 rfl rfl ?_
    refine w_aload_n 7 dX11_back_6 rfl rfl ?_
    refine w_getr 10 dX11_back_7 rfl faX11_33 rfl rfl rfl (r := .ref 45) rfl ?_
    refine w_getiv 13 dX11_back_10 rfl faX11_343 rfl rfl rfl hP.2.2.2.2.2.1 ?_
    refine w_icge 20 16 dX11_back_13 rfl rfl (fun c13 => ?_) (fun c13 => ?_)
    · skip
      refine w_iconst 21 dX11_back_20 rfl (v := nI 1) rfl ?_
      refine wp_eq rfl ?_ rfl (a_X11_back hC hP hf hI hs)
      rw [show t1 (okR m x) = 1 from by unfold t1 okR; rw [if_neg]; intro q; exact absurd (of_decide_eq_true q).2 (Int32.not_lt.mpr c13)]
    · skip
      refine w_iconst 17 dX11_back_16 rfl (v := nI 0) rfl ?_
      refine w_goto 21 dX11_back_17 rfl ?_
      refine wp_eq rfl ?_ rfl (a_X11_back hC hP hf hI hs)
      rw [show t1 (okR m x) = 0 from by unfold t1 okR; rw [if_pos]; exact decide_eq_true ⟨Int32.not_lt.mp c2, Int32.not_le.mp c13⟩]
