/-! ===== the reference: more questions ===== -/
theorem maskTo_pad {p : Nat → Bool} {a : Nat} : ∀ {b : Nat}, a ≤ b → (∀ i, a ≤ i → i < b → p i = false) → maskTo p b = maskTo p a
  | 0, h, _ => by rw [show a = 0 by omega]
  | b + 1, h, hp => by
    by_cases e : a = b + 1
    · rw [e]
    · simp only [maskTo, hp b (by omega) (by omega)]
      exact maskTo_pad (by omega) (fun i h1 h2 => hp i h1 (by omega))
theorem esW_0 {w : WT} {s : Nat → Nat} {n i : Nat} (h1 : s 1 ≤ i) (h2 : i < 8) : esW w s n i = 0 := by
  unfold esW
  rw [if_pos h2, if_neg (by omega)]
theorem HN_HM {w : WT} {s : Nat → Nat} (hs : okS s) (n : Nat) : HN w s n = HM w s n := (maskTo_pad hs.2.1 (fun i h1 h2 => by rw [esW_0 h1 h2]; rfl)).symm
theorem HM_lt1 {w : WT} {s : Nat → Nat} (hs : okS s) (n : Nat) : HM w s n < 2 ^ s 1 := by rw [← HN_HM hs]; exact maskTo_lt _ _
theorem sumB_pad {f : Nat → Nat} {m k : Nat} (hm : m < 2 ^ k) : ∀ {n : Nat}, k ≤ n → sumB f m n = sumB f m k
  | 0, h => by rw [show k = 0 by omega]
  | n + 1, h => by
    by_cases e : k = n + 1
    · rw [e]
    · have : m.testBit n = false := Nat.testBit_lt_two_pow (Nat.lt_of_lt_of_le hm (Nat.pow_le_pow_right (by decide) (by omega)))
      have ih := sumB_pad (f := f) hm (n := n) (by omega)
      unfold sumB at ih ⊢
      simp only [sumTo, this]
      simpa using ih
theorem mnF_snd {f : Nat → Nat} {p : Nat → Bool} {b0 : Nat} : ∀ n, (mnF f p b0 (f b0) n).2 = f (mnF f p b0 (f b0) n).1
  | 0 => rfl
  | n + 1 => by
    simp only [mnF]
    split
    · rfl
    · exact mnF_snd n
theorem c_X13_heldW {K : Option Value → AH → Prop} {A : AH} {r : Value} {w : WT} {s : Nat → Nat} {n : Nat} (hs : okS s) (hY : RY (s 1) (e1W w s) (e2W w s) (esW w s n) A) (h : K (some (.int (nI (HM w s n)))) A) : Ct yX13_held mX13_held 0 dM (GG (.ref 111) r) [.ref 100] A K := c_X13_held hY (by rw [← HN_HM hs] at h; exact h)
set_option maxRecDepth 4000 in
theorem c_X13_clashing {K : Option Value → AH → Prop} {A : AH} {r : Value} {w : WT} {s : Nat → Nat} {m : Nat} (hC : MC w s A) (hm : m < 256) (h : K (some (.int (nI (clsV w m)))) A) : Ct yX13_clashing mX13_clashing 1 dM (GG (.ref 111) r) [.ref 100, .int (nI m)] A K := by
  refine Ct.of [some (.ref 100), some (.int (nI m)), none, none] rfl rfl rfl (Nat.le_of_ble_eq_true rfl) ?_
  have hr := hC.rooms
  have lp4 : ∀ (nf : Nat) (i : Nat), i ≤ w.1 3 → w.1 3 - i < nf → WP mX13_clashing 1 dM (GG (.ref 111) r) 4 [some (.ref 100), some (.int (nI m)), some (.int (nI (cntTo (clashB w m) i))), some (.int (nI i))] [] A K := by
    intro nf
    induction nf with
    | zero => intros; omega
    | succ nf ih =>
      intro i hi hms
      refine w_iload_n 5 dX13_clashing_4 rfl rfl ?_
      refine w_aload_n 6 dX13_clashing_5 rfl rfl ?_
      refine w_getr 9 dX13_clashing_6 rfl faX13_343 rfl rfl rfl (r := .ref 111) rfl ?_
      refine w_getiv 12 dX13_clashing_9 rfl faX13_271 rfl rfl rfl (hC.1.2.1 3 (by decide) (by decide)) ?_
      refine w_icgeN 61 15 dX13_clashing_12 rfl rfl (by omega) (by omega) (fun c12 => ?_) (fun c12 => ?_)
      · skip
        have e : i = w.1 3 := by omega
        subst e
        refine w_iload_n 62 dX13_clashing_61 rfl rfl ?_
        refine wr_i dX13_clashing_62 rfl ?_
        exact h
      · skip
        have he := hC.ent (J := 3) (by decide) c12
        simp only [eOK] at he
        obtain ⟨q0, q1⟩ := hC.1.2.2.2.2.2.2.1 i c12
        refine w_iload_n 16 dX13_clashing_15 rfl rfl ?_
        refine w_iload_n 17 dX13_clashing_16 rfl rfl ?_
        refine w_aload_n 18 dX13_clashing_17 rfl rfl ?_
        refine w_getr 21 dX13_clashing_18 rfl faX13_343 rfl rfl rfl (r := .ref 111) rfl ?_
        refine w_getr 24 dX13_clashing_21 rfl faX13_281 rfl rfl rfl (r := .ref 125) rfl ?_
        refine w_iload_n 25 dX13_clashing_24 rfl rfl ?_
        refine w_ialdv 26 dX13_clashing_25 rfl rfl rfl (by decide) (by omega) q0 ?_
        refine w_invs2 29 dX13_clashing_26 rfl slX13_277 (d' := 0) (by decide) (Nat.le_of_ble_eq_true rfl) (c_X13_bit ?_)
        rw [hasB_nI (by omega) (by omega)]
        refine w_ifeqB 52 32 dX13_clashing_29 rfl rfl (fun c29 => ?_) (fun c29 => ?_)
        · skip
          refine w_iconst 53 dX13_clashing_52 rfl (v := nI 0) rfl ?_
          refine w_iaddN 54 dX13_clashing_53 rfl ?_
          refine w_ist2 55 dX13_clashing_54 rfl (by decide) rfl ?_
          refine w_inc3 58 dX13_clashing_55 rfl (by decide) rfl (v := nI (_ + 1)) (nI_1 _) ?_
          refine w_goto 4 dX13_clashing_58 rfl ?_
          refine wp_eq ?_ rfl rfl (ih (i + 1) (by omega) (by omega))
          simp [cntTo, clashB, c29]
        · skip
          refine w_iload_n 33 dX13_clashing_32 rfl rfl ?_
          refine w_aload_n 34 dX13_clashing_33 rfl rfl ?_
          refine w_getr 37 dX13_clashing_34 rfl faX13_343 rfl rfl rfl (r := .ref 111) rfl ?_
          refine w_getr 40 dX13_clashing_37 rfl faX13_284 rfl rfl rfl (r := .ref 126) rfl ?_
          refine w_iload_n 41 dX13_clashing_40 rfl rfl ?_
          refine w_ialdv 42 dX13_clashing_41 rfl rfl rfl (by decide) (by omega) q1 ?_
          refine w_invs2 45 dX13_clashing_42 rfl slX13_277 (d' := 0) (by decide) (Nat.le_of_ble_eq_true rfl) (c_X13_bit ?_)
          rw [hasB_nI (by omega) (by omega)]
          refine w_ifeqB 52 48 dX13_clashing_45 rfl rfl (fun c45 => ?_) (fun c45 => ?_)
          · skip
            refine w_iconst 53 dX13_clashing_52 rfl (v := nI 0) rfl ?_
            refine w_iaddN 54 dX13_clashing_53 rfl ?_
            refine w_ist2 55 dX13_clashing_54 rfl (by decide) rfl ?_
            refine w_inc3 58 dX13_clashing_55 rfl (by decide) rfl (v := nI (_ + 1)) (nI_1 _) ?_
            refine w_goto 4 dX13_clashing_58 rfl ?_
            refine wp_eq ?_ rfl rfl (ih (i + 1) (by omega) (by omega))
            simp [cntTo, clashB, c29, c45]
          · skip
            refine w_iconst 49 dX13_clashing_48 rfl (v := nI 1) rfl ?_
            refine w_goto 53 dX13_clashing_49 rfl ?_
            refine w_iaddN 54 dX13_clashing_53 rfl ?_
            refine w_ist2 55 dX13_clashing_54 rfl (by decide) rfl ?_
            refine w_inc3 58 dX13_clashing_55 rfl (by decide) rfl (v := nI (_ + 1)) (nI_1 _) ?_
            refine w_goto 4 dX13_clashing_58 rfl ?_
            refine wp_eq ?_ rfl rfl (ih (i + 1) (by omega) (by omega))
            simp [cntTo, clashB, c29, c45]
  refine w_iconst 1 dX13_clashing_0 rfl (v := nI 0) rfl ?_
  refine w_ist2 2 dX13_clashing_1 rfl (by decide) rfl ?_
  refine w_iconst 3 dX13_clashing_2 rfl (v := nI 0) rfl ?_
  refine w_ist3 4 dX13_clashing_3 rfl (by decide) rfl ?_
  exact lp4 _ 0 (Nat.zero_le _) (Nat.lt_succ_self _)

set_option maxRecDepth 4000 in
theorem c_X13_strengthOf {K : Option Value → AH → Prop} {A : AH} {r : Value} {ne : Nat} {f1 f2 fs : Nat → Nat} (hY : RY ne f1 f2 fs A) {m : Nat} (hm : m < 2 ^ 31) (h : K (some (.int (nI (sumB fs m ne)))) A) : Ct yX13_strengthOf mX13_strengthOf 1 dM (GG (.ref 111) r) [.ref 100, .int (nI m)] A K := by
  refine Ct.of [some (.ref 100), some (.int (nI m)), none, none] rfl rfl rfl (Nat.le_of_ble_eq_true rfl) ?_
  have h13 := hY.2.1
  have lp4 : ∀ (nf : Nat) (i : Nat), i ≤ ne → ne - i < nf → WP mX13_strengthOf 1 dM (GG (.ref 111) r) 4 [some (.ref 100), some (.int (nI m)), some (.int (nI (sumB fs m i))), some (.int (nI i))] [] A K := by
    intro nf
    induction nf with
    | zero => intros; omega
    | succ nf ih =>
      intro i hi hms
      refine w_iload_n 5 dX13_strengthOf_4 rfl rfl ?_
      refine w_aload_n 6 dX13_strengthOf_5 rfl rfl ?_
      refine w_getiv 9 dX13_strengthOf_6 rfl faX13_360 rfl rfl rfl hY.1 ?_
      refine w_icgeN 39 12 dX13_strengthOf_9 rfl rfl (by omega) (by omega) (fun c9 => ?_) (fun c9 => ?_)
      · skip
        have e : i = ne := by omega
        subst e
        refine w_iload_n 40 dX13_strengthOf_39 rfl rfl ?_
        refine wr_i dX13_strengthOf_40 rfl ?_
        exact h
      · skip
        refine w_iload_n 13 dX13_strengthOf_12 rfl rfl ?_
        refine w_iload_n 14 dX13_strengthOf_13 rfl rfl ?_
        refine w_iload_n 15 dX13_strengthOf_14 rfl rfl ?_
        refine w_invs2 18 dX13_strengthOf_15 rfl slX13_277 (d' := 0) (by decide) (Nat.le_of_ble_eq_true rfl) (c_X13_bit ?_)
        rw [hasB_nI (by omega) (by omega)]
        refine w_ifeqB 30 21 dX13_strengthOf_18 rfl rfl (fun c18 => ?_) (fun c18 => ?_)
        · skip
          refine w_iconst 31 dX13_strengthOf_30 rfl (v := nI 0) rfl ?_
          refine w_iaddN 32 dX13_strengthOf_31 rfl ?_
          refine w_ist2 33 dX13_strengthOf_32 rfl (by decide) rfl ?_
          refine w_inc3 36 dX13_strengthOf_33 rfl (by decide) rfl (v := nI (_ + 1)) (nI_1 _) ?_
          refine w_goto 4 dX13_strengthOf_36 rfl ?_
          refine wp_eq ?_ rfl rfl (ih (i + 1) (by omega) (by omega))
          simp [sumB, sumTo, c18]
        · skip
          refine w_aload_n 22 dX13_strengthOf_21 rfl rfl ?_
          refine w_getr 25 dX13_strengthOf_22 rfl faX13_36 rfl rfl rfl (r := .ref 108) rfl ?_
          refine w_iload_n 26 dX13_strengthOf_25 rfl rfl ?_
          refine w_ialdv 27 dX13_strengthOf_26 rfl rfl rfl (by decide) (by omega) (hY.2.2 i (by omega)).2.2.1 ?_
          refine w_goto 31 dX13_strengthOf_27 rfl ?_
          refine w_iaddN 32 dX13_strengthOf_31 rfl ?_
          refine w_ist2 33 dX13_strengthOf_32 rfl (by decide) rfl ?_
          refine w_inc3 36 dX13_strengthOf_33 rfl (by decide) rfl (v := nI (_ + 1)) (nI_1 _) ?_
          refine w_goto 4 dX13_strengthOf_36 rfl ?_
          refine wp_eq ?_ rfl rfl (ih (i + 1) (by omega) (by omega))
          simp [sumB, sumTo, c18]
  refine w_iconst 1 dX13_strengthOf_0 rfl (v := nI 0) rfl ?_
  refine w_ist2 2 dX13_strengthOf_1 rfl (by decide) rfl ?_
  refine w_iconst 3 dX13_strengthOf_2 rfl (v := nI 0) rfl ?_
  refine w_ist3 4 dX13_strengthOf_3 rfl (by decide) rfl ?_
  exact lp4 _ 0 (Nat.zero_le _) (Nat.lt_succ_self _)

theorem c_X13_strengthW {K : Option Value → AH → Prop} {A : AH} {r : Value} {w : WT} {s : Nat → Nat} {n m : Nat} (hs : okS s) (hY : RY (s 1) (e1W w s) (e2W w s) (esW w s n) A) (hm : m < 2 ^ s 1) (h : K (some (.int (nI (sumB (esW w s n) m 13)))) A) : Ct yX13_strengthOf mX13_strengthOf 1 dM (GG (.ref 111) r) [.ref 100, .int (nI m)] A K := by
  have h8 := hs.2.1
  have h9 : 2 ^ s 1 ≤ 2 ^ 8 := Nat.pow_le_pow_right (by decide) h8
  exact c_X13_strengthOf hY (by omega) (by rw [sumB_pad hm (show s 1 ≤ 13 by omega)] at h; exact h)
set_option maxRecDepth 4000 in
theorem c_X13_clashes {K : Option Value → AH → Prop} {A : AH} {r : Value} {w : WT} {s : Nat → Nat} (hC : MC w s A) {n : Int32} (h : ∀ A', QM A A' → A'.1 100 1 = nI (tY (okW1 w) n) → A'.1 100 2 = -1 → K (some (.int (rClashes w s n))) A') : Ct yX13_clashes mX13_clashes 4 dM (GG (.ref 111) r) [.ref 100, .int n] A K := by
  refine Ct.of [some (.ref 100), some (.int n), none] rfl rfl rfl (Nat.le_of_ble_eq_true rfl) ?_
  refine w_aload_n 1 dX13_clashes_0 rfl rfl ?_
  refine w_iconst 2 dX13_clashes_1 rfl (v := nI 0) rfl ?_
  refine w_puti 5 dX13_clashes_2 rfl faX13_46 rfl rfl rfl rfl ?_
  have hQ1 : QM A (upd2 A.1 100 0 (nI 0), A.2) := QM.rf.f (by decide) _
  have hC1 := hC.q hQ1
  refine w_aload_n 6 dX13_clashes_5 rfl rfl ?_
  refine w_aload_n 7 dX13_clashes_6 rfl rfl ?_
  refine w_getr 10 dX13_clashes_7 rfl faX13_343 rfl rfl rfl (r := .ref 111) rfl ?_
  refine w_nR 13 dX13_clashes_10 rfl ?_
  refine w_iconst 14 dX13_clashes_13 rfl (v := nI 1) rfl ?_
  refine w_goto 18 dX13_clashes_14 rfl ?_
  refine w_iload_n 19 dX13_clashes_18 rfl rfl ?_
  rw [show nI 1 = b2i (okW1 w) from by rw [okW1_t hC]; rfl]
  refine w_inv2 22 dX13_clashes_19 rfl mlX13_401 rfl rfl (d' := 1) (by decide) (Nat.le_of_ble_eq_true rfl) (c_X13_refusesYears (b := okW1 w) ?_)
  refine w_ist2 23 dX13_clashes_22 rfl (by decide) rfl ?_
  refine w_iload_n 24 dX13_clashes_23 rfl rfl ?_
  refine w_ifleN 33 27 dX13_clashes_24 rfl rfl (by have := tY_le (okW1 w) n; omega) (fun c24 => ?_) (fun c24 => ?_)
  · skip
    have hz : tY (okW1 w) n = 0 := c24
    obtain ⟨k1, k2⟩ := tY_0 hz
    have hr := hC.rooms
    have hsS := hC.2.2.2.1
    obtain ⟨n, rfl, hn⟩ := tI_of k2
    refine w_aload_n 34 dX13_clashes_33 rfl rfl ?_
    refine w_iload_n 35 dX13_clashes_34 rfl rfl ?_
    refine w_inv1 38 dX13_clashes_35 rfl mlX13_398 rfl rfl (d' := 3) (by decide) (Nat.le_of_ble_eq_true rfl) (c_X13_lays hC1 hn (fun A3 hY hX hQ3 => ?_))
    have hC3 := hC1.q hQ3
    have hN := hC3.1.2.1 1 (by decide) (by decide)
    have h8 := hC.2.2.2.1.2.1
    refine w_aload_n 39 dX13_clashes_38 rfl rfl ?_
    refine w_aload_n 40 dX13_clashes_39 rfl rfl ?_
    refine w_aload_n 41 dX13_clashes_40 rfl rfl ?_
    refine w_inv0 44 dX13_clashes_41 rfl mlX13_405 rfl rfl (d' := 0) (by decide) (Nat.le_of_ble_eq_true rfl) (c_X13_heldW hsS hY ?_)
    refine w_inv1 47 dX13_clashes_44 rfl mlX13_439 rfl rfl (d' := 1) (by decide) (Nat.le_of_ble_eq_true rfl) (c_X13_clashing hC3 (HM_lt w s n) ?_)
    refine w_inv1 50 dX13_clashes_47 rfl mlX13_56 rfl rfl (d' := 0) (by decide) (Nat.le_of_ble_eq_true rfl) (c_X13_good (fun A9 hQ9 ht9 hw9 => ?_))
    refine wr_i dX13_clashes_50 rfl ?_
    exact kq (h A9 ((hQ1.tr hQ3).tr hQ9) (by rw [hz]; exact ht9) hw9) (by unfold rClashes; rw [if_pos hz, cl_nI (show n < 2 ^ 31 by omega)])
  · skip
    refine w_aload_n 28 dX13_clashes_27 rfl rfl ?_
    refine w_iload_n 29 dX13_clashes_28 rfl rfl ?_
    refine w_inv1 32 dX13_clashes_29 rfl mlX13_52 rfl rfl (d' := 0) (by decide) (Nat.le_of_ble_eq_true rfl) (c_X13_refused (fun A2 hQ2 ht2 hw2 => ?_))
    refine wr_i dX13_clashes_32 rfl ?_
    exact kq (h A2 (hQ1.tr hQ2) ht2 hw2) (by unfold rClashes; rw [if_neg (Nat.ne_of_gt c24)])

set_option maxRecDepth 4000 in
theorem a_X13_breaking {K : Option Value → AH → Prop} {A : AH} {r : Value} {w : WT} {s : Nat → Nat} {b : Bool} (hC : MC w s A) (hY : RY (s 1) (e1W w s) (e2W w s) (esW w s 0) A) (h : K (some (.int (nI (brkV w s b)))) A) : WP mX13_breaking 4 dM (GG (.ref 111) r) 10 [some (.ref 100), some (.int (b2i (!b))), some (.int (nI (HM w s 0))), none, none] [] A K := by
  have hH := HM_lt w s 0
  have hH1 := HM_lt1 (w := w) hC.2.2.2.1 0
  have lp15 : ∀ (nf : Nat) (i : Nat), i ≤ HM w s 0 + 1 → HM w s 0 + 1 - i < nf → WP mX13_breaking 4 dM (GG (.ref 111) r) 15 [some (.ref 100), some (.int (b2i (!b))), some (.int (nI (HM w s 0))), some (.int (nI (mnF (lossF w s b) (brkOK w (HM w s 0)) (HM w s 0) (lossF w s b (HM w s 0)) i).1)), some (.int (nI i))] [] A K := by
    intro nf
    induction nf with
    | zero => intros; omega
    | succ nf ih =>
      intro i hi hms
      have hbl : (mnF (lossF w s b) (brkOK w (HM w s 0)) (HM w s 0) (lossF w s b (HM w s 0)) i).1 ≤ HM w s 0 := by
        have := mnF_lt (f := lossF w s b) (p := brkOK w (HM w s 0)) (l0 := lossF w s b (HM w s 0)) (show HM w s 0 < HM w s 0 + 1 by omega) i hi
        omega
      have hsn := mnF_snd (f := lossF w s b) (p := brkOK w (HM w s 0)) (b0 := HM w s 0) i
      have hll := lossF_le hC.2.2.2.1 hC.okT.2.2.1 b
      have hl1 := hll i
      have hl2 := hll (mnF (lossF w s b) (brkOK w (HM w s 0)) (HM w s 0) (lossF w s b (HM w s 0)) i).1
      refine w_iload 17 dX13_breaking_15 rfl rfl ?_
      refine w_iload_n 18 dX13_breaking_17 rfl rfl ?_
      refine w_icgtN 88 21 dX13_breaking_18 rfl rfl (by omega) (by omega) (fun c18 => ?_) (fun c18 => ?_)
      · skip
        have e : i = HM w s 0 + 1 := by omega
        subst e
        refine w_iload_n 89 dX13_breaking_88 rfl rfl ?_
        refine wr_i dX13_breaking_89 rfl ?_
        exact h
      · skip
        refine w_iload 23 dX13_breaking_21 rfl rfl ?_
        refine w_iload_n 24 dX13_breaking_23 rfl rfl ?_
        refine w_iconst 25 dX13_breaking_24 rfl (v := (-1)) rfl ?_
        refine w_ixor 26 dX13_breaking_25 rfl ?_
        refine w_iand 27 dX13_breaking_26 rfl ?_
        have hi2 : i < 256 := by omega
        refine w_ifne 82 30 dX13_breaking_27 rfl rfl (fun c27 => ?_) (fun c27 => ?_)
        · skip
          have hns : subM i (HM w s 0) = false := by rw [← isW hi2]; exact decide_eq_false c27
          refine w_inc4 85 dX13_breaking_82 rfl (by decide) rfl (v := nI (_ + 1)) (nI_1 _) ?_
          refine w_goto 15 dX13_breaking_85 rfl ?_
          refine wp_eq ?_ rfl rfl (ih (i + 1) (by omega) (by omega))
          simp only [mnF]
          rw [if_neg (by rw [brkOK, hns]; simp)]
        · skip
          have hns : subM i (HM w s 0) = true := by rw [← isW hi2]; exact decide_eq_true c27
          refine w_aload_n 31 dX13_breaking_30 rfl rfl ?_
          refine w_iload_n 32 dX13_breaking_31 rfl rfl ?_
          refine w_iload 34 dX13_breaking_32 rfl rfl ?_
          refine w_iconst 35 dX13_breaking_34 rfl (v := (-1)) rfl ?_
          refine w_ixor 36 dX13_breaking_35 rfl ?_
          refine w_iand 37 dX13_breaking_36 rfl ?_
          refine w_top (not_and hH) ?_
          refine w_inv1 40 dX13_breaking_37 rfl mlX13_439 rfl rfl (d' := 1) (by decide) (Nat.le_of_ble_eq_true rfl) (c_X13_clashing hC (Nat.lt_of_le_of_lt Nat.and_le_left hH) ?_)
          have hcl := clsV_le hC.okT (HM w s 0 &&& (255 ^^^ i))
          refine w_ifleN 46 43 dX13_breaking_40 rfl rfl (by omega) (fun c40 => ?_) (fun c40 => ?_)
          · skip
            have hok : brkOK w (HM w s 0) i = true := by rw [brkOK, hns, decide_eq_true c40]; rfl
            refine w_iload_n 47 dX13_breaking_46 rfl rfl ?_
            refine w_ifeqB 65 50 dX13_breaking_47 rfl rfl (fun c47 => ?_) (fun c47 => ?_)
            · skip
              have hb : b = true := by simpa using c47
              subst hb
              refine w_aload_n 66 dX13_breaking_65 rfl rfl ?_
              refine w_iload 68 dX13_breaking_66 rfl rfl ?_
              refine w_inv1 71 dX13_breaking_68 rfl mlX13_442 rfl rfl (d' := 1) (by decide) (Nat.le_of_ble_eq_true rfl) (c_X13_strengthW hC.2.2.2.1 hY (by omega) ?_)
              refine w_aload_n 72 dX13_breaking_71 rfl rfl ?_
              refine w_iload_n 73 dX13_breaking_72 rfl rfl ?_
              refine w_inv1 76 dX13_breaking_73 rfl mlX13_442 rfl rfl (d' := 1) (by decide) (Nat.le_of_ble_eq_true rfl) (c_X13_strengthW hC.2.2.2.1 hY (by omega) ?_)
              refine w_icgeN 82 79 dX13_breaking_76 rfl rfl (show lossF w s true i < 2 ^ 31 by omega) (show lossF w s true _ < 2 ^ 31 from Nat.lt_of_le_of_lt hl2 (by decide)) (fun c76 => ?_) (fun c76 => ?_)
              · skip
                refine w_inc4 85 dX13_breaking_82 rfl (by decide) rfl (v := nI (_ + 1)) (nI_1 _) ?_
                refine w_goto 15 dX13_breaking_85 rfl ?_
                refine wp_eq ?_ rfl rfl (ih (i + 1) (by omega) (by omega))
                simp only [mnF]
                rw [if_neg (by rw [hok, hsn, Bool.true_and, decide_eq_true_eq]; exact Nat.not_lt.mpr c76)]
              · skip
                refine w_iload 81 dX13_breaking_79 rfl rfl ?_
                refine w_ist3 82 dX13_breaking_81 rfl (by decide) rfl ?_
                refine w_inc4 85 dX13_breaking_82 rfl (by decide) rfl (v := nI (_ + 1)) (nI_1 _) ?_
                refine w_goto 15 dX13_breaking_85 rfl ?_
                refine wp_eq ?_ rfl rfl (ih (i + 1) (by omega) (by omega))
                simp only [mnF]
                rw [if_pos (by rw [hok, hsn, Bool.true_and, decide_eq_true_eq]; exact c76)]
            · skip
              have hb : b = false := by simpa using c47
              subst hb
              refine w_iload 52 dX13_breaking_50 rfl rfl ?_
              refine w_invs1 55 dX13_breaking_52 rfl slX13_415 (d' := 0) (by decide) (Nat.le_of_ble_eq_true rfl) (c_X13_bits hi2 ?_)
              refine w_iload_n 56 dX13_breaking_55 rfl rfl ?_
              refine w_invs1 59 dX13_breaking_56 rfl slX13_415 (d' := 0) (by decide) (Nat.le_of_ble_eq_true rfl) (c_X13_bits (by omega) ?_)
              refine w_icgeN 82 62 dX13_breaking_59 rfl rfl (by have := popc_le i; omega) (Nat.lt_of_le_of_lt (popc_le _) (by decide)) (fun c59 => ?_) (fun c59 => ?_)
              · skip
                refine w_inc4 85 dX13_breaking_82 rfl (by decide) rfl (v := nI (_ + 1)) (nI_1 _) ?_
                refine w_goto 15 dX13_breaking_85 rfl ?_
                refine wp_eq ?_ rfl rfl (ih (i + 1) (by omega) (by omega))
                simp only [mnF]
                rw [if_neg (by rw [hok, hsn, Bool.true_and, decide_eq_true_eq]; exact Nat.not_lt.mpr c59)]
              · skip
                refine w_goto 79 dX13_breaking_62 rfl ?_
                refine w_iload 81 dX13_breaking_79 rfl rfl ?_
                refine w_ist3 82 dX13_breaking_81 rfl (by decide) rfl ?_
                refine w_inc4 85 dX13_breaking_82 rfl (by decide) rfl (v := nI (_ + 1)) (nI_1 _) ?_
                refine w_goto 15 dX13_breaking_85 rfl ?_
                refine wp_eq ?_ rfl rfl (ih (i + 1) (by omega) (by omega))
                simp only [mnF]
                rw [if_pos (by rw [hok, hsn, Bool.true_and, decide_eq_true_eq]; exact c59)]
          · skip
            have hok : brkOK w (HM w s 0) i = false := by rw [brkOK, decide_eq_false (by omega), Bool.and_false]
            refine w_goto 82 dX13_breaking_43 rfl ?_
            refine w_inc4 85 dX13_breaking_82 rfl (by decide) rfl (v := nI (_ + 1)) (nI_1 _) ?_
            refine w_goto 15 dX13_breaking_85 rfl ?_
            refine wp_eq ?_ rfl rfl (ih (i + 1) (by omega) (by omega))
            simp only [mnF]
            rw [if_neg (by rw [hok]; simp)]
  refine w_iload_n 11 dX13_breaking_10 rfl rfl ?_
  refine w_ist3 12 dX13_breaking_11 rfl (by decide) rfl ?_
  refine w_iconst 13 dX13_breaking_12 rfl (v := nI 0) rfl ?_
  refine w_ist4 15 dX13_breaking_13 rfl (by decide) rfl ?_
  exact lp15 _ 0 (Nat.zero_le _) (Nat.lt_succ_self _)

set_option maxRecDepth 4000 in
theorem c_X13_breaking {K : Option Value → AH → Prop} {A : AH} {r : Value} {w : WT} {s : Nat → Nat} {b : Bool} (hC : MC w s A) (h : ∀ A', RY (s 1) (e1W w s) (e2W w s) (esW w s 0) A' → QM A A' → K (some (.int (nI (brkV w s b)))) A') : Ct yX13_breaking mX13_breaking 4 dM (GG (.ref 111) r) [.ref 100, .int (b2i (!b))] A K := by
  refine Ct.of [some (.ref 100), some (.int (b2i (!b))), none, none, none] rfl rfl rfl (Nat.le_of_ble_eq_true rfl) ?_
  refine w_aload_n 1 dX13_breaking_0 rfl rfl ?_
  refine w_iconst 2 dX13_breaking_1 rfl (v := nI 0) rfl ?_
  refine w_inv1 5 dX13_breaking_2 rfl mlX13_398 rfl rfl (d' := 3) (by decide) (Nat.le_of_ble_eq_true rfl) (c_X13_lays hC (by decide) (fun A3 hY hX hQ3 => ?_))
  refine w_aload_n 6 dX13_breaking_5 rfl rfl ?_
  refine w_inv0 9 dX13_breaking_6 rfl mlX13_405 rfl rfl (d' := 0) (by decide) (Nat.le_of_ble_eq_true rfl) (c_X13_heldW hC.2.2.2.1 hY ?_)
  refine w_ist2 10 dX13_breaking_9 rfl (by decide) rfl ?_
  exact a_X13_breaking (hC.q hQ3) hY (h A3 hY hQ3)

set_option maxRecDepth 4000 in
theorem c_X13_breakFew {K : Option Value → AH → Prop} {A : AH} {r : Value} {w : WT} {s : Nat → Nat} (hC : MC w s A) (h : ∀ A', QM A A' → A'.1 100 1 = nI (t1 (okW1 w)) → A'.1 100 2 = -1 → K (some (.int (rBreakFew w s))) A') : Ct yX13_breakFew mX13_breakFew 5 dM (GG (.ref 111) r) [.ref 100] A K := by
  refine Ct.of [some (.ref 100)] rfl rfl rfl (Nat.le_of_ble_eq_true rfl) ?_
  refine w_aload_n 1 dX13_breakFew_0 rfl rfl ?_
  refine w_iconst 2 dX13_breakFew_1 rfl (v := nI 0) rfl ?_
  refine w_puti 5 dX13_breakFew_2 rfl faX13_46 rfl rfl rfl rfl ?_
  have hQ1 : QM A (upd2 A.1 100 0 (nI 0), A.2) := QM.rf.f (by decide) _
  have hC1 := hC.q hQ1
  have hz : t1 (okW1 w) = 0 := by rw [okW1_t hC]; rfl
  refine w_aload_n 6 dX13_breakFew_5 rfl rfl ?_
  refine w_getr 9 dX13_breakFew_6 rfl faX13_343 rfl rfl rfl (r := .ref 111) rfl ?_
  refine w_nnR 20 dX13_breakFew_9 rfl ?_
  refine w_aload_n 21 dX13_breakFew_20 rfl rfl ?_
  refine w_aload_n 22 dX13_breakFew_21 rfl rfl ?_
  refine w_iconst 23 dX13_breakFew_22 rfl (v := nI 1) rfl ?_
  refine w_inv1 26 dX13_breakFew_23 rfl mlX13_445 rfl rfl (d' := 4) (by decide) (Nat.le_of_ble_eq_true rfl) (c_X13_breaking (b := false) hC1 (fun A3 hY hQ3 => ?_))
  refine w_inv1 29 dX13_breakFew_26 rfl mlX13_56 rfl rfl (d' := 0) (by decide) (Nat.le_of_ble_eq_true rfl) (c_X13_good (fun A9 hQ9 ht9 hw9 => ?_))
  refine wr_i dX13_breakFew_29 rfl ?_
  exact kq (h A9 ((hQ1.tr hQ3).tr hQ9) (by rw [hz]; exact ht9) hw9) (by unfold rBreakFew; rw [if_pos hz])

set_option maxRecDepth 4000 in
theorem c_X13_breakRued {K : Option Value → AH → Prop} {A : AH} {r : Value} {w : WT} {s : Nat → Nat} (hC : MC w s A) (h : ∀ A', QM A A' → A'.1 100 1 = nI (t1 (okW1 w)) → A'.1 100 2 = -1 → K (some (.int (rBreakRued w s))) A') : Ct yX13_breakRued mX13_breakRued 5 dM (GG (.ref 111) r) [.ref 100] A K := by
  refine Ct.of [some (.ref 100)] rfl rfl rfl (Nat.le_of_ble_eq_true rfl) ?_
  refine w_aload_n 1 dX13_breakRued_0 rfl rfl ?_
  refine w_iconst 2 dX13_breakRued_1 rfl (v := nI 0) rfl ?_
  refine w_puti 5 dX13_breakRued_2 rfl faX13_46 rfl rfl rfl rfl ?_
  have hQ1 : QM A (upd2 A.1 100 0 (nI 0), A.2) := QM.rf.f (by decide) _
  have hC1 := hC.q hQ1
  have hz : t1 (okW1 w) = 0 := by rw [okW1_t hC]; rfl
  refine w_aload_n 6 dX13_breakRued_5 rfl rfl ?_
  refine w_getr 9 dX13_breakRued_6 rfl faX13_343 rfl rfl rfl (r := .ref 111) rfl ?_
  refine w_nnR 20 dX13_breakRued_9 rfl ?_
  refine w_aload_n 21 dX13_breakRued_20 rfl rfl ?_
  refine w_aload_n 22 dX13_breakRued_21 rfl rfl ?_
  refine w_iconst 23 dX13_breakRued_22 rfl (v := nI 0) rfl ?_
  refine w_inv1 26 dX13_breakRued_23 rfl mlX13_445 rfl rfl (d' := 4) (by decide) (Nat.le_of_ble_eq_true rfl) (c_X13_breaking (b := true) hC1 (fun A3 hY hQ3 => ?_))
  refine w_inv1 29 dX13_breakRued_26 rfl mlX13_56 rfl rfl (d' := 0) (by decide) (Nat.le_of_ble_eq_true rfl) (c_X13_good (fun A9 hQ9 ht9 hw9 => ?_))
  refine wr_i dX13_breakRued_29 rfl ?_
  exact kq (h A9 ((hQ1.tr hQ3).tr hQ9) (by rw [hz]; exact ht9) hw9) (by unfold rBreakRued; rw [if_pos hz])

set_option maxRecDepth 4000 in
theorem c_X13_rue {K : Option Value → AH → Prop} {A : AH} {r : Value} {w : WT} {s : Nat → Nat} (hC : MC w s A) (h : ∀ A', QM A A' → A'.1 100 1 = nI (t1 (okW1 w)) → A'.1 100 2 = -1 → K (some (.int (rRue w s))) A') : Ct yX13_rue mX13_rue 5 dM (GG (.ref 111) r) [.ref 100] A K := by
  refine Ct.of [some (.ref 100)] rfl rfl rfl (Nat.le_of_ble_eq_true rfl) ?_
  refine w_aload_n 1 dX13_rue_0 rfl rfl ?_
  refine w_iconst 2 dX13_rue_1 rfl (v := nI 0) rfl ?_
  refine w_puti 5 dX13_rue_2 rfl faX13_46 rfl rfl rfl rfl ?_
  have hQ1 : QM A (upd2 A.1 100 0 (nI 0), A.2) := QM.rf.f (by decide) _
  have hC1 := hC.q hQ1
  have hz : t1 (okW1 w) = 0 := by rw [okW1_t hC]; rfl
  refine w_aload_n 6 dX13_rue_5 rfl rfl ?_
  refine w_getr 9 dX13_rue_6 rfl faX13_343 rfl rfl rfl (r := .ref 111) rfl ?_
  refine w_nnR 20 dX13_rue_9 rfl ?_
  refine w_aload_n 21 dX13_rue_20 rfl rfl ?_
  refine w_aload_n 22 dX13_rue_21 rfl rfl ?_
  refine w_aload_n 23 dX13_rue_22 rfl rfl ?_
  refine w_iconst 24 dX13_rue_23 rfl (v := nI 0) rfl ?_
  refine w_inv1 27 dX13_rue_24 rfl mlX13_445 rfl rfl (d' := 4) (by decide) (Nat.le_of_ble_eq_true rfl) (c_X13_breaking (b := true) hC1 (fun A3 hY hQ3 => ?_))
  have hH1 := HM_lt1 (w := w) hC.2.2.2.1 0
  have hbl : brkV w s true < HM w s 0 + 1 := mnF_lt (by omega) _ (Nat.le_refl _)
  refine w_inv1 30 dX13_rue_27 rfl mlX13_442 rfl rfl (d' := 1) (by decide) (Nat.le_of_ble_eq_true rfl) (c_X13_strengthW hC.2.2.2.1 hY (by omega) ?_)
  refine w_inv1 33 dX13_rue_30 rfl mlX13_56 rfl rfl (d' := 0) (by decide) (Nat.le_of_ble_eq_true rfl) (c_X13_good (fun A9 hQ9 ht9 hw9 => ?_))
  refine wr_i dX13_rue_33 rfl ?_
  exact kq (h A9 ((hQ1.tr hQ3).tr hQ9) (by rw [hz]; exact ht9) hw9) (by unfold rRue; rw [if_pos hz]; rfl)

set_option maxRecDepth 4000 in
theorem a_X13_peaces {K : Option Value → AH → Prop} {A : AH} {r : Value} {w : WT} {s : Nat → Nat} (hC : MC w s A) (h : ∀ A', QM A A' → A'.1 100 1 = nI 0 → A'.1 100 2 = -1 → K (some (.int (nI (cntTo (fun m => subM m (HM w s 0) && decide (clsV w m = 0)) (HM w s 0 + 1))))) A') : WP mX13_peaces 4 dM (GG (.ref 111) r) 28 [some (.ref 100), some (.int (nI (HM w s 0))), none, none] [] A K := by
  have hH := HM_lt w s 0
  have lp32 : ∀ (nf : Nat) (i : Nat), i ≤ HM w s 0 + 1 → HM w s 0 + 1 - i < nf → WP mX13_peaces 4 dM (GG (.ref 111) r) 32 [some (.ref 100), some (.int (nI (HM w s 0))), some (.int (nI (cntTo (fun m => subM m (HM w s 0) && decide (clsV w m = 0)) i))), some (.int (nI i))] [] A K := by
    intro nf
    induction nf with
    | zero => intros; omega
    | succ nf ih =>
      intro i hi hms
      refine w_iload_n 33 dX13_peaces_32 rfl rfl ?_
      refine w_iload_n 34 dX13_peaces_33 rfl rfl ?_
      refine w_icgtN 67 37 dX13_peaces_34 rfl rfl (by omega) (by omega) (fun c34 => ?_) (fun c34 => ?_)
      · skip
        refine w_aload_n 68 dX13_peaces_67 rfl rfl ?_
        refine w_iload_n 69 dX13_peaces_68 rfl rfl ?_
        have e : i = HM w s 0 + 1 := by omega
        subst e
        refine w_inv1 72 dX13_peaces_69 rfl mlX13_56 rfl rfl (d' := 0) (by decide) (Nat.le_of_ble_eq_true rfl) (c_X13_good (fun A9 hQ9 ht9 hw9 => ?_))
        refine wr_i dX13_peaces_72 rfl ?_
        exact h A9 hQ9 ht9 hw9
      · skip
        refine w_iload_n 38 dX13_peaces_37 rfl rfl ?_
        refine w_iload_n 39 dX13_peaces_38 rfl rfl ?_
        refine w_iload_n 40 dX13_peaces_39 rfl rfl ?_
        refine w_iconst 41 dX13_peaces_40 rfl (v := (-1)) rfl ?_
        refine w_ixor 42 dX13_peaces_41 rfl ?_
        refine w_iand 43 dX13_peaces_42 rfl ?_
        have hi2 : i < 256 := by omega
        refine w_ifne 58 46 dX13_peaces_43 rfl rfl (fun c43 => ?_) (fun c43 => ?_)
        · skip
          have hns : subM i (HM w s 0) = false := by rw [← isW hi2]; exact decide_eq_false c43
          refine w_iconst 59 dX13_peaces_58 rfl (v := nI 0) rfl ?_
          refine w_iaddN 60 dX13_peaces_59 rfl ?_
          refine w_ist2 61 dX13_peaces_60 rfl (by decide) rfl ?_
          refine w_inc3 64 dX13_peaces_61 rfl (by decide) rfl (v := nI (_ + 1)) (nI_1 _) ?_
          refine w_goto 32 dX13_peaces_64 rfl ?_
          refine wp_eq ?_ rfl rfl (ih (i + 1) (by omega) (by omega))
          simp [cntTo, hns]
        · skip
          have hns : subM i (HM w s 0) = true := by rw [← isW hi2]; exact decide_eq_true c43
          refine w_aload_n 47 dX13_peaces_46 rfl rfl ?_
          refine w_iload_n 48 dX13_peaces_47 rfl rfl ?_
          refine w_inv1 51 dX13_peaces_48 rfl mlX13_439 rfl rfl (d' := 1) (by decide) (Nat.le_of_ble_eq_true rfl) (c_X13_clashing hC hi2 ?_)
          refine w_ifneN 58 54 dX13_peaces_51 rfl rfl (by have := clsV_le hC.okT i; omega) (fun c51 => ?_) (fun c51 => ?_)
          · skip
            refine w_iconst 59 dX13_peaces_58 rfl (v := nI 0) rfl ?_
            refine w_iaddN 60 dX13_peaces_59 rfl ?_
            refine w_ist2 61 dX13_peaces_60 rfl (by decide) rfl ?_
            refine w_inc3 64 dX13_peaces_61 rfl (by decide) rfl (v := nI (_ + 1)) (nI_1 _) ?_
            refine w_goto 32 dX13_peaces_64 rfl ?_
            refine wp_eq ?_ rfl rfl (ih (i + 1) (by omega) (by omega))
            simp [cntTo, hns, c51]
          · skip
            refine w_iconst 55 dX13_peaces_54 rfl (v := nI 1) rfl ?_
            refine w_goto 59 dX13_peaces_55 rfl ?_
            refine w_iaddN 60 dX13_peaces_59 rfl ?_
            refine w_ist2 61 dX13_peaces_60 rfl (by decide) rfl ?_
            refine w_inc3 64 dX13_peaces_61 rfl (by decide) rfl (v := nI (_ + 1)) (nI_1 _) ?_
            refine w_goto 32 dX13_peaces_64 rfl ?_
            refine wp_eq ?_ rfl rfl (ih (i + 1) (by omega) (by omega))
            simp [cntTo, hns, c51]
  refine w_iconst 29 dX13_peaces_28 rfl (v := nI 0) rfl ?_
  refine w_ist2 30 dX13_peaces_29 rfl (by decide) rfl ?_
  refine w_iconst 31 dX13_peaces_30 rfl (v := nI 0) rfl ?_
  refine w_ist3 32 dX13_peaces_31 rfl (by decide) rfl ?_
  exact lp32 _ 0 (Nat.zero_le _) (Nat.lt_succ_self _)

set_option maxRecDepth 4000 in
theorem c_X13_peaces {K : Option Value → AH → Prop} {A : AH} {r : Value} {w : WT} {s : Nat → Nat} (hC : MC w s A) (h : ∀ A', QM A A' → A'.1 100 1 = nI (t1 (okW1 w)) → A'.1 100 2 = -1 → K (some (.int (rPeaces w s))) A') : Ct yX13_peaces mX13_peaces 4 dM (GG (.ref 111) r) [.ref 100] A K := by
  refine Ct.of [some (.ref 100), none, none, none] rfl rfl rfl (Nat.le_of_ble_eq_true rfl) ?_
  refine w_aload_n 1 dX13_peaces_0 rfl rfl ?_
  refine w_iconst 2 dX13_peaces_1 rfl (v := nI 0) rfl ?_
  refine w_puti 5 dX13_peaces_2 rfl faX13_46 rfl rfl rfl rfl ?_
  have hQ1 : QM A (upd2 A.1 100 0 (nI 0), A.2) := QM.rf.f (by decide) _
  have hC1 := hC.q hQ1
  have hz : t1 (okW1 w) = 0 := by rw [okW1_t hC]; rfl
  refine w_aload_n 6 dX13_peaces_5 rfl rfl ?_
  refine w_getr 9 dX13_peaces_6 rfl faX13_343 rfl rfl rfl (r := .ref 111) rfl ?_
  refine w_nnR 18 dX13_peaces_9 rfl ?_
  refine w_aload_n 19 dX13_peaces_18 rfl rfl ?_
  refine w_iconst 20 dX13_peaces_19 rfl (v := nI 0) rfl ?_
  refine w_inv1 23 dX13_peaces_20 rfl mlX13_398 rfl rfl (d' := 3) (by decide) (Nat.le_of_ble_eq_true rfl) (c_X13_lays hC1 (by decide) (fun A3 hY hX hQ3 => ?_))
  have hC3 := hC1.q hQ3
  have hN := hC3.1.2.1 1 (by decide) (by decide)
  have h8 := hC.2.2.2.1.2.1
  refine w_aload_n 24 dX13_peaces_23 rfl rfl ?_
  refine w_inv0 27 dX13_peaces_24 rfl mlX13_405 rfl rfl (d' := 0) (by decide) (Nat.le_of_ble_eq_true rfl) (c_X13_heldW hC.2.2.2.1 hY ?_)
  refine w_ist1 28 dX13_peaces_27 rfl (by decide) rfl ?_
  exact a_X13_peaces hC3 (fun A9 hQ9 ht9 hw9 => kq (h A9 ((hQ1.tr hQ3).tr hQ9) (by rw [hz]; exact ht9) hw9) (by unfold rPeaces; rw [if_pos hz]))

set_option maxRecDepth 4000 in
theorem n_X13_mend {K : Option Value → AH → Prop} {A : AH} {r : Value}  (h : ∀ A', QM A A' → A'.1 100 1 = nI 1 → A'.1 100 2 = -1 → K (some (.int (-1))) A') : Ct yX13_mend mX13_mend 6 dN (GG .null r) [.ref 100] A K := by
  refine Ct.of [some (.ref 100)] rfl rfl rfl (Nat.le_of_ble_eq_true rfl) ?_
  refine w_aload_n 1 dX13_mend_0 rfl rfl ?_
  refine w_iconst 2 dX13_mend_1 rfl (v := nI 0) rfl ?_
  refine w_puti 5 dX13_mend_2 rfl faX13_46 rfl rfl rfl rfl ?_
  refine w_aload_n 6 dX13_mend_5 rfl rfl ?_
  refine w_getr 9 dX13_mend_6 rfl faX13_343 rfl rfl rfl (r := .null) rfl ?_
  refine w_nnN 12 dX13_mend_9 rfl ?_
  refine w_aload_n 13 dX13_mend_12 rfl rfl ?_
  refine w_iconst 14 dX13_mend_13 rfl (v := nI 1) rfl ?_
  refine w_inv1 17 dX13_mend_14 rfl mlX13_52 rfl rfl (d' := 0) (by decide) (Nat.le_of_ble_eq_true rfl) (c_X13_refusedN (fun A2 hQ2 ht2 hw2 => ?_))
  refine w_goto 28 dX13_mend_17 rfl ?_
  refine wr_i dX13_mend_28 rfl ?_
  exact h A2 ((QM.rf.f (by decide) _).tr hQ2) ht2 hw2

set_option maxRecDepth 4000 in
theorem n_X13_mendCost {K : Option Value → AH → Prop} {A : AH} {r : Value}  (h : ∀ A', QM A A' → A'.1 100 1 = nI 1 → A'.1 100 2 = -1 → K (some (.int (-1))) A') : Ct yX13_mendCost mX13_mendCost 6 dN (GG .null r) [.ref 100] A K := by
  refine Ct.of [some (.ref 100), none] rfl rfl rfl (Nat.le_of_ble_eq_true rfl) ?_
  refine w_aload_n 1 dX13_mendCost_0 rfl rfl ?_
  refine w_iconst 2 dX13_mendCost_1 rfl (v := nI 0) rfl ?_
  refine w_puti 5 dX13_mendCost_2 rfl faX13_46 rfl rfl rfl rfl ?_
  refine w_aload_n 6 dX13_mendCost_5 rfl rfl ?_
  refine w_getr 9 dX13_mendCost_6 rfl faX13_343 rfl rfl rfl (r := .null) rfl ?_
  refine w_nnN 12 dX13_mendCost_9 rfl ?_
  refine w_aload_n 13 dX13_mendCost_12 rfl rfl ?_
  refine w_iconst 14 dX13_mendCost_13 rfl (v := nI 1) rfl ?_
  refine w_inv1 17 dX13_mendCost_14 rfl mlX13_52 rfl rfl (d' := 0) (by decide) (Nat.le_of_ble_eq_true rfl) (c_X13_refusedN (fun A2 hQ2 ht2 hw2 => ?_))
  refine wr_i dX13_mendCost_17 rfl ?_
  exact h A2 ((QM.rf.f (by decide) _).tr hQ2) ht2 hw2

set_option maxRecDepth 4000 in
theorem n_X13_bestOffer {K : Option Value → AH → Prop} {A : AH} {r : Value}  (h : ∀ A', QM A A' → A'.1 100 1 = nI 1 → A'.1 100 2 = -1 → K (some (.int (-1))) A') : Ct yX13_bestOffer mX13_bestOffer 5 dN (GG .null r) [.ref 100] A K := by
  refine Ct.of [some (.ref 100), none, none, none, none] rfl rfl rfl (Nat.le_of_ble_eq_true rfl) ?_
  refine w_aload_n 1 dX13_bestOffer_0 rfl rfl ?_
  refine w_iconst 2 dX13_bestOffer_1 rfl (v := nI 0) rfl ?_
  refine w_puti 5 dX13_bestOffer_2 rfl faX13_46 rfl rfl rfl rfl ?_
  refine w_aload_n 6 dX13_bestOffer_5 rfl rfl ?_
  refine w_getr 9 dX13_bestOffer_6 rfl faX13_343 rfl rfl rfl (r := .null) rfl ?_
  refine w_nnN 12 dX13_bestOffer_9 rfl ?_
  refine w_aload_n 13 dX13_bestOffer_12 rfl rfl ?_
  refine w_iconst 14 dX13_bestOffer_13 rfl (v := nI 1) rfl ?_
  refine w_inv1 17 dX13_bestOffer_14 rfl mlX13_52 rfl rfl (d' := 0) (by decide) (Nat.le_of_ble_eq_true rfl) (c_X13_refusedN (fun A2 hQ2 ht2 hw2 => ?_))
  refine wr_i dX13_bestOffer_17 rfl ?_
  exact h A2 ((QM.rf.f (by decide) _).tr hQ2) ht2 hw2

set_option maxRecDepth 4000 in
theorem n_X13_breakFew {K : Option Value → AH → Prop} {A : AH} {r : Value}  (h : ∀ A', QM A A' → A'.1 100 1 = nI 1 → A'.1 100 2 = -1 → K (some (.int (-1))) A') : Ct yX13_breakFew mX13_breakFew 5 dN (GG .null r) [.ref 100] A K := by
  refine Ct.of [some (.ref 100)] rfl rfl rfl (Nat.le_of_ble_eq_true rfl) ?_
  refine w_aload_n 1 dX13_breakFew_0 rfl rfl ?_
  refine w_iconst 2 dX13_breakFew_1 rfl (v := nI 0) rfl ?_
  refine w_puti 5 dX13_breakFew_2 rfl faX13_46 rfl rfl rfl rfl ?_
  refine w_aload_n 6 dX13_breakFew_5 rfl rfl ?_
  refine w_getr 9 dX13_breakFew_6 rfl faX13_343 rfl rfl rfl (r := .null) rfl ?_
  refine w_nnN 12 dX13_breakFew_9 rfl ?_
  refine w_aload_n 13 dX13_breakFew_12 rfl rfl ?_
  refine w_iconst 14 dX13_breakFew_13 rfl (v := nI 1) rfl ?_
  refine w_inv1 17 dX13_breakFew_14 rfl mlX13_52 rfl rfl (d' := 0) (by decide) (Nat.le_of_ble_eq_true rfl) (c_X13_refusedN (fun A2 hQ2 ht2 hw2 => ?_))
  refine w_goto 29 dX13_breakFew_17 rfl ?_
  refine wr_i dX13_breakFew_29 rfl ?_
  exact h A2 ((QM.rf.f (by decide) _).tr hQ2) ht2 hw2

set_option maxRecDepth 4000 in
theorem n_X13_breakRued {K : Option Value → AH → Prop} {A : AH} {r : Value}  (h : ∀ A', QM A A' → A'.1 100 1 = nI 1 → A'.1 100 2 = -1 → K (some (.int (-1))) A') : Ct yX13_breakRued mX13_breakRued 5 dN (GG .null r) [.ref 100] A K := by
  refine Ct.of [some (.ref 100)] rfl rfl rfl (Nat.le_of_ble_eq_true rfl) ?_
  refine w_aload_n 1 dX13_breakRued_0 rfl rfl ?_
  refine w_iconst 2 dX13_breakRued_1 rfl (v := nI 0) rfl ?_
  refine w_puti 5 dX13_breakRued_2 rfl faX13_46 rfl rfl rfl rfl ?_
  refine w_aload_n 6 dX13_breakRued_5 rfl rfl ?_
  refine w_getr 9 dX13_breakRued_6 rfl faX13_343 rfl rfl rfl (r := .null) rfl ?_
  refine w_nnN 12 dX13_breakRued_9 rfl ?_
  refine w_aload_n 13 dX13_breakRued_12 rfl rfl ?_
  refine w_iconst 14 dX13_breakRued_13 rfl (v := nI 1) rfl ?_
  refine w_inv1 17 dX13_breakRued_14 rfl mlX13_52 rfl rfl (d' := 0) (by decide) (Nat.le_of_ble_eq_true rfl) (c_X13_refusedN (fun A2 hQ2 ht2 hw2 => ?_))
  refine w_goto 29 dX13_breakRued_17 rfl ?_
  refine wr_i dX13_breakRued_29 rfl ?_
  exact h A2 ((QM.rf.f (by decide) _).tr hQ2) ht2 hw2

set_option maxRecDepth 4000 in
theorem n_X13_rue {K : Option Value → AH → Prop} {A : AH} {r : Value}  (h : ∀ A', QM A A' → A'.1 100 1 = nI 1 → A'.1 100 2 = -1 → K (some (.int (-1))) A') : Ct yX13_rue mX13_rue 5 dN (GG .null r) [.ref 100] A K := by
  refine Ct.of [some (.ref 100)] rfl rfl rfl (Nat.le_of_ble_eq_true rfl) ?_
  refine w_aload_n 1 dX13_rue_0 rfl rfl ?_
  refine w_iconst 2 dX13_rue_1 rfl (v := nI 0) rfl ?_
  refine w_puti 5 dX13_rue_2 rfl faX13_46 rfl rfl rfl rfl ?_
  refine w_aload_n 6 dX13_rue_5 rfl rfl ?_
  refine w_getr 9 dX13_rue_6 rfl faX13_343 rfl rfl rfl (r := .null) rfl ?_
  refine w_nnN 12 dX13_rue_9 rfl ?_
  refine w_aload_n 13 dX13_rue_12 rfl rfl ?_
  refine w_iconst 14 dX13_rue_13 rfl (v := nI 1) rfl ?_
  refine w_inv1 17 dX13_rue_14 rfl mlX13_52 rfl rfl (d' := 0) (by decide) (Nat.le_of_ble_eq_true rfl) (c_X13_refusedN (fun A2 hQ2 ht2 hw2 => ?_))
  refine w_goto 33 dX13_rue_17 rfl ?_
  refine wr_i dX13_rue_33 rfl ?_
  exact h A2 ((QM.rf.f (by decide) _).tr hQ2) ht2 hw2

set_option maxRecDepth 4000 in
theorem n_X13_peaces {K : Option Value → AH → Prop} {A : AH} {r : Value}  (h : ∀ A', QM A A' → A'.1 100 1 = nI 1 → A'.1 100 2 = -1 → K (some (.int (-1))) A') : Ct yX13_peaces mX13_peaces 4 dN (GG .null r) [.ref 100] A K := by
  refine Ct.of [some (.ref 100), none, none, none] rfl rfl rfl (Nat.le_of_ble_eq_true rfl) ?_
  refine w_aload_n 1 dX13_peaces_0 rfl rfl ?_
  refine w_iconst 2 dX13_peaces_1 rfl (v := nI 0) rfl ?_
  refine w_puti 5 dX13_peaces_2 rfl faX13_46 rfl rfl rfl rfl ?_
  refine w_aload_n 6 dX13_peaces_5 rfl rfl ?_
  refine w_getr 9 dX13_peaces_6 rfl faX13_343 rfl rfl rfl (r := .null) rfl ?_
  refine w_nnN 12 dX13_peaces_9 rfl ?_
  refine w_aload_n 13 dX13_peaces_12 rfl rfl ?_
  refine w_iconst 14 dX13_peaces_13 rfl (v := nI 1) rfl ?_
  refine w_inv1 17 dX13_peaces_14 rfl mlX13_52 rfl rfl (d' := 0) (by decide) (Nat.le_of_ble_eq_true rfl) (c_X13_refusedN (fun A2 hQ2 ht2 hw2 => ?_))
  refine wr_i dX13_peaces_17 rfl ?_
  exact h A2 ((QM.rf.f (by decide) _).tr hQ2) ht2 hw2

set_option maxRecDepth 4000 in
theorem n_X13_fits {K : Option Value → AH → Prop} {A : AH} {r : Value}  (h : ∀ A', QM A A' → A'.1 100 1 = nI 1 → A'.1 100 2 = -1 → K (some (.int (-1))) A') : Ct yX13_fits mX13_fits 5 dN (GG .null r) [.ref 100] A K := by
  refine Ct.of [some (.ref 100)] rfl rfl rfl (Nat.le_of_ble_eq_true rfl) ?_
  refine w_aload_n 1 dX13_fits_0 rfl rfl ?_
  refine w_iconst 2 dX13_fits_1 rfl (v := nI 0) rfl ?_
  refine w_puti 5 dX13_fits_2 rfl faX13_46 rfl rfl rfl rfl ?_
  refine w_aload_n 6 dX13_fits_5 rfl rfl ?_
  refine w_getr 9 dX13_fits_6 rfl faX13_343 rfl rfl rfl (r := .null) rfl ?_
  refine w_nnN 12 dX13_fits_9 rfl ?_
  refine w_aload_n 13 dX13_fits_12 rfl rfl ?_
  refine w_iconst 14 dX13_fits_13 rfl (v := nI 1) rfl ?_
  refine w_inv1 17 dX13_fits_14 rfl mlX13_52 rfl rfl (d' := 0) (by decide) (Nat.le_of_ble_eq_true rfl) (c_X13_refusedN (fun A2 hQ2 ht2 hw2 => ?_))
  refine wr_i dX13_fits_17 rfl ?_
  exact h A2 ((QM.rf.f (by decide) _).tr hQ2) ht2 hw2

set_option maxRecDepth 4000 in
theorem n_X13_likeliest {K : Option Value → AH → Prop} {A : AH} {r : Value}  (h : ∀ A', QM A A' → A'.1 100 1 = nI 1 → A'.1 100 2 = -1 → K (some (.int (-1))) A') : Ct yX13_likeliest mX13_likeliest 4 dN (GG .null r) [.ref 100] A K := by
  refine Ct.of [some (.ref 100), none, none, none, none] rfl rfl rfl (Nat.le_of_ble_eq_true rfl) ?_
  refine w_aload_n 1 dX13_likeliest_0 rfl rfl ?_
  refine w_iconst 2 dX13_likeliest_1 rfl (v := nI 0) rfl ?_
  refine w_puti 5 dX13_likeliest_2 rfl faX13_46 rfl rfl rfl rfl ?_
  refine w_aload_n 6 dX13_likeliest_5 rfl rfl ?_
  refine w_getr 9 dX13_likeliest_6 rfl faX13_343 rfl rfl rfl (r := .null) rfl ?_
  refine w_nnN 12 dX13_likeliest_9 rfl ?_
  refine w_aload_n 13 dX13_likeliest_12 rfl rfl ?_
  refine w_iconst 14 dX13_likeliest_13 rfl (v := nI 1) rfl ?_
  refine w_inv1 17 dX13_likeliest_14 rfl mlX13_52 rfl rfl (d' := 0) (by decide) (Nat.le_of_ble_eq_true rfl) (c_X13_refusedN (fun A2 hQ2 ht2 hw2 => ?_))
  refine wr_i dX13_likeliest_17 rfl ?_
  exact h A2 ((QM.rf.f (by decide) _).tr hQ2) ht2 hw2

set_option maxRecDepth 4000 in
theorem n_X13_test {K : Option Value → AH → Prop} {A : AH} {r : Value}  (h : ∀ A', QM A A' → A'.1 100 1 = nI 1 → A'.1 100 2 = -1 → K (some (.int (-1))) A') : Ct yX13_test mX13_test 6 dN (GG .null r) [.ref 100] A K := by
  refine Ct.of [some (.ref 100)] rfl rfl rfl (Nat.le_of_ble_eq_true rfl) ?_
  refine w_aload_n 1 dX13_test_0 rfl rfl ?_
  refine w_iconst 2 dX13_test_1 rfl (v := nI 0) rfl ?_
  refine w_puti 5 dX13_test_2 rfl faX13_46 rfl rfl rfl rfl ?_
  refine w_aload_n 6 dX13_test_5 rfl rfl ?_
  refine w_getr 9 dX13_test_6 rfl faX13_343 rfl rfl rfl (r := .null) rfl ?_
  refine w_nnN 12 dX13_test_9 rfl ?_
  refine w_aload_n 13 dX13_test_12 rfl rfl ?_
  refine w_iconst 14 dX13_test_13 rfl (v := nI 1) rfl ?_
  refine w_inv1 17 dX13_test_14 rfl mlX13_52 rfl rfl (d' := 0) (by decide) (Nat.le_of_ble_eq_true rfl) (c_X13_refusedN (fun A2 hQ2 ht2 hw2 => ?_))
  refine w_goto 28 dX13_test_17 rfl ?_
  refine wr_i dX13_test_28 rfl ?_
  exact h A2 ((QM.rf.f (by decide) _).tr hQ2) ht2 hw2

set_option maxRecDepth 4000 in
theorem n_X13_testLeaves {K : Option Value → AH → Prop} {A : AH} {r : Value}  (h : ∀ A', QM A A' → A'.1 100 1 = nI 1 → A'.1 100 2 = -1 → K (some (.int (-1))) A') : Ct yX13_testLeaves mX13_testLeaves 6 dN (GG .null r) [.ref 100] A K := by
  refine Ct.of [some (.ref 100)] rfl rfl rfl (Nat.le_of_ble_eq_true rfl) ?_
  refine w_aload_n 1 dX13_testLeaves_0 rfl rfl ?_
  refine w_iconst 2 dX13_testLeaves_1 rfl (v := nI 0) rfl ?_
  refine w_puti 5 dX13_testLeaves_2 rfl faX13_46 rfl rfl rfl rfl ?_
  refine w_aload_n 6 dX13_testLeaves_5 rfl rfl ?_
  refine w_getr 9 dX13_testLeaves_6 rfl faX13_343 rfl rfl rfl (r := .null) rfl ?_
  refine w_nnN 12 dX13_testLeaves_9 rfl ?_
  refine w_aload_n 13 dX13_testLeaves_12 rfl rfl ?_
  refine w_iconst 14 dX13_testLeaves_13 rfl (v := nI 1) rfl ?_
  refine w_inv1 17 dX13_testLeaves_14 rfl mlX13_52 rfl rfl (d' := 0) (by decide) (Nat.le_of_ble_eq_true rfl) (c_X13_refusedN (fun A2 hQ2 ht2 hw2 => ?_))
  refine wr_i dX13_testLeaves_17 rfl ?_
  exact h A2 ((QM.rf.f (by decide) _).tr hQ2) ht2 hw2

set_option maxRecDepth 4000 in
theorem n_X13_judge {K : Option Value → AH → Prop} {A : AH} {r : Value}  (h : ∀ A', QM A A' → A'.1 100 1 = nI 1 → A'.1 100 2 = -1 → K (some (.int (-1))) A') : Ct yX13_judge mX13_judge 3 dN (GG .null r) [.ref 100] A K := by
  refine Ct.of [some (.ref 100), none] rfl rfl rfl (Nat.le_of_ble_eq_true rfl) ?_
  refine w_aload_n 1 dX13_judge_0 rfl rfl ?_
  refine w_iconst 2 dX13_judge_1 rfl (v := nI 0) rfl ?_
  refine w_puti 5 dX13_judge_2 rfl faX13_46 rfl rfl rfl rfl ?_
  refine w_aload_n 6 dX13_judge_5 rfl rfl ?_
  refine w_getr 9 dX13_judge_6 rfl faX13_343 rfl rfl rfl (r := .null) rfl ?_
  refine w_nnN 12 dX13_judge_9 rfl ?_
  refine w_aload_n 13 dX13_judge_12 rfl rfl ?_
  refine w_iconst 14 dX13_judge_13 rfl (v := nI 1) rfl ?_
  refine w_inv1 17 dX13_judge_14 rfl mlX13_52 rfl rfl (d' := 0) (by decide) (Nat.le_of_ble_eq_true rfl) (c_X13_refusedN (fun A2 hQ2 ht2 hw2 => ?_))
  refine wr_i dX13_judge_17 rfl ?_
  exact h A2 ((QM.rf.f (by decide) _).tr hQ2) ht2 hw2

set_option maxRecDepth 4000 in
theorem n_X13_fallsIn {K : Option Value → AH → Prop} {A : AH} {r : Value} {k : Int32} (h : ∀ A', QM A A' → A'.1 100 1 = nI 1 → A'.1 100 2 = -1 → K (some (.int (-1))) A') : Ct yX13_fallsIn mX13_fallsIn 5 dN (GG .null r) [.ref 100, .int k] A K := by
  refine Ct.of [some (.ref 100), some (.int k), none] rfl rfl rfl (Nat.le_of_ble_eq_true rfl) ?_
  refine w_aload_n 1 dX13_fallsIn_0 rfl rfl ?_
  refine w_iconst 2 dX13_fallsIn_1 rfl (v := nI 0) rfl ?_
  refine w_puti 5 dX13_fallsIn_2 rfl faX13_46 rfl rfl rfl rfl ?_
  refine w_aload_n 6 dX13_fallsIn_5 rfl rfl ?_
  refine w_iload_n 7 dX13_fallsIn_6 rfl rfl ?_
  refine w_inv1 10 dX13_fallsIn_7 rfl mlX13_424 rfl rfl (d' := 0) (by decide) (Nat.le_of_ble_eq_true rfl) (c_X13_isLoadN ?_)
  refine w_ifneB 19 13 dX13_fallsIn_10 rfl rfl (fun cc => by cases cc) (fun _ => ?_)
  refine w_aload_n 14 dX13_fallsIn_13 rfl rfl ?_
  refine w_iconst 15 dX13_fallsIn_14 rfl (v := nI 1) rfl ?_
  refine w_inv1 18 dX13_fallsIn_15 rfl mlX13_52 rfl rfl (d' := 0) (by decide) (Nat.le_of_ble_eq_true rfl) (c_X13_refusedN (fun A2 hQ2 ht2 hw2 => ?_))
  refine wr_i dX13_fallsIn_18 rfl ?_
  exact h A2 ((QM.rf.f (by decide) _).tr hQ2) ht2 hw2

set_option maxRecDepth 4000 in
theorem n_X13_spare {K : Option Value → AH → Prop} {A : AH} {r : Value} {k : Int32} (h : ∀ A', QM A A' → A'.1 100 1 = nI 1 → A'.1 100 2 = -1 → K (some (.int (-1000))) A') : Ct yX13_spare mX13_spare 4 dN (GG .null r) [.ref 100, .int k] A K := by
  refine Ct.of [some (.ref 100), some (.int k)] rfl rfl rfl (Nat.le_of_ble_eq_true rfl) ?_
  refine w_aload_n 1 dX13_spare_0 rfl rfl ?_
  refine w_iconst 2 dX13_spare_1 rfl (v := nI 0) rfl ?_
  refine w_puti 5 dX13_spare_2 rfl faX13_46 rfl rfl rfl rfl ?_
  refine w_aload_n 6 dX13_spare_5 rfl rfl ?_
  refine w_iload_n 7 dX13_spare_6 rfl rfl ?_
  refine w_inv1 10 dX13_spare_7 rfl mlX13_424 rfl rfl (d' := 0) (by decide) (Nat.le_of_ble_eq_true rfl) (c_X13_isLoadN ?_)
  refine w_ifneB 22 13 dX13_spare_10 rfl rfl (fun cc => by cases cc) (fun _ => ?_)
  refine w_aload_n 14 dX13_spare_13 rfl rfl ?_
  refine w_iconst 15 dX13_spare_14 rfl (v := nI 1) rfl ?_
  refine w_sipush 18 dX13_spare_15 rfl (v := (-1000)) rfl ?_
  refine w_inv2 21 dX13_spare_18 rfl mlX13_427 rfl rfl (d' := 1) (by decide) (Nat.le_of_ble_eq_true rfl) (c_X13_lostN (fun A2 hQ2 ht2 hw2 => ?_))
  refine wr_i dX13_spare_21 rfl ?_
  exact h A2 ((QM.rf.f (by decide) _).tr hQ2) ht2 hw2

