/-! ===== the reference reads: two nails; a name noted ===== -/
/-- a step appends d values -/
def Ap (d : Nat) (f : Nat × List Nat → PR) : Prop := ∀ y z, f y = .inr z → ∃ t, z.2 = y.2 ++ t ∧ t.length = d
theorem PV.bd {x : PR} {k d : Nat} {v : Int32} {f : Nat × List Nat → PR} (h : PV x k v) (hf : Ap d f) : PV (bindP x f) k v := by
  intro p l e
  cases x with
  | inl z => cases e
  | inr y =>
    obtain ⟨t, h1, _⟩ := hf y (p, l) e
    obtain ⟨h2, h3, h4⟩ := h y.1 y.2 rfl
    have h1 : l = y.2 ++ t := h1
    subst h1
    rw [getD_app h2]
    exact ⟨by rw [List.length_append]; omega, h3, h4⟩
theorem Ln.bd {x : PR} {k d : Nat} {f : Nat × List Nat → PR} (h : Ln x k) (hf : Ap d f) : Ln (bindP x f) (k + d) := by
  intro p l e
  cases x with
  | inl z => cases e
  | inr y =>
    obtain ⟨t, h1, h2⟩ := hf y (p, l) e
    have h1 : l = y.2 ++ t := h1
    rw [h1, List.length_append, h y.1 y.2 rfl, h2]
theorem ap_wd (g : Nat → Nat) (n j : Nat) : Ap 0 (sWd g n j) := fun y z h => by
  unfold sWd at h
  split at h
  · cases h; exact ⟨[], by simp, rfl⟩
  · cases h
theorem ap_wh (g : Nat → Nat) (n lo hi : Nat) : Ap 1 (sWh g n lo hi) := fun y z h => by
  unfold sWh at h
  repeat' split at h
  · cases h; exact ⟨[_], rfl, rfl⟩
  · cases h
  · cases h
theorem ap_nm (g : Nat → Nat) (n : Nat) (nm : NT) (j : Nat) : Ap 1 (sNm g n nm j) := fun y z h => by
  unfold sNm at h
  repeat' split at h
  · cases h; exact ⟨[_], rfl, rfl⟩
  · cases h
  · cases h
theorem ap_nk (g : Nat → Nat) (n : Nat) (nm : NT) (j : Nat) : Ap 1 (sNk g n nm j) := fun y z h => by
  unfold sNk at h
  repeat' split at h
  · cases h; exact ⟨[_], rfl, rfl⟩
  · cases h
  · cases h
theorem ap_fr (g : Nat → Nat) (n : Nat) (nm : NT) : Ap 0 (sFr g n nm) := fun y z h => by
  unfold sFr at h
  repeat' split at h
  · cases h
  · cases h; exact ⟨[], by simp, rfl⟩
  · cases h
theorem ap_kd (g : Nat → Nat) (n : Nat) : Ap 1 (sKd g n) := fun y z h => by
  unfold sKd at h
  split at h
  · cases h; exact ⟨[_], rfl, rfl⟩
  · cases h
theorem ap_hw (g : Nat → Nat) (n : Nat) : Ap 1 (sHw g n) := fun y z h => by
  unfold sHw at h
  repeat' split at h
  · cases h; exact ⟨[_], rfl, rfl⟩
  · cases h; exact ⟨[_], rfl, rfl⟩
  · cases h
theorem ap_nmc (g : Nat → Nat) (n : Nat) (nm : NT) (j : Nat) (bad : List Nat → Bool) : Ap 1 (sNmC g n nm j bad) := fun y z h => by
  unfold sNmC bindP at h
  cases hx : sNm g n nm j y with
  | inl z => rw [hx] at h; cases h
  | inr u =>
    rw [hx] at h
    dsimp only at h
    split at h
    · cases h
    · cases h; exact ap_nm g n nm j y _ hx
theorem nmC_nk {g : Nat → Nat} {n : Nat} {nm : NT} {j : Nat} {bad : List Nat → Bool} {x : PR} : bindP x (sNmC g n nm j bad) = bindP (bindP x (sNk g n nm j)) (fun y => if bad y.2 then .inl (3, tkS g n y.1) else .inr (tkE g n y.1, y.2)) := by
  cases x with
  | inl z => rfl
  | inr y =>
    show sNmC g n nm j bad y = bindP (sNk g n nm j y) _
    unfold sNmC sNm sNk
    split
    · cases nNum nm (tkC g n y.1) j <;> rfl
    · rfl
theorem SR.f15 {g : Nat → Nat} {n : Nat} {x : PR} {A : AH} (h : SR g n x A) (u : Int32) : SR g n x (upd2 A.1 100 15 u, A.2) := by
  cases x with
  | inl z =>
    obtain ⟨h1, h2, h3, h4⟩ := h
    exact ⟨by dsimp only; rw [upd2_off (by decide)]; exact h1, by dsimp only; rw [upd2_off (by decide)]; exact h2, by dsimp only; rw [upd2_off (by decide)]; exact h3, h4⟩
  | inr y =>
    obtain ⟨h1, h2, h3, h4, h5, h6, h7⟩ := h
    exact ⟨h1, by dsimp only; rw [upd2_off (by decide)]; exact h2, by dsimp only; rw [upd2_off (by decide)]; exact h3, by dsimp only; rw [upd2_off (by decide)]; exact h4, fun q => by dsimp only; rw [upd2_off (by decide)]; exact h5 q, h6, fun q => by dsimp only; rw [upd2_off (by decide)]; exact h7 q⟩
theorem badU_2 {l : List Nat} {k : Nat} (h : l.length = k + 1 + 1) : badU l = decide (l.getD (k + 1) 0 = l.getD k 0) := by
  unfold badU
  rw [h, show k + 1 + 1 - 1 = k + 1 by omega, show k + 1 + 1 - 2 = k by omega]
  congr 1
  exact propext ⟨fun z => z.2, fun z => ⟨by omega, z⟩⟩
set_option maxRecDepth 4000 in
theorem c_X13_readNails {K : Option Value → AH → Prop} {A : AH} {v : Value} {n : Nat} {tp : Nat → Int32} {x : PR} {nm : NT} {k : Nat} (hT : TA n tp A) (hS : SR (gB tp) n x A) (hl : Ln x k) (hN : RN nm A) (h : ∀ A' u, SR (gB tp) n (bindP (bindP x (sNm (gB tp) n nm 1)) (sNmC (gB tp) n nm 1 badU)) A' → PV (bindP (bindP x (sNm (gB tp) n nm 1)) (sNmC (gB tp) n nm 1 badU)) k u → PV (bindP (bindP x (sNm (gB tp) n nm 1)) (sNmC (gB tp) n nm 1 badU)) (k + 1) (A'.1 100 15) → FQ A A' → K (some (.int u)) A') : Ct yX13_readNails mX13_readNails 9 dM (GG v (.ref 111)) [.ref 100] A K := by
  refine Ct.of [some (.ref 100), none] rfl rfl rfl (Nat.le_of_ble_eq_true rfl) ?_
  refine w_aload_n 1 dX13_readNails_0 rfl rfl ?_
  refine w_iconst 2 dX13_readNails_1 rfl (v := nI 0) rfl ?_
  refine w_inv1 5 dX13_readNails_2 rfl mlX13_182 rfl rfl (d' := 8) (by decide) (Nat.le_of_ble_eq_true rfl) (c_X13_readKnown (j := 0) hT hS hl hN (by decide) (fun A2 u1 hS2 hV2 hF2 => ?_))
  have hl2 : Ln (bindP x (sNm (gB tp) n nm 1)) (k + 1) := hl.bd (ap_nm _ _ _ _)
  refine w_ist1 6 dX13_readNails_5 rfl (by decide) rfl ?_
  refine w_aload_n 7 dX13_readNails_6 rfl rfl ?_
  refine w_aload_n 8 dX13_readNails_7 rfl rfl ?_
  refine w_iconst 9 dX13_readNails_8 rfl (v := nI 0) rfl ?_
  refine w_inv1 12 dX13_readNails_9 rfl mlX13_179 rfl rfl (d' := 7) (by decide) (Nat.le_of_ble_eq_true rfl) (c_X13_knownOne (x := (bindP x (sNm (gB tp) n nm 1))) (j := 0) (hT.fp hF2) hS2 hl2 (hN.fp hF2) (by decide) (fun A3 u2 hS3 hV3 hF3 => ?_))
  refine w_puti 15 dX13_readNails_12 rfl faX13_185 rfl rfl rfl rfl ?_
  have hS5 : SR (gB tp) n (bindP (bindP x (sNm (gB tp) n nm 1)) (sNk (gB tp) n nm 1)) (upd2 A3.1 100 15 u2, A3.2) := hS3.f15 u2
  have hV1 : PV (bindP (bindP x (sNm (gB tp) n nm 1)) (sNk (gB tp) n nm 1)) k u1 := PV.bd hV2 (ap_nk _ _ _ _)
  have hl3 : Ln (bindP (bindP x (sNm (gB tp) n nm 1)) (sNk (gB tp) n nm 1)) (k + 1 + 1) := hl2.bd (ap_nk _ _ _ _)
  have hF5 : FQ A (upd2 A3.1 100 15 u2, A3.2) := ((hF2.tr hF3).q).f (by decide) (by decide) _
  have hT5 := hT.fq hF5
  have hsx := sx_le (g := gB tp) (n := n) (x := (bindP (bindP x (sNm (gB tp) n nm 1)) (sNk (gB tp) n nm 1)))
  refine w_aload_n 16 dX13_readNails_15 rfl rfl ?_
  refine w_getiv 19 dX13_readNails_16 rfl faX13_78 rfl rfl rfl hS5.srt ?_
  refine w_iconst 20 dX13_readNails_19 rfl (v := nI 5) rfl ?_
  refine w_iceqN 36 23 dX13_readNails_20 rfl rfl (by omega) (by omega) (fun c20 => ?_) (fun c20 => ?_)
  · skip
    obtain ⟨z, hz⟩ := sx_5 (by omega : sx (gB tp) n (bindP (bindP x (sNm (gB tp) n nm 1)) (sNk (gB tp) n nm 1)) = 5)
    have er : bindP (bindP x (sNm (gB tp) n nm 1)) (sNmC (gB tp) n nm 1 badU) = .inl z := by rw [nmC_nk, hz]; rfl
    rw [hz] at hS5
    refine w_aload_n 37 dX13_readNails_36 rfl rfl ?_
    refine w_inv0 40 dX13_readNails_37 rfl mlX13_114 rfl rfl (d' := 1) (by decide) (Nat.le_of_ble_eq_true rfl) (s_X13_goesOn (hT5) (hS5) (fun y e => by cases e) (fun A4 hS4 hF4 => ?_))
    refine w_iload_n 41 dX13_readNails_40 rfl rfl ?_
    refine wr_i dX13_readNails_41 rfl ?_
    exact h A4 u1 (by rw [er]; exact hS4) (by rw [er]; intro p l e; cases e) (by rw [er]; intro p l e; cases e) (hF5.tr hF4.q)
  · skip
    obtain ⟨z, hz⟩ := sx_n5 (by omega : ¬ sx (gB tp) n (bindP (bindP x (sNm (gB tp) n nm 1)) (sNk (gB tp) n nm 1)) = 5)
    obtain ⟨a1, a2, a3⟩ := hV1 z.1 z.2 hz
    obtain ⟨b1, b2, b3⟩ := hV3 z.1 z.2 hz
    have hb := badU_2 (hl3 z.1 z.2 hz)
    have hzk := nk_k z hz
    rw [hz] at hS5
    refine w_iload_n 24 dX13_readNails_23 rfl rfl ?_
    refine w_aload_n 25 dX13_readNails_24 rfl rfl ?_
    refine w_getiv 28 dX13_readNails_25 rfl faX13_185 rfl rfl rfl (v := u2) (by dsimp only; rw [upd2_at]) ?_
    refine w_icne 36 31 dX13_readNails_28 rfl rfl (fun c28 => ?_) (fun c28 => ?_)
    · skip
      refine w_aload_n 37 dX13_readNails_36 rfl rfl ?_
      refine w_inv0 40 dX13_readNails_37 rfl mlX13_114 rfl rfl (d' := 1) (by decide) (Nat.le_of_ble_eq_true rfl) (s_X13_goesOn (hT5) (hS5) (fun y e => by cases e; exact hzk) (fun A4 hS4 hF4 => ?_))
      refine w_iload_n 41 dX13_readNails_40 rfl rfl ?_
      refine wr_i dX13_readNails_41 rfl ?_
      have er : bindP (bindP x (sNm (gB tp) n nm 1)) (sNmC (gB tp) n nm 1 badU) = .inr (tkE (gB tp) n z.1, z.2) := by
        rw [nmC_nk, hz]
        show (if badU z.2 then _ else _) = _
        rw [hb, decide_eq_false (fun q => c28 (by rw [a3, b3, q]))]
        rfl
      exact h A4 u1 (by rw [er]; exact hS4) (by rw [er]; intro p l e; cases e; exact ⟨a1, a2, a3⟩) (by rw [er]; intro p l e; cases e; rw [hF4.2 15 (by omega)]; dsimp only; rw [upd2_at]; exact ⟨b1, b2, b3⟩) (hF5.tr hF4.q)
    · skip
      refine w_aload_n 32 dX13_readNails_31 rfl rfl ?_
      refine w_iconst 33 dX13_readNails_32 rfl (v := nI 3) rfl ?_
      refine w_inv1 36 dX13_readNails_33 rfl mlX13_117 rfl rfl (d' := 0) (by decide) (Nat.le_of_ble_eq_true rfl) (s_X13_flaw (by decide) hS5 (fun A6 hS6 hF6 => ?_))
      refine w_aload_n 37 dX13_readNails_36 rfl rfl ?_
      refine w_inv0 40 dX13_readNails_37 rfl mlX13_114 rfl rfl (d' := 1) (by decide) (Nat.le_of_ble_eq_true rfl) (s_X13_goesOn (hT5.fp hF6) (hS6) (fl_k) (fun A4 hS4 hF4 => ?_))
      refine w_iload_n 41 dX13_readNails_40 rfl rfl ?_
      refine wr_i dX13_readNails_41 rfl ?_
      have er : bindP (bindP x (sNm (gB tp) n nm 1)) (sNmC (gB tp) n nm 1 badU) = .inl (3, tkS (gB tp) n z.1) := by
        rw [nmC_nk, hz]
        show (if badU z.2 then _ else _) = _
        rw [hb, decide_eq_true (by rw [a3, b3] at c28; exact ((nI_eq (by omega) (by omega)).mp c28).symm)]
        rfl
      exact h A4 u1 (by rw [er]; exact hS4) (by rw [er]; intro p l e; cases e) (by rw [er]; intro p l e; cases e) ((hF5.tr hF6.q).tr hF4.q)

set_option maxRecDepth 4000 in
theorem c_X13_names {K : Option Value → AH → Prop} {A : AH} {v : Value} {nm : NT} {c j k : Nat} (hN : RN nm A) (h14 : nm.1 < 14) (hc : c < 2 ^ 40) (hj : j < 2) (hk : k < 8) (hD : nmD (nAdd nm c (j + 1) k)) (h : ∀ A', RN (nAdd nm c (j + 1) k) A' → OffL [111, 130, 131, 132] A A' → (∀ i, i ≠ 10 → A'.1 111 i = A.1 111 i) → K none A') : Ct yX13_names mX13_names 0 dM (GG v (.ref 111)) [.ref 100, .long (lN c), .int (nI j), .int (nI k)] A K := by
  refine Ct.of [some (.ref 100), some (.long (lN c)), none, some (.int (nI j)), some (.int (nI k))] rfl rfl rfl (Nat.le_of_ble_eq_true rfl) ?_
  refine w_aload_n 1 dX13_names_0 rfl rfl ?_
  refine w_getr 4 dX13_names_1 rfl faX13_149 rfl rfl rfl (r := .ref 111) rfl ?_
  refine w_getr 7 dX13_names_4 rfl faX13_166 rfl rfl rfl (r := .ref 130) rfl ?_
  refine w_aload_n 8 dX13_names_7 rfl rfl ?_
  refine w_getr 11 dX13_names_8 rfl faX13_149 rfl rfl rfl (r := .ref 111) rfl ?_
  refine w_getiv 14 dX13_names_11 rfl faX13_170 rfl rfl rfl hN.1 ?_
  refine w_lload_n 15 dX13_names_14 rfl rfl ?_
  refine w_lastN 16 dX13_names_15 rfl rfl rfl (by decide) (by omega) ?_
  refine w_aload_n 17 dX13_names_16 rfl rfl ?_
  refine w_getr 20 dX13_names_17 rfl faX13_149 rfl rfl rfl (r := .ref 111) rfl ?_
  refine w_getr 23 dX13_names_20 rfl faX13_173 rfl rfl rfl (r := .ref 131) rfl ?_
  refine w_aload_n 24 dX13_names_23 rfl rfl ?_
  refine w_getr 27 dX13_names_24 rfl faX13_149 rfl rfl rfl (r := .ref 111) rfl ?_
  refine w_getiv 30 dX13_names_27 rfl faX13_170 rfl rfl rfl hN.1 ?_
  refine w_iload_n 31 dX13_names_30 rfl rfl ?_
  refine w_iastN 32 dX13_names_31 rfl rfl rfl (by decide) (by omega) ?_
  refine w_aload_n 33 dX13_names_32 rfl rfl ?_
  refine w_getr 36 dX13_names_33 rfl faX13_149 rfl rfl rfl (r := .ref 111) rfl ?_
  refine w_getr 39 dX13_names_36 rfl faX13_176 rfl rfl rfl (r := .ref 132) rfl ?_
  refine w_aload_n 40 dX13_names_39 rfl rfl ?_
  refine w_getr 43 dX13_names_40 rfl faX13_149 rfl rfl rfl (r := .ref 111) rfl ?_
  refine w_getiv 46 dX13_names_43 rfl faX13_170 rfl rfl rfl (v := nI nm.1) (by dsimp only; rw [upd2_ne (by decide)]; exact hN.1) ?_
  refine w_iload 48 dX13_names_46 rfl rfl ?_
  refine w_iastN 49 dX13_names_48 rfl rfl rfl (by decide) (by omega) ?_
  refine w_aload_n 50 dX13_names_49 rfl rfl ?_
  refine w_getr 53 dX13_names_50 rfl faX13_149 rfl rfl rfl (r := .ref 111) rfl ?_
  refine w_dup_r 54 dX13_names_53 rfl ?_
  refine w_getiv 57 dX13_names_54 rfl faX13_170 rfl rfl rfl (v := nI nm.1) (by dsimp only; rw [upd2_ne (by decide), upd2_ne (by decide)]; exact hN.1) ?_
  refine w_iconst 58 dX13_names_57 rfl (v := nI 1) rfl ?_
  refine w_iaddN 59 dX13_names_58 rfl ?_
  refine w_puti 62 dX13_names_59 rfl faX13_170 rfl rfl rfl rfl ?_
  refine wr_v dX13_names_62 rfl ?_
  refine h _ ⟨by dsimp only; rw [upd2_at]; rfl, fun i hi => ?_, hN.2.2.1.add h14 hc (by omega) hk, hD, fun i hi => ?_⟩ ((((OffL.rf.updj (by decide) _ _).upd (by decide) _ _).upd (by decide) _ _).upd (by decide) _ _) (fun i hi => by dsimp only; rw [upd2_off hi, upd2_ne (by decide), upd2_ne (by decide)])
  · have hi : i < nm.1 + 1 := hi
    dsimp only [nAdd]
    by_cases q : i = nm.1
    · subst q
      simp [upd2, updN]
    · have h9 := hN.2.1 i (by omega)
      simp [upd2, updN, q]
      exact h9
  · have hi : i < nm.1 + 1 := hi
    dsimp only [nAdd]
    by_cases q : i = nm.1
    · subst q; rw [updN_at]; omega
    · rw [updN_ne q]; exact hN.2.2.2.2 i (by omega)

