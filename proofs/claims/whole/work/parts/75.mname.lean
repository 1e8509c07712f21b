/-! ===== the reference reads: names and numbers ===== -/
theorem SR.fl5 {g : Nat → Nat} {n f : Nat} {x : PR} {A : AH} (h : SR g n (flP g n f x) A) : A.1 100 9 = nI 5 := by cases x <;> exact h.1
theorem PV_fl {g : Nat → Nat} {n f k : Nat} {x : PR} {v : Int32} : PV (flP g n f x) k v := by intro p l h; cases x <;> cases h
theorem fl_k {g : Nat → Nat} {n f : Nat} {x : PR} : ∀ y, flP g n f x = .inr y → tkK g n y.1 < 4 := by intro y h; cases x <;> cases h
theorem getD_last (l : List Nat) (a : Nat) : (l ++ [a]).getD l.length 0 = a := by simp [List.getD]
theorem getD_app {l t : List Nat} {k : Nat} (h : k < l.length) : (l ++ t).getD k 0 = l.getD k 0 := by simp [List.getD, List.getElem?_append_left h]
theorem sx_k {g : Nat → Nat} {n k : Nat} {x : PR} (h : sx g n x = k + 1) (hk : k < 4) : ∃ y, x = .inr y ∧ tkK g n y.1 = k := by
  cases x with
  | inl z => have h5 : 5 = k + 1 := h; omega
  | inr y =>
    refine ⟨y, rfl, ?_⟩
    have h5 : srt (tkK g n y.1) = k + 1 := h
    unfold srt at h5
    split at h5 <;> omega
theorem sx_nk {g : Nat → Nat} {n k : Nat} {y : Nat × List Nat} (h : ¬ sx g n (.inr y) = k + 1) (hk : k < 4) : ¬ tkK g n y.1 = k := fun z => h (by show srt (tkK g n y.1) = k + 1; rw [z]; unfold srt; rw [if_neg (by omega)])
theorem wh_1 {g : Nat → Nat} {n lo hi : Nat} {x : PR} (h : ¬ sx g n x = 3) : bindP x (sWh g n lo hi) = flP g n 1 x := by
  cases x with
  | inl z => rfl
  | inr y =>
    show sWh g n lo hi y = _
    unfold sWh
    rw [if_neg (sx_nk (k := 2) h (by decide))]
    rfl
theorem wh_4 {g : Nat → Nat} {n lo hi : Nat} {y : Nat × List Nat} (h : tkK g n y.1 = 2) (h2 : ¬ (lo ≤ tkV g n y.1 ∧ tkV g n y.1 ≤ hi)) : bindP (.inr y) (sWh g n lo hi) = flP g n 4 (.inr y) := by
  show sWh g n lo hi y = _
  unfold sWh
  rw [if_pos h, if_neg h2]
  rfl
theorem wh_0 {g : Nat → Nat} {n lo hi : Nat} {y : Nat × List Nat} (h : tkK g n y.1 = 2) (h2 : lo ≤ tkV g n y.1 ∧ tkV g n y.1 ≤ hi) : bindP (.inr y) (sWh g n lo hi) = .inr (tkE g n y.1, y.2 ++ [tkV g n y.1]) := by
  show sWh g n lo hi y = _
  unfold sWh
  rw [if_pos h, if_pos h2]
theorem PV_new {p : Nat} {l : List Nat} {k a : Nat} (h : l.length = k) (ha : a < 1000) : PV (.inr (p, l ++ [a])) k (nI a) := by
  intro p' l' e
  cases e
  subst h
  rw [getD_last]
  exact ⟨by simp, ha, rfl⟩
/-- a name known, not gone over -/
def sNk (g : Nat → Nat) (n : Nat) (nm : NT) (j : Nat) (x : Nat × List Nat) : PR := if isNm g n x.1 then (match nNum nm (tkC g n x.1) j with
  | some k => .inr (x.1, x.2 ++ [k])
  | none => .inl (2, tkS g n x.1)) else .inl (1, tkS g n x.1)
theorem nk_nm {g : Nat → Nat} {n : Nat} {nm : NT} {j : Nat} {x : PR} : adP g n (bindP x (sNk g n nm j)) = bindP x (sNm g n nm j) := by
  cases x with
  | inl z => rfl
  | inr y =>
    show adP g n (sNk g n nm j y) = sNm g n nm j y
    unfold sNk sNm
    split
    · cases nNum nm (tkC g n y.1) j <;> rfl
    · rfl
theorem isNx_t {g : Nat → Nat} {n : Nat} {x : PR} (h : isNx g n x = true) : ∃ y, x = .inr y ∧ isNm g n y.1 = true ∧ tkK g n y.1 = 1 := by
  cases x with
  | inl z => cases h
  | inr y =>
    refine ⟨y, rfl, h, ?_⟩
    have h2 : (decide (tkK g n y.1 = 1) && (lnS g n y.1).isNone) = true := h
    rw [Bool.and_eq_true] at h2
    exact of_decide_eq_true h2.1
theorem nk_1 {g : Nat → Nat} {n : Nat} {nm : NT} {j : Nat} {x : PR} (h : isNx g n x = false) : bindP x (sNk g n nm j) = flP g n 1 x := by
  cases x with
  | inl z => rfl
  | inr y =>
    have h1 : isNm g n y.1 = false := h
    show sNk g n nm j y = _
    unfold sNk
    rw [h1]
    rfl
theorem nk_2 {g : Nat → Nat} {n : Nat} {nm : NT} {j : Nat} {y : Nat × List Nat} (h : isNm g n y.1 = true) (h2 : nNum nm (tkC g n y.1) j = none) : bindP (.inr y) (sNk g n nm j) = flP g n 2 (.inr y) := by
  show sNk g n nm j y = _
  unfold sNk
  rw [h, h2]
  rfl
theorem nk_0 {g : Nat → Nat} {n : Nat} {nm : NT} {j k : Nat} {y : Nat × List Nat} (h : isNm g n y.1 = true) (h2 : nNum nm (tkC g n y.1) j = some k) : bindP (.inr y) (sNk g n nm j) = .inr (y.1, y.2 ++ [k]) := by
  show sNk g n nm j y = _
  unfold sNk
  rw [h, h2]
  rfl
theorem nk_k {g : Nat → Nat} {n : Nat} {nm : NT} {j : Nat} {x : PR} : ∀ y, bindP x (sNk g n nm j) = .inr y → tkK g n y.1 < 4 := by
  intro y h
  cases x with
  | inl z => cases h
  | inr u =>
    cases q : isNm g n u.1 with
    | false => rw [nk_1 (x := .inr u) q] at h; cases h
    | true =>
      cases q2 : nNum nm (tkC g n u.1) j with
      | none => rw [nk_2 q q2] at h; cases h
      | some k =>
        rw [nk_0 q q2] at h
        cases h
        have := (isNx_t (x := .inr u) q)
        obtain ⟨z, e, _, h3⟩ := this
        cases e
        rw [h3]
        decide
theorem PV_ad {g : Nat → Nat} {n k : Nat} {x : PR} {v : Int32} (h : PV x k v) : PV (adP g n x) k v := by
  intro p l e
  cases x with
  | inl z => cases e
  | inr y => cases e; exact h y.1 y.2 rfl
theorem fr_1 {g : Nat → Nat} {n : Nat} {nm : NT} {x : PR} (h : isNx g n x = false) : bindP x (sFr g n nm) = flP g n 1 x := by
  cases x with
  | inl z => rfl
  | inr y =>
    have h1 : isNm g n y.1 = false := h
    show sFr g n nm y = _
    unfold sFr
    rw [h1]
    rfl
theorem fr_3 {g : Nat → Nat} {n : Nat} {nm : NT} {y : Nat × List Nat} (h : isNm g n y.1 = true) (h2 : ¬ nIdx nm (tkC g n y.1) = none) : bindP (.inr y) (sFr g n nm) = flP g n 3 (.inr y) := by
  show sFr g n nm y = _
  unfold sFr
  rw [h, if_pos rfl, if_pos (by cases q : nIdx nm (tkC g n y.1) with | none => exact absurd q h2 | some k => rfl)]
  rfl
theorem fr_0 {g : Nat → Nat} {n : Nat} {nm : NT} {y : Nat × List Nat} (h : isNm g n y.1 = true) (h2 : nIdx nm (tkC g n y.1) = none) : bindP (.inr y) (sFr g n nm) = adP g n (.inr y) := by
  show sFr g n nm y = _
  unfold sFr
  rw [h, h2]
  rfl
theorem enc_n {nm : NT} (hN : okN nm) {wd : Int64} : encO (fdI nm wd) = -1 ↔ fdI nm wd = none := enc_m1 (fun v hv => by have := fdI_lt hv; have := hN.1; omega)
set_option maxRecDepth 4000 in
theorem c_X13_readWhole {K : Option Value → AH → Prop} {A : AH} {v : Value} {n : Nat} {tp : Nat → Int32} {x : PR} {k lo hi : Nat} (hT : TA n tp A) (hS : SR (gB tp) n x A) (hl : Ln x k) (hlo : lo < 2 ^ 31) (hhi : hi < 2 ^ 31) (h : ∀ A' u, SR (gB tp) n (bindP x (sWh (gB tp) n lo hi)) A' → PV (bindP x (sWh (gB tp) n lo hi)) k u → FP A A' → K (some (.int u)) A') : Ct yX13_readWhole mX13_readWhole 2 dM (GG v (.ref 111)) [.ref 100, .int (nI lo), .int (nI hi)] A K := by
  refine Ct.of [some (.ref 100), some (.int (nI lo)), some (.int (nI hi)), none] rfl rfl rfl (Nat.le_of_ble_eq_true rfl) ?_
  have hsx := sx_le (g := gB tp) (n := n) (x := x)
  refine w_aload_n 1 dX13_readWhole_0 rfl rfl ?_
  refine w_getiv 4 dX13_readWhole_1 rfl faX13_78 rfl rfl rfl hS.srt ?_
  refine w_iconst 5 dX13_readWhole_4 rfl (v := nI 3) rfl ?_
  refine w_iceqN 16 8 dX13_readWhole_5 rfl rfl (by omega) (by omega) (fun c5 => ?_) (fun c5 => ?_)
  · skip
    obtain ⟨y, rfl, hk2⟩ := sx_k (k := 2) c5 (by decide)
    have hvl := tkV_lt hk2
    refine w_aload_n 17 dX13_readWhole_16 rfl rfl ?_
    refine w_getiv 20 dX13_readWhole_17 rfl faX13_101 rfl rfl rfl (hS.2.2.2.2.2.2 hk2) ?_
    refine w_iload_n 21 dX13_readWhole_20 rfl rfl ?_
    refine w_iload_n 22 dX13_readWhole_21 rfl rfl ?_
    refine w_invs3 25 dX13_readWhole_22 rfl slX13_121 (d' := 0) (by decide) (Nat.le_of_ble_eq_true rfl) (c_X13_in ?_)
    refine w_ifneB 33 28 dX13_readWhole_25 rfl rfl (fun c25 => ?_) (fun c25 => ?_)
    · skip
      have hin : lo ≤ tkV (gB tp) n y.1 ∧ tkV (gB tp) n y.1 ≤ hi := by
        have z := of_decide_eq_true c25
        exact ⟨(nI_leI hlo (by omega)).mp z.1, (nI_leI (by omega) hhi).mp z.2⟩
      refine w_aload_n 34 dX13_readWhole_33 rfl rfl ?_
      refine w_getiv 37 dX13_readWhole_34 rfl faX13_78 rfl rfl rfl (v := nI 3) (by rw [hS.2.1, hk2]; rfl) ?_
      refine w_iconst 38 dX13_readWhole_37 rfl (v := nI 5) rfl ?_
      refine w_icneN 45 41 dX13_readWhole_38 rfl rfl (by omega) (by omega) (fun c38 => ?_) (fun c38 => (by omega))
      refine w_aload_n 46 dX13_readWhole_45 rfl rfl ?_
      refine w_getiv 49 dX13_readWhole_46 rfl faX13_101 rfl rfl rfl (hS.2.2.2.2.2.2 hk2) ?_
      refine w_ist3 50 dX13_readWhole_49 rfl (by decide) rfl ?_
      refine w_aload_n 51 dX13_readWhole_50 rfl rfl ?_
      refine w_inv0 54 dX13_readWhole_51 rfl mlX13_114 rfl rfl (d' := 1) (by decide) (Nat.le_of_ble_eq_true rfl) (s_X13_goesOn (hT) (hS) (fun z e => by cases e; rw [hk2]; decide) (fun A3 hS3 hF3 => ?_))
      refine w_iload_n 55 dX13_readWhole_54 rfl rfl ?_
      refine wr_i dX13_readWhole_55 rfl ?_
      have e1 := wh_0 (lo := lo) (hi := hi) hk2 hin
      exact h A3 _ (by rw [e1]; exact hS3) (by rw [e1]; exact PV_new (hl y.1 y.2 rfl) hvl) hF3
    · skip
      have hin : ¬ (lo ≤ tkV (gB tp) n y.1 ∧ tkV (gB tp) n y.1 ≤ hi) := fun z => of_decide_eq_false c25 ⟨(nI_leI hlo (by omega)).mpr z.1, (nI_leI (by omega) hhi).mpr z.2⟩
      refine w_aload_n 29 dX13_readWhole_28 rfl rfl ?_
      refine w_iconst 30 dX13_readWhole_29 rfl (v := nI 4) rfl ?_
      have e1 := wh_4 (lo := lo) (hi := hi) hk2 hin
      refine w_inv1 33 dX13_readWhole_30 rfl mlX13_117 rfl rfl (d' := 0) (by decide) (Nat.le_of_ble_eq_true rfl) (s_X13_flaw (by decide) hS (fun A2 hS2 hF2 => ?_))
      refine w_aload_n 34 dX13_readWhole_33 rfl rfl ?_
      refine w_getiv 37 dX13_readWhole_34 rfl faX13_78 rfl rfl rfl hS2.fl5 ?_
      refine w_iconst 38 dX13_readWhole_37 rfl (v := nI 5) rfl ?_
      refine w_icneN 45 41 dX13_readWhole_38 rfl rfl (by omega) (by omega) (fun c38 => (by omega)) (fun c38 => ?_)
      refine w_iload_n 42 dX13_readWhole_41 rfl rfl ?_
      refine w_goto 49 dX13_readWhole_42 rfl ?_
      refine w_ist3 50 dX13_readWhole_49 rfl (by decide) rfl ?_
      refine w_aload_n 51 dX13_readWhole_50 rfl rfl ?_
      refine w_inv0 54 dX13_readWhole_51 rfl mlX13_114 rfl rfl (d' := 1) (by decide) (Nat.le_of_ble_eq_true rfl) (s_X13_goesOn (hT.fp hF2) (hS2) (fl_k) (fun A3 hS3 hF3 => ?_))
      refine w_iload_n 55 dX13_readWhole_54 rfl rfl ?_
      refine wr_i dX13_readWhole_55 rfl ?_
      rw [flP_ad] at hS3
      exact h A3 _ (by rw [e1]; exact hS3) (by rw [e1]; exact PV_fl) (hF2.tr hF3)
  · skip
    refine w_aload_n 9 dX13_readWhole_8 rfl rfl ?_
    refine w_iconst 10 dX13_readWhole_9 rfl (v := nI 1) rfl ?_
    have e1 := wh_1 (lo := lo) (hi := hi) c5
    refine w_inv1 13 dX13_readWhole_10 rfl mlX13_117 rfl rfl (d' := 0) (by decide) (Nat.le_of_ble_eq_true rfl) (s_X13_flaw (by decide) hS (fun A2 hS2 hF2 => ?_))
    refine w_goto 33 dX13_readWhole_13 rfl ?_
    refine w_aload_n 34 dX13_readWhole_33 rfl rfl ?_
    refine w_getiv 37 dX13_readWhole_34 rfl faX13_78 rfl rfl rfl hS2.fl5 ?_
    refine w_iconst 38 dX13_readWhole_37 rfl (v := nI 5) rfl ?_
    refine w_icneN 45 41 dX13_readWhole_38 rfl rfl (by omega) (by omega) (fun c38 => (by omega)) (fun c38 => ?_)
    refine w_iload_n 42 dX13_readWhole_41 rfl rfl ?_
    refine w_goto 49 dX13_readWhole_42 rfl ?_
    refine w_ist3 50 dX13_readWhole_49 rfl (by decide) rfl ?_
    refine w_aload_n 51 dX13_readWhole_50 rfl rfl ?_
    refine w_inv0 54 dX13_readWhole_51 rfl mlX13_114 rfl rfl (d' := 1) (by decide) (Nat.le_of_ble_eq_true rfl) (s_X13_goesOn (hT.fp hF2) (hS2) (fl_k) (fun A3 hS3 hF3 => ?_))
    refine w_iload_n 55 dX13_readWhole_54 rfl rfl ?_
    refine wr_i dX13_readWhole_55 rfl ?_
    rw [flP_ad] at hS3
    exact h A3 _ (by rw [e1]; exact hS3) (by rw [e1]; exact PV_fl) (hF2.tr hF3)

set_option maxRecDepth 4000 in
theorem c_X13_readPart {K : Option Value → AH → Prop} {A : AH} {v : Value} {n : Nat} {tp : Nat → Int32} {x : PR} {k j lo hi : Nat} (hT : TA n tp A) (hS : SR (gB tp) n x A) (hl : Ln x k) (hj : j < 19) (hlo : lo < 2 ^ 31) (hhi : hi < 2 ^ 31) (h : ∀ A' u, SR (gB tp) n (bindP (bindP x (sWd (gB tp) n j)) (sWh (gB tp) n lo hi)) A' → PV (bindP (bindP x (sWd (gB tp) n j)) (sWh (gB tp) n lo hi)) k u → FP A A' → K (some (.int u)) A') : Ct yX13_readPart mX13_readPart 6 dM (GG v (.ref 111)) [.ref 100, .ref (1000 + j), .int (nI lo), .int (nI hi)] A K := by
  refine Ct.of [some (.ref 100), some (.ref (1000 + j)), some (.int (nI lo)), some (.int (nI hi))] rfl rfl rfl (Nat.le_of_ble_eq_true rfl) ?_
  refine w_aload_n 1 dX13_readPart_0 rfl rfl ?_
  refine w_aload_n 2 dX13_readPart_1 rfl rfl ?_
  refine w_inv1 5 dX13_readPart_2 rfl mlX13_125 rfl rfl (d' := 5) (by decide) (Nat.le_of_ble_eq_true rfl) (c_X13_isWord hj hS ?_)
  refine w_ifneB 13 8 dX13_readPart_5 rfl rfl (fun c5 => ?_) (fun c5 => ?_)
  · skip
    refine w_aload_n 14 dX13_readPart_13 rfl rfl ?_
    have e1 := wd_t c5
    refine w_inv0 17 dX13_readPart_14 rfl mlX13_114 rfl rfl (d' := 1) (by decide) (Nat.le_of_ble_eq_true rfl) (s_X13_goesOn (hT) (hS) (fun z e => by obtain ⟨y, e2, _, hk⟩ := tkWx_t c5; rw [e] at e2; cases e2; rw [hk]; decide) (fun A3 hS3 hF3 => ?_))
    refine w_aload_n 18 dX13_readPart_17 rfl rfl ?_
    refine w_iload_n 19 dX13_readPart_18 rfl rfl ?_
    refine w_iload_n 20 dX13_readPart_19 rfl rfl ?_
    refine w_inv2 23 dX13_readPart_20 rfl mlX13_129 rfl rfl (d' := 2) (by decide) (Nat.le_of_ble_eq_true rfl) (c_X13_readWhole (x := bindP x (sWd (gB tp) n j)) (hT.fp hF3) (by rw [e1]; exact hS3) (k := k) (fun p l e => by obtain ⟨y, e2, _, hk⟩ := tkWx_t c5; subst e2; rw [e1] at e; cases e; exact hl y.1 y.2 rfl) hlo hhi (fun A4 u hS4 hV4 hF4 => ?_))
    refine wr_i dX13_readPart_23 rfl ?_
    exact h A4 u hS4 hV4 (hF3.tr hF4)
  · skip
    refine w_aload_n 9 dX13_readPart_8 rfl rfl ?_
    refine w_iconst 10 dX13_readPart_9 rfl (v := nI 1) rfl ?_
    have e1 := wd_f c5
    refine w_inv1 13 dX13_readPart_10 rfl mlX13_117 rfl rfl (d' := 0) (by decide) (Nat.le_of_ble_eq_true rfl) (s_X13_flaw (by decide) hS (fun A2 hS2 hF2 => ?_))
    refine w_aload_n 14 dX13_readPart_13 rfl rfl ?_
    refine w_inv0 17 dX13_readPart_14 rfl mlX13_114 rfl rfl (d' := 1) (by decide) (Nat.le_of_ble_eq_true rfl) (s_X13_goesOn (hT.fp hF2) (hS2) (fl_k) (fun A3 hS3 hF3 => ?_))
    refine w_aload_n 18 dX13_readPart_17 rfl rfl ?_
    refine w_iload_n 19 dX13_readPart_18 rfl rfl ?_
    refine w_iload_n 20 dX13_readPart_19 rfl rfl ?_
    refine w_inv2 23 dX13_readPart_20 rfl mlX13_129 rfl rfl (d' := 2) (by decide) (Nat.le_of_ble_eq_true rfl) (c_X13_readWhole (x := bindP x (sWd (gB tp) n j)) (hT.fp (hF2.tr hF3)) (by rw [e1]; rw [flP_ad] at hS3; exact hS3) (k := k) (fun p l e => by rw [e1] at e; cases x <;> cases e) hlo hhi (fun A4 u hS4 hV4 hF4 => ?_))
    refine wr_i dX13_readPart_23 rfl ?_
    exact h A4 u hS4 hV4 ((hF2.tr hF3).tr hF4)

set_option maxRecDepth 4000 in
theorem c_X13_readFresh {K : Option Value → AH → Prop} {A : AH} {v : Value} {n : Nat} {tp : Nat → Int32} {x : PR} {nm : NT} (hT : TA n tp A) (hS : SR (gB tp) n x A) (hN : RN nm A) (h : ∀ A' u, SR (gB tp) n (bindP x (sFr (gB tp) n nm)) A' → (∀ y z, x = .inr y → bindP x (sFr (gB tp) n nm) = .inr z → u = lN (tkC (gB tp) n y.1) ∧ tkC (gB tp) n y.1 < 2 ^ 40) → FP A A' → K (some (.long u)) A') : Ct yX13_readFresh mX13_readFresh 7 dM (GG v (.ref 111)) [.ref 100] A K := by
  refine Ct.of [some (.ref 100), none, none] rfl rfl rfl (Nat.le_of_ble_eq_true rfl) ?_
  refine w_aload_n 1 dX13_readFresh_0 rfl rfl ?_
  refine w_inv0 4 dX13_readFresh_1 rfl mlX13_158 rfl rfl (d' := 6) (by decide) (Nat.le_of_ble_eq_true rfl) (c_X13_isName hS ?_)
  refine w_ifneB 12 7 dX13_readFresh_4 rfl rfl (fun c4 => ?_) (fun c4 => ?_)
  · skip
    obtain ⟨y, rfl, hnm, hk1⟩ := isNx_t c4
    have hcl := tkC_lt hk1
    have hwd := hS.2.2.2.2.2.1 hk1
    refine w_aload_n 13 dX13_readFresh_12 rfl rfl ?_
    refine w_getr 16 dX13_readFresh_13 rfl faX13_149 rfl rfl rfl (r := .ref 111) rfl ?_
    refine w_aload_n 17 dX13_readFresh_16 rfl rfl ?_
    refine w_getjv 20 dX13_readFresh_17 rfl faX13_94 rfl rfl rfl hwd ?_
    refine w_inv1 23 dX13_readFresh_20 rfl mlX13_162 rfl rfl (d' := 0) (by decide) (Nat.le_of_ble_eq_true rfl) (c_X12_find hN ?_)
    rw [fdI_c hN.2.2.1 hcl]
    refine w_iconst 24 dX13_readFresh_23 rfl (v := (-1)) rfl ?_
    refine w_iceq 32 27 dX13_readFresh_24 rfl rfl (fun c24 => ?_) (fun c24 => ?_)
    · skip
      refine w_aload_n 33 dX13_readFresh_32 rfl rfl ?_
      refine w_getjv 36 dX13_readFresh_33 rfl faX13_94 rfl rfl rfl hwd ?_
      refine w_lst1 37 dX13_readFresh_36 rfl (by decide) rfl ?_
      refine w_aload_n 38 dX13_readFresh_37 rfl rfl ?_
      refine w_inv0 41 dX13_readFresh_38 rfl mlX13_114 rfl rfl (d' := 1) (by decide) (Nat.le_of_ble_eq_true rfl) (s_X13_goesOn (hT) (hS) (fun z e => by cases e; rw [hk1]; decide) (fun A3 hS3 hF3 => ?_))
      refine w_lload_n 42 dX13_readFresh_41 rfl rfl ?_
      refine wr_l dX13_readFresh_42 rfl ?_
      have hz : nIdx nm (tkC (gB tp) n y.1) = none := (enc_m1 (fun v hv => by have := (fst1_lt hv).1; have := hN.2.2.1.1; omega)).mp c24
      exact h A3 _ (by rw [fr_0 hnm hz]; exact hS3) (fun y' z e _ => by cases e; exact ⟨rfl, hcl⟩) hF3
    · skip
      refine w_aload_n 28 dX13_readFresh_27 rfl rfl ?_
      refine w_iconst 29 dX13_readFresh_28 rfl (v := nI 3) rfl ?_
      refine w_inv1 32 dX13_readFresh_29 rfl mlX13_117 rfl rfl (d' := 0) (by decide) (Nat.le_of_ble_eq_true rfl) (s_X13_flaw (by decide) hS (fun A2 hS2 hF2 => ?_))
      refine w_aload_n 33 dX13_readFresh_32 rfl rfl ?_
      refine w_getj 36 dX13_readFresh_33 rfl faX13_94 rfl rfl rfl ?_
      refine w_lst1 37 dX13_readFresh_36 rfl (by decide) rfl ?_
      refine w_aload_n 38 dX13_readFresh_37 rfl rfl ?_
      refine w_inv0 41 dX13_readFresh_38 rfl mlX13_114 rfl rfl (d' := 1) (by decide) (Nat.le_of_ble_eq_true rfl) (s_X13_goesOn (hT.fp hF2) (hS2) (fl_k) (fun A3 hS3 hF3 => ?_))
      refine w_lload_n 42 dX13_readFresh_41 rfl rfl ?_
      refine wr_l dX13_readFresh_42 rfl ?_
      have hz : ¬ nIdx nm (tkC (gB tp) n y.1) = none := fun z => c24 (by rw [z]; rfl)
      rw [flP_ad] at hS3
      exact h A3 _ (by rw [fr_3 hnm hz]; exact hS3) (fun y' z _ e => by rw [fr_3 hnm hz] at e; cases e) (hF2.tr hF3)
  · skip
    refine w_aload_n 8 dX13_readFresh_7 rfl rfl ?_
    refine w_iconst 9 dX13_readFresh_8 rfl (v := nI 1) rfl ?_
    refine w_inv1 12 dX13_readFresh_9 rfl mlX13_117 rfl rfl (d' := 0) (by decide) (Nat.le_of_ble_eq_true rfl) (s_X13_flaw (by decide) hS (fun A2 hS2 hF2 => ?_))
    refine w_aload_n 13 dX13_readFresh_12 rfl rfl ?_
    refine w_getr 16 dX13_readFresh_13 rfl faX13_149 rfl rfl rfl (r := .ref 111) rfl ?_
    refine w_aload_n 17 dX13_readFresh_16 rfl rfl ?_
    refine w_getj 20 dX13_readFresh_17 rfl faX13_94 rfl rfl rfl ?_
    refine w_inv1 23 dX13_readFresh_20 rfl mlX13_162 rfl rfl (d' := 0) (by decide) (Nat.le_of_ble_eq_true rfl) (c_X12_find (hN.fp hF2) ?_)
    refine w_iconst 24 dX13_readFresh_23 rfl (v := (-1)) rfl ?_
    refine w_iceq 32 27 dX13_readFresh_24 rfl rfl (fun c24 => ?_) (fun c24 => ?_)
    · skip
      refine w_aload_n 33 dX13_readFresh_32 rfl rfl ?_
      refine w_getj 36 dX13_readFresh_33 rfl faX13_94 rfl rfl rfl ?_
      refine w_lst1 37 dX13_readFresh_36 rfl (by decide) rfl ?_
      refine w_aload_n 38 dX13_readFresh_37 rfl rfl ?_
      refine w_inv0 41 dX13_readFresh_38 rfl mlX13_114 rfl rfl (d' := 1) (by decide) (Nat.le_of_ble_eq_true rfl) (s_X13_goesOn (hT.fp hF2) (hS2) (fl_k) (fun A3 hS3 hF3 => ?_))
      refine w_lload_n 42 dX13_readFresh_41 rfl rfl ?_
      refine wr_l dX13_readFresh_42 rfl ?_
      have e1 := fr_1 (nm := nm) c4
      rw [flP_ad] at hS3
      exact h A3 _ (by rw [e1]; exact hS3) (fun y' z _ e => by rw [e1] at e; cases x <;> cases e) (hF2.tr hF3)
    · skip
      refine w_aload_n 28 dX13_readFresh_27 rfl rfl ?_
      refine w_iconst 29 dX13_readFresh_28 rfl (v := nI 3) rfl ?_
      refine w_inv1 32 dX13_readFresh_29 rfl mlX13_117 rfl rfl (d' := 0) (by decide) (Nat.le_of_ble_eq_true rfl) (s_X13_flaw (by decide) hS2 (fun A5 hS5 hF5 => ?_))
      rw [flP_fl] at hS5
      refine w_aload_n 33 dX13_readFresh_32 rfl rfl ?_
      refine w_getj 36 dX13_readFresh_33 rfl faX13_94 rfl rfl rfl ?_
      refine w_lst1 37 dX13_readFresh_36 rfl (by decide) rfl ?_
      refine w_aload_n 38 dX13_readFresh_37 rfl rfl ?_
      refine w_inv0 41 dX13_readFresh_38 rfl mlX13_114 rfl rfl (d' := 1) (by decide) (Nat.le_of_ble_eq_true rfl) (s_X13_goesOn (hT.fp (hF2.tr hF5)) (hS5) (fl_k) (fun A3 hS3 hF3 => ?_))
      refine w_lload_n 42 dX13_readFresh_41 rfl rfl ?_
      refine wr_l dX13_readFresh_42 rfl ?_
      have e1 := fr_1 (nm := nm) c4
      rw [flP_ad] at hS3
      exact h A3 _ (by rw [e1]; exact hS3) (fun y' z _ e => by rw [e1] at e; cases x <;> cases e) ((hF2.tr hF5).tr hF3)

set_option maxRecDepth 4000 in
theorem c_X13_knownOne {K : Option Value → AH → Prop} {A : AH} {v : Value} {n : Nat} {tp : Nat → Int32} {x : PR} {nm : NT} {k j : Nat} (hT : TA n tp A) (hS : SR (gB tp) n x A) (hl : Ln x k) (hN : RN nm A) (hj : j < 2) (h : ∀ A' u, SR (gB tp) n (bindP x (sNk (gB tp) n nm (j + 1))) A' → PV (bindP x (sNk (gB tp) n nm (j + 1))) k u → FP A A' → K (some (.int u)) A') : Ct yX13_knownOne mX13_knownOne 7 dM (GG v (.ref 111)) [.ref 100, .int (nI j)] A K := by
  refine Ct.of [some (.ref 100), some (.int (nI j)), none] rfl rfl rfl (Nat.le_of_ble_eq_true rfl) ?_
  refine w_aload_n 1 dX13_knownOne_0 rfl rfl ?_
  refine w_inv0 4 dX13_knownOne_1 rfl mlX13_158 rfl rfl (d' := 6) (by decide) (Nat.le_of_ble_eq_true rfl) (c_X13_isName hS ?_)
  refine w_ifneB 12 7 dX13_knownOne_4 rfl rfl (fun c4 => ?_) (fun c4 => ?_)
  · skip
    obtain ⟨y, rfl, hnm, hk1⟩ := isNx_t c4
    have hcl := tkC_lt hk1
    have hwd := hS.2.2.2.2.2.1 hk1
    refine w_aload_n 13 dX13_knownOne_12 rfl rfl ?_
    refine w_getr 16 dX13_knownOne_13 rfl faX13_149 rfl rfl rfl (r := .ref 111) rfl ?_
    refine w_aload_n 17 dX13_knownOne_16 rfl rfl ?_
    refine w_getjv 20 dX13_knownOne_17 rfl faX13_94 rfl rfl rfl hwd ?_
    refine w_inv1 23 dX13_knownOne_20 rfl mlX13_162 rfl rfl (d' := 0) (by decide) (Nat.le_of_ble_eq_true rfl) (c_X12_find hN ?_)
    refine w_ist2 24 dX13_knownOne_23 rfl (by decide) rfl ?_
    refine w_iload_n 25 dX13_knownOne_24 rfl rfl ?_
    refine w_iconst 26 dX13_knownOne_25 rfl (v := (-1)) rfl ?_
    refine w_iceq 42 29 dX13_knownOne_26 rfl rfl (fun c26 => ?_) (fun c26 => ?_)
    · skip
      have hix : nIdx nm (tkC (gB tp) n y.1) = none := by rw [← fdI_c hN.2.2.1 hcl]; exact (enc_n hN.2.2.1).mp c26
      have hnn : nNum nm (tkC (gB tp) n y.1) (j + 1) = none := by rw [idx_num hN.2.2.2.1, hix]
      refine w_aload_n 43 dX13_knownOne_42 rfl rfl ?_
      refine w_iconst 44 dX13_knownOne_43 rfl (v := nI 2) rfl ?_
      refine w_inv1 47 dX13_knownOne_44 rfl mlX13_117 rfl rfl (d' := 0) (by decide) (Nat.le_of_ble_eq_true rfl) (s_X13_flaw (by decide) hS (fun A2 hS2 hF2 => ?_))
      refine w_aload_n 48 dX13_knownOne_47 rfl rfl ?_
      refine w_getiv 51 dX13_knownOne_48 rfl faX13_78 rfl rfl rfl hS2.fl5 ?_
      refine w_iconst 52 dX13_knownOne_51 rfl (v := nI 5) rfl ?_
      refine w_icneN 59 55 dX13_knownOne_52 rfl rfl (by omega) (by omega) (fun c52 => (by omega)) (fun c52 => ?_)
      refine w_iconst 56 dX13_knownOne_55 rfl (v := nI 0) rfl ?_
      refine w_goto 68 dX13_knownOne_56 rfl ?_
      refine wr_i dX13_knownOne_68 rfl ?_
      exact h A2 _ (by rw [nk_2 hnm hnn]; exact hS2) (by rw [nk_2 hnm hnn]; exact PV_fl) hF2
    · skip
      have hex : ∃ q, fdI nm (lN (tkC (gB tp) n y.1)) = some q := by
        cases hz : fdI nm (lN (tkC (gB tp) n y.1)) with
        | none => rw [hz] at c26; exact absurd rfl c26
        | some q => exact ⟨q, rfl⟩
      obtain ⟨q, hq⟩ := hex
      rw [hq, show encO (some q) = nI q from rfl]
      have hql := fdI_lt hq
      have h14 := hN.2.2.1.1
      have hq2 := hN.2.1 q hql
      have hq3 := hN.2.2.1.2 q hql
      have hq4 := hN.2.2.2.2 q hql
      have hix : nIdx nm (tkC (gB tp) n y.1) = some q := by rw [← fdI_c hN.2.2.1 hcl]; exact hq
      refine w_aload_n 30 dX13_knownOne_29 rfl rfl ?_
      refine w_getr 33 dX13_knownOne_30 rfl faX13_149 rfl rfl rfl (r := .ref 111) rfl ?_
      refine w_getr 36 dX13_knownOne_33 rfl faX13_173 rfl rfl rfl (r := .ref 131) rfl ?_
      refine w_iload_n 37 dX13_knownOne_36 rfl rfl ?_
      refine w_ialdv 38 dX13_knownOne_37 rfl rfl rfl (by decide) (by omega) hq2.2.1 ?_
      refine w_iload_n 39 dX13_knownOne_38 rfl rfl ?_
      refine w_iceqN 47 42 dX13_knownOne_39 rfl rfl (by omega) (by omega) (fun c39 => ?_) (fun c39 => ?_)
      · skip
        have hnn : nNum nm (tkC (gB tp) n y.1) (j + 1) = some (nm.2.2.2 q) := by rw [idx_num hN.2.2.2.1, hix]; exact if_pos (by omega)
        refine w_aload_n 48 dX13_knownOne_47 rfl rfl ?_
        refine w_getiv 51 dX13_knownOne_48 rfl faX13_78 rfl rfl rfl (v := nI 2) (by rw [hS.2.1, hk1]; rfl) ?_
        refine w_iconst 52 dX13_knownOne_51 rfl (v := nI 5) rfl ?_
        refine w_icneN 59 55 dX13_knownOne_52 rfl rfl (by omega) (by omega) (fun c52 => ?_) (fun c52 => (by omega))
        refine w_aload_n 60 dX13_knownOne_59 rfl rfl ?_
        refine w_getr 63 dX13_knownOne_60 rfl faX13_149 rfl rfl rfl (r := .ref 111) rfl ?_
        refine w_getr 66 dX13_knownOne_63 rfl faX13_176 rfl rfl rfl (r := .ref 132) rfl ?_
        refine w_iload_n 67 dX13_knownOne_66 rfl rfl ?_
        refine w_ialdv 68 dX13_knownOne_67 rfl rfl rfl (by decide) (by omega) hq2.2.2 ?_
        refine wr_i dX13_knownOne_68 rfl ?_
        exact h A _ (by rw [nk_0 hnm hnn]; exact hS) (by rw [nk_0 hnm hnn]; exact PV_new (hl y.1 y.2 rfl) (by omega)) FP.rf
      · skip
        have hnn : nNum nm (tkC (gB tp) n y.1) (j + 1) = none := by rw [idx_num hN.2.2.2.1, hix]; exact if_neg (by omega)
        refine w_aload_n 43 dX13_knownOne_42 rfl rfl ?_
        refine w_iconst 44 dX13_knownOne_43 rfl (v := nI 2) rfl ?_
        refine w_inv1 47 dX13_knownOne_44 rfl mlX13_117 rfl rfl (d' := 0) (by decide) (Nat.le_of_ble_eq_true rfl) (s_X13_flaw (by decide) hS (fun A2 hS2 hF2 => ?_))
        refine w_aload_n 48 dX13_knownOne_47 rfl rfl ?_
        refine w_getiv 51 dX13_knownOne_48 rfl faX13_78 rfl rfl rfl hS2.fl5 ?_
        refine w_iconst 52 dX13_knownOne_51 rfl (v := nI 5) rfl ?_
        refine w_icneN 59 55 dX13_knownOne_52 rfl rfl (by omega) (by omega) (fun c52 => (by omega)) (fun c52 => ?_)
        refine w_iconst 56 dX13_knownOne_55 rfl (v := nI 0) rfl ?_
        refine w_goto 68 dX13_knownOne_56 rfl ?_
        refine wr_i dX13_knownOne_68 rfl ?_
        exact h A2 _ (by rw [nk_2 hnm hnn]; exact hS2) (by rw [nk_2 hnm hnn]; exact PV_fl) hF2
  · skip
    refine w_aload_n 8 dX13_knownOne_7 rfl rfl ?_
    refine w_iconst 9 dX13_knownOne_8 rfl (v := nI 1) rfl ?_
    have e1 := nk_1 (nm := nm) (j := j + 1) c4
    refine w_inv1 12 dX13_knownOne_9 rfl mlX13_117 rfl rfl (d' := 0) (by decide) (Nat.le_of_ble_eq_true rfl) (s_X13_flaw (by decide) hS (fun A2 hS2 hF2 => ?_))
    refine w_aload_n 13 dX13_knownOne_12 rfl rfl ?_
    refine w_getr 16 dX13_knownOne_13 rfl faX13_149 rfl rfl rfl (r := .ref 111) rfl ?_
    refine w_aload_n 17 dX13_knownOne_16 rfl rfl ?_
    refine w_getj 20 dX13_knownOne_17 rfl faX13_94 rfl rfl rfl ?_
    refine w_inv1 23 dX13_knownOne_20 rfl mlX13_162 rfl rfl (d' := 0) (by decide) (Nat.le_of_ble_eq_true rfl) (c_X12_find (hN.fp hF2) ?_)
    refine w_ist2 24 dX13_knownOne_23 rfl (by decide) rfl ?_
    refine w_iload_n 25 dX13_knownOne_24 rfl rfl ?_
    refine w_iconst 26 dX13_knownOne_25 rfl (v := (-1)) rfl ?_
    refine w_iceq 42 29 dX13_knownOne_26 rfl rfl (fun c26 => ?_) (fun c26 => ?_)
    · skip
      refine w_aload_n 43 dX13_knownOne_42 rfl rfl ?_
      refine w_iconst 44 dX13_knownOne_43 rfl (v := nI 2) rfl ?_
      refine w_inv1 47 dX13_knownOne_44 rfl mlX13_117 rfl rfl (d' := 0) (by decide) (Nat.le_of_ble_eq_true rfl) (s_X13_flaw (by decide) hS2 (fun A5 hS5 hF5 => ?_))
      rw [flP_fl] at hS5
      refine w_aload_n 48 dX13_knownOne_47 rfl rfl ?_
      refine w_getiv 51 dX13_knownOne_48 rfl faX13_78 rfl rfl rfl hS5.fl5 ?_
      refine w_iconst 52 dX13_knownOne_51 rfl (v := nI 5) rfl ?_
      refine w_icneN 59 55 dX13_knownOne_52 rfl rfl (by omega) (by omega) (fun c52 => (by omega)) (fun c52 => ?_)
      refine w_iconst 56 dX13_knownOne_55 rfl (v := nI 0) rfl ?_
      refine w_goto 68 dX13_knownOne_56 rfl ?_
      refine wr_i dX13_knownOne_68 rfl ?_
      exact h A5 _ (by rw [e1]; exact hS5) (by rw [e1]; exact PV_fl) (hF2.tr hF5)
    · skip
      have hex : ∃ q, fdI nm (A2.2 100 14) = some q := by
        cases hz : fdI nm (A2.2 100 14) with
        | none => rw [hz] at c26; exact absurd rfl c26
        | some q => exact ⟨q, rfl⟩
      obtain ⟨q, hq⟩ := hex
      rw [hq, show encO (some q) = nI q from rfl]
      have hql := fdI_lt hq
      have h14 := hN.2.2.1.1
      have hq2 := (hN.fp hF2).2.1 q hql
      have hq3 := hN.2.2.1.2 q hql
      have hq4 := hN.2.2.2.2 q hql
      refine w_aload_n 30 dX13_knownOne_29 rfl rfl ?_
      refine w_getr 33 dX13_knownOne_30 rfl faX13_149 rfl rfl rfl (r := .ref 111) rfl ?_
      refine w_getr 36 dX13_knownOne_33 rfl faX13_173 rfl rfl rfl (r := .ref 131) rfl ?_
      refine w_iload_n 37 dX13_knownOne_36 rfl rfl ?_
      refine w_ialdv 38 dX13_knownOne_37 rfl rfl rfl (by decide) (by omega) hq2.2.1 ?_
      refine w_iload_n 39 dX13_knownOne_38 rfl rfl ?_
      refine w_iceqN 47 42 dX13_knownOne_39 rfl rfl (by omega) (by omega) (fun c39 => ?_) (fun c39 => ?_)
      · skip
        refine w_aload_n 48 dX13_knownOne_47 rfl rfl ?_
        refine w_getiv 51 dX13_knownOne_48 rfl faX13_78 rfl rfl rfl hS2.fl5 ?_
        refine w_iconst 52 dX13_knownOne_51 rfl (v := nI 5) rfl ?_
        refine w_icneN 59 55 dX13_knownOne_52 rfl rfl (by omega) (by omega) (fun c52 => (by omega)) (fun c52 => ?_)
        refine w_iconst 56 dX13_knownOne_55 rfl (v := nI 0) rfl ?_
        refine w_goto 68 dX13_knownOne_56 rfl ?_
        refine wr_i dX13_knownOne_68 rfl ?_
        exact h A2 _ (by rw [e1]; exact hS2) (by rw [e1]; exact PV_fl) hF2
      · skip
        refine w_aload_n 43 dX13_knownOne_42 rfl rfl ?_
        refine w_iconst 44 dX13_knownOne_43 rfl (v := nI 2) rfl ?_
        refine w_inv1 47 dX13_knownOne_44 rfl mlX13_117 rfl rfl (d' := 0) (by decide) (Nat.le_of_ble_eq_true rfl) (s_X13_flaw (by decide) hS2 (fun A5 hS5 hF5 => ?_))
        rw [flP_fl] at hS5
        refine w_aload_n 48 dX13_knownOne_47 rfl rfl ?_
        refine w_getiv 51 dX13_knownOne_48 rfl faX13_78 rfl rfl rfl hS5.fl5 ?_
        refine w_iconst 52 dX13_knownOne_51 rfl (v := nI 5) rfl ?_
        refine w_icneN 59 55 dX13_knownOne_52 rfl rfl (by omega) (by omega) (fun c52 => (by omega)) (fun c52 => ?_)
        refine w_iconst 56 dX13_knownOne_55 rfl (v := nI 0) rfl ?_
        refine w_goto 68 dX13_knownOne_56 rfl ?_
        refine wr_i dX13_knownOne_68 rfl ?_
        exact h A5 _ (by rw [e1]; exact hS5) (by rw [e1]; exact PV_fl) (hF2.tr hF5)

set_option maxRecDepth 4000 in
theorem c_X13_readKnown {K : Option Value → AH → Prop} {A : AH} {v : Value} {n : Nat} {tp : Nat → Int32} {x : PR} {nm : NT} {k j : Nat} (hT : TA n tp A) (hS : SR (gB tp) n x A) (hl : Ln x k) (hN : RN nm A) (hj : j < 2) (h : ∀ A' u, SR (gB tp) n (bindP x (sNm (gB tp) n nm (j + 1))) A' → PV (bindP x (sNm (gB tp) n nm (j + 1))) k u → FP A A' → K (some (.int u)) A') : Ct yX13_readKnown mX13_readKnown 8 dM (GG v (.ref 111)) [.ref 100, .int (nI j)] A K := by
  refine Ct.of [some (.ref 100), some (.int (nI j)), none] rfl rfl rfl (Nat.le_of_ble_eq_true rfl) ?_
  refine w_aload_n 1 dX13_readKnown_0 rfl rfl ?_
  refine w_iload_n 2 dX13_readKnown_1 rfl rfl ?_
  refine w_inv1 5 dX13_readKnown_2 rfl mlX13_179 rfl rfl (d' := 7) (by decide) (Nat.le_of_ble_eq_true rfl) (c_X13_knownOne hT hS hl hN hj (fun A2 u hS2 hV2 hF2 => ?_))
  refine w_ist2 6 dX13_readKnown_5 rfl (by decide) rfl ?_
  refine w_aload_n 7 dX13_readKnown_6 rfl rfl ?_
  refine w_inv0 10 dX13_readKnown_7 rfl mlX13_114 rfl rfl (d' := 1) (by decide) (Nat.le_of_ble_eq_true rfl) (s_X13_goesOn (hT.fp hF2) (hS2) (nk_k) (fun A3 hS3 hF3 => ?_))
  refine w_iload_n 11 dX13_readKnown_10 rfl rfl ?_
  refine wr_i dX13_readKnown_11 rfl ?_
  exact h A3 u (by rw [← nk_nm]; exact hS3) (by rw [← nk_nm]; exact PV_ad hV2) (hF2.tr hF3)

set_option maxRecDepth 4000 in
theorem c_X13_lineBegins {K : Option Value → AH → Prop} {A : AH} {v : Value} {n : Nat} {tp : Nat → Int32} {x : PR} {w : WT} {a b : Nat} (hT : TA n tp A) (hS : SR (gB tp) n x A) (hk : ∀ y, x = .inr y → tkK (gB tp) n y.1 < 4) (hw : A.1 111 0 = -1 ↔ w.1 0 = 0) (ha : a < 2 ^ 31) (hb : b < 2 ^ 31) (h : ∀ A', SR (gB tp) n (if a = b then flP (gB tp) n 5 x else if w.1 0 = 0 then flP (gB tp) n 6 x else adP (gB tp) n x) A' → FP A A' → K none A') : Ct yX13_lineBegins mX13_lineBegins 2 dM (GG v (.ref 111)) [.ref 100, .int (nI a), .int (nI b)] A K := by
  refine Ct.of [some (.ref 100), some (.int (nI a)), some (.int (nI b))] rfl rfl rfl (Nat.le_of_ble_eq_true rfl) ?_
  refine w_iload_n 1 dX13_lineBegins_0 rfl rfl ?_
  refine w_iload_n 2 dX13_lineBegins_1 rfl rfl ?_
  refine w_icneN 10 5 dX13_lineBegins_2 rfl rfl (by omega) (by omega) (fun c2 => ?_) (fun c2 => ?_)
  · skip
    refine w_aload_n 11 dX13_lineBegins_10 rfl rfl ?_
    refine w_getr 14 dX13_lineBegins_11 rfl faX13_149 rfl rfl rfl (r := .ref 111) rfl ?_
    refine w_geti 17 dX13_lineBegins_14 rfl faX13_153 rfl rfl rfl ?_
    refine w_iconst 18 dX13_lineBegins_17 rfl (v := (-1)) rfl ?_
    refine w_icne 27 21 dX13_lineBegins_18 rfl rfl (fun c18 => ?_) (fun c18 => ?_)
    · skip
      refine w_aload_n 28 dX13_lineBegins_27 rfl rfl ?_
      refine w_inv0 31 dX13_lineBegins_28 rfl mlX13_114 rfl rfl (d' := 1) (by decide) (Nat.le_of_ble_eq_true rfl) (s_X13_goesOn (hT) (hS) (hk) (fun A3 hS3 hF3 => ?_))
      refine wr_v dX13_lineBegins_31 rfl ?_
      exact h A3 (by rw [if_neg c2, if_neg (fun z => c18 (hw.mpr z))]; exact hS3) hF3
    · skip
      refine w_aload_n 22 dX13_lineBegins_21 rfl rfl ?_
      refine w_bipush 24 dX13_lineBegins_22 rfl (v := nI 6) rfl ?_
      refine w_inv1 27 dX13_lineBegins_24 rfl mlX13_117 rfl rfl (d' := 0) (by decide) (Nat.le_of_ble_eq_true rfl) (s_X13_flaw (by decide) hS (fun A5 hS5 hF5 => ?_))
      refine w_aload_n 28 dX13_lineBegins_27 rfl rfl ?_
      refine w_inv0 31 dX13_lineBegins_28 rfl mlX13_114 rfl rfl (d' := 1) (by decide) (Nat.le_of_ble_eq_true rfl) (s_X13_goesOn (hT.fp hF5) (hS5) (fl_k) (fun A3 hS3 hF3 => ?_))
      refine wr_v dX13_lineBegins_31 rfl ?_
      rw [flP_ad] at hS3
      exact h A3 (by rw [if_neg c2, if_pos (hw.mp c18)]; exact hS3) (hF5.tr hF3)
  · skip
    refine w_aload_n 6 dX13_lineBegins_5 rfl rfl ?_
    refine w_iconst 7 dX13_lineBegins_6 rfl (v := nI 5) rfl ?_
    refine w_inv1 10 dX13_lineBegins_7 rfl mlX13_117 rfl rfl (d' := 0) (by decide) (Nat.le_of_ble_eq_true rfl) (s_X13_flaw (by decide) hS (fun A2 hS2 hF2 => ?_))
    refine w_aload_n 11 dX13_lineBegins_10 rfl rfl ?_
    refine w_getr 14 dX13_lineBegins_11 rfl faX13_149 rfl rfl rfl (r := .ref 111) rfl ?_
    refine w_getiv 17 dX13_lineBegins_14 rfl faX13_153 rfl rfl rfl (v := A.1 111 0) (by rw [(hF2.1 111 (by decide)).1]) ?_
    refine w_iconst 18 dX13_lineBegins_17 rfl (v := (-1)) rfl ?_
    refine w_icne 27 21 dX13_lineBegins_18 rfl rfl (fun c18 => ?_) (fun c18 => ?_)
    · skip
      refine w_aload_n 28 dX13_lineBegins_27 rfl rfl ?_
      refine w_inv0 31 dX13_lineBegins_28 rfl mlX13_114 rfl rfl (d' := 1) (by decide) (Nat.le_of_ble_eq_true rfl) (s_X13_goesOn (hT.fp hF2) (hS2) (fl_k) (fun A3 hS3 hF3 => ?_))
      refine wr_v dX13_lineBegins_31 rfl ?_
      rw [flP_ad] at hS3
      exact h A3 (by rw [if_pos c2]; exact hS3) (hF2.tr hF3)
    · skip
      refine w_aload_n 22 dX13_lineBegins_21 rfl rfl ?_
      refine w_bipush 24 dX13_lineBegins_22 rfl (v := nI 6) rfl ?_
      refine w_inv1 27 dX13_lineBegins_24 rfl mlX13_117 rfl rfl (d' := 0) (by decide) (Nat.le_of_ble_eq_true rfl) (s_X13_flaw (by decide) hS2 (fun A5 hS5 hF5 => ?_))
      rw [flP_fl] at hS5
      refine w_aload_n 28 dX13_lineBegins_27 rfl rfl ?_
      refine w_inv0 31 dX13_lineBegins_28 rfl mlX13_114 rfl rfl (d' := 1) (by decide) (Nat.le_of_ble_eq_true rfl) (s_X13_goesOn (hT.fp (hF2.tr hF5)) (hS5) (fl_k) (fun A3 hS3 hF3 => ?_))
      refine wr_v dX13_lineBegins_31 rfl ?_
      rw [flP_ad] at hS3
      exact h A3 (by rw [if_pos c2]; exact hS3) ((hF2.tr hF5).tr hF3)

set_option maxRecDepth 4000 in
theorem c_X13_eatsSemicolon {K : Option Value → AH → Prop} {A : AH} {v : Value} {n : Nat} {tp : Nat → Int32} {x : PR} (hT : TA n tp A) (hS : SR (gB tp) n x A) (h : ∀ A', SR (gB tp) n (if sx (gB tp) n x = 4 then adP (gB tp) n x else x) A' → FP A A' → K (some (.int (b2i (decide (sx (gB tp) n x = 4))))) A') : Ct yX13_eatsSemicolon mX13_eatsSemicolon 2 dM (GG v (.ref 111)) [.ref 100] A K := by
  refine Ct.of [some (.ref 100), none] rfl rfl rfl (Nat.le_of_ble_eq_true rfl) ?_
  have hsx := sx_le (g := gB tp) (n := n) (x := x)
  refine w_aload_n 1 dX13_eatsSemicolon_0 rfl rfl ?_
  refine w_getiv 4 dX13_eatsSemicolon_1 rfl faX13_78 rfl rfl rfl hS.srt ?_
  refine w_iconst 5 dX13_eatsSemicolon_4 rfl (v := nI 4) rfl ?_
  refine w_icneN 12 8 dX13_eatsSemicolon_5 rfl rfl (by omega) (by omega) (fun c5 => ?_) (fun c5 => ?_)
  · skip
    refine w_iconst 13 dX13_eatsSemicolon_12 rfl (v := nI 0) rfl ?_
    refine w_ist1 14 dX13_eatsSemicolon_13 rfl (by decide) rfl ?_
    refine w_iload_n 15 dX13_eatsSemicolon_14 rfl rfl ?_
    refine w_ifeqN 22 18 dX13_eatsSemicolon_15 rfl rfl (by decide) (fun _ => ?_) (fun cc => absurd cc (by decide))
    refine w_iload_n 23 dX13_eatsSemicolon_22 rfl rfl ?_
    refine wr_z dX13_eatsSemicolon_23 rfl (by first | rfl | exact nb_b2i _) ?_
    exact kq (h A (by rw [if_neg c5]; exact hS) FP.rf) (by rw [decide_eq_false c5]; rfl)
  · skip
    refine w_iconst 9 dX13_eatsSemicolon_8 rfl (v := nI 1) rfl ?_
    refine w_goto 13 dX13_eatsSemicolon_9 rfl ?_
    refine w_ist1 14 dX13_eatsSemicolon_13 rfl (by decide) rfl ?_
    refine w_iload_n 15 dX13_eatsSemicolon_14 rfl rfl ?_
    refine w_ifeqN 22 18 dX13_eatsSemicolon_15 rfl rfl (by decide) (fun cc => absurd cc (by decide)) (fun _ => ?_)
    refine w_aload_n 19 dX13_eatsSemicolon_18 rfl rfl ?_
    refine w_inv0 22 dX13_eatsSemicolon_19 rfl mlX13_114 rfl rfl (d' := 1) (by decide) (Nat.le_of_ble_eq_true rfl) (s_X13_goesOn (hT) (hS) (fun z e => by obtain ⟨y, e2, hk⟩ := sx_k (k := 3) c5 (by decide); rw [e] at e2; cases e2; rw [hk]; decide) (fun A3 hS3 hF3 => ?_))
    refine w_iload_n 23 dX13_eatsSemicolon_22 rfl rfl ?_
    refine wr_z dX13_eatsSemicolon_23 rfl (by first | rfl | exact nb_b2i _) ?_
    exact kq (h A3 (by rw [if_pos c5]; exact hS3) hF3) (by rw [decide_eq_true c5]; rfl)

