/-! ===== the reference: who lied ===== -/
theorem slipsM {w : WT} {s : Nat → Nat} {A : AH} (h : MC w s A) : A.1 111 0 = nI (tbz w 0 0 0) := by
  have h0 := h.2.2.2.2.2
  rw [h.1.1.1, if_neg (by omega), tbz, if_pos h0]
theorem brown_bit {w : WT} {k : Nat} (hk : k < w.1 7) : (brM w).testBit k = decide (w.2 7 k 2 = 1) := by
  unfold brM
  rw [testBit_maskTo, decide_eq_true hk, Bool.true_and]
theorem LN_eq {w : WT} {s : Nat → Nat} {A : AH} (h : MC w s A) : LN w = 2 ^ w.1 6 := if_pos h.2.2.2.2.1
theorem LN_le {w : WT} {s : Nat → Nat} {A : AH} (h : MC w s A) : LN w ≤ 32 := by rw [LN_eq h]; exact pw5 h.rooms.2.2.2.2.2.2.1
def fdF (p : Nat → Bool) (i : Int32) : Nat → Option Nat
  | 0 => none
  | n + 1 => if (p n && decide (nI (cntTo p n) = i)) = true then some n else fdF p i n
def wpB (w : WT) (x : Nat) : Bool := decide (0 < wgt w x)
def liC (w : WT) (k n : Nat) : Nat := cntTo (fun x => x.testBit k && decide (0 < wgt w x)) n
/-- what fitting() has laid by -/
def FT (w : WT) (n : Nat) (A : AH) : Prop := A.1 100 26 = nI (cntTo (wpB w) n) ∧ ∀ k, k < w.1 6 → A.1 109 k = nI (liC w k n)
def qFitAt (w : WT) (i : Int32) : Int32 := if i < 0 then -1 else encO (fdF (wpB w) i (LN w))
def tqFit (w : WT) (i : Int32) : Nat := if i < 0 then 1 else (if (fdF (wpB w) i (LN w)).isSome then 0 else 1)
theorem fdF_lt {p : Nat → Bool} {i : Int32} {x : Nat} : ∀ {n : Nat}, fdF p i n = some x → x < n
  | 0, h => by simp [fdF] at h
  | n + 1, h => by
    simp only [fdF] at h
    split at h
    · cases h; omega
    · have := fdF_lt h; omega
def tsM (w : WT) (k : Nat) : Nat := if cntTo (wpB w) (LN w) - liC w k (LN w) < liC w k (LN w) then liC w k (LN w) else cntTo (wpB w) (LN w) - liC w k (LN w)
def tsV (w : WT) : Nat → Option Nat × Nat := fun n => if cntTo (wpB w) (LN w) = 0 then (none, 0) else lvP (tsM w) (fun _ => true) n
def qTest (w : WT) : Int32 := if t1 (okW1 w) = 0 then enc2 (tsV w (w.1 6)).1 else -1
def qTestLeaves (w : WT) : Int32 := if t1 (okW1 w) = 0 then enc2 ((tsV w (w.1 6)).1.map (fun _ => (tsV w (w.1 6)).2)) else -1
theorem liC_le {w : WT} {k : Nat} : ∀ n, liC w k n ≤ cntTo (wpB w) n
  | 0 => Nat.le_refl _
  | n + 1 => by
    have ih := liC_le (w := w) (k := k) n
    unfold liC wpB at ih ⊢
    simp only [cntTo]
    by_cases q : 0 < wgt w n
    · simp only [q, decide_true, Bool.and_true]
      split
      · simp; omega
      · simp; omega
    · simp only [q, decide_false, Bool.and_false]
      simpa using ih
set_option maxRecDepth 4000 in
theorem c_X12_unsureOf {K : Option Value → AH → Prop} {A : AH} {r : Value} {w : WT} {s : Nat → Nat} {t : Nat} (hC : MC w s A) (ht : t < 1000) (h : K (some (.int (encO (fst1 (fun k => decide (w.2 6 k 0 = t)) (w.1 6))))) A) : Ct yX12_unsureOf mX12_unsureOf 0 dM (GG (.ref 111) r) [.ref 111, .int (nI t)] A K := by
  refine Ct.of [some (.ref 111), some (.int (nI t)), none] rfl rfl rfl (Nat.le_of_ble_eq_true rfl) ?_
  have hr := hC.rooms
  have lp2 : ∀ (nf : Nat) (i : Nat), i ≤ w.1 6 → fst1 (fun k => decide (w.2 6 k 0 = t)) i = none → w.1 6 - i < nf → WP mX12_unsureOf 0 dM (GG (.ref 111) r) 2 [some (.ref 111), some (.int (nI t)), some (.int (nI i))] [] A K := by
    intro nf
    induction nf with
    | zero => intros; omega
    | succ nf ih =>
      intro i hi hf hms
      refine w_iload_n 3 dX12_unsureOf_2 rfl rfl ?_
      refine w_aload_n 4 dX12_unsureOf_3 rfl rfl ?_
      refine w_getiv 7 dX12_unsureOf_4 rfl faX12_83 rfl rfl rfl (hC.1.2.1 6 (by decide) (by decide)) ?_
      refine w_icgeN 28 10 dX12_unsureOf_7 rfl rfl (by omega) (by omega) (fun c7 => ?_) (fun c7 => ?_)
      · skip
        refine w_iconst 29 dX12_unsureOf_28 rfl (v := (-1)) rfl ?_
        refine wr_i dX12_unsureOf_29 rfl ?_
        have e : i = w.1 6 := by omega
        subst e
        exact kq h (by rw [hf]; rfl)
      · skip
        refine w_aload_n 11 dX12_unsureOf_10 rfl rfl ?_
        refine w_getr 14 dX12_unsureOf_11 rfl faX12_61 rfl rfl rfl (r := .ref 127) rfl ?_
        refine w_iload_n 15 dX12_unsureOf_14 rfl rfl ?_
        have he := hC.ent (J := 6) (by decide) c7
        simp only [eOK] at he
        refine w_ialdv 16 dX12_unsureOf_15 rfl rfl rfl (by decide) (by omega) (hC.1.2.2.2.2.2.2.2.1 i c7) ?_
        refine w_iload_n 17 dX12_unsureOf_16 rfl rfl ?_
        refine w_icneN 22 20 dX12_unsureOf_17 rfl rfl (by omega) (by omega) (fun c17 => ?_) (fun c17 => ?_)
        · skip
          refine w_inc2 25 dX12_unsureOf_22 rfl (by decide) rfl (v := nI (_ + 1)) (nI_1 _) ?_
          refine w_goto 2 dX12_unsureOf_25 rfl ?_
          exact ih (i + 1) (by omega) (by simp [fst1, hf, c17]) (by omega)
        · skip
          refine w_iload_n 21 dX12_unsureOf_20 rfl rfl ?_
          refine wr_i dX12_unsureOf_21 rfl ?_
          exact kq h (by rw [fst1_some hf (decide_eq_true c17) c7]; rfl)
  refine w_iconst 1 dX12_unsureOf_0 rfl (v := nI 0) rfl ?_
  refine w_ist2 2 dX12_unsureOf_1 rfl (by decide) rfl ?_
  exact lp2 _ 0 (Nat.zero_le _) rfl (Nat.lt_succ_self _)

set_option maxRecDepth 4000 in
theorem c_X13_isLied {K : Option Value → AH → Prop} {A : AH} {r : Value} {w : WT} {s : Nat → Nat} {t : Nat} (hC : MC w s A) (ht : t < w.1 2) {x : Nat} (hx : x < 32) (h : K (some (.int (b2i (liedB w t x)))) A) : Ct yX13_isLied mX13_isLied 1 dM (GG (.ref 111) r) [.ref 100, .int (nI t), .int (nI x)] A K := by
  refine Ct.of [some (.ref 100), some (.int (nI t)), some (.int (nI x)), none] rfl rfl rfl (Nat.le_of_ble_eq_true rfl) ?_
  have hr := hC.rooms
  have he := hC.ent (J := 2) (by decide) ht
  simp only [eOK] at he
  have hz : tbz w 2 t 0 = w.2 2 t 0 := tbz_in ht
  refine w_aload_n 1 dX13_isLied_0 rfl rfl ?_
  refine w_getr 4 dX13_isLied_1 rfl faX13_343 rfl rfl rfl (r := .ref 111) rfl ?_
  refine w_iload_n 5 dX13_isLied_4 rfl rfl ?_
  refine w_inv1 8 dX13_isLied_5 rfl mlX13_316 rfl rfl (d' := 0) (by decide) (Nat.le_of_ble_eq_true rfl) (c_X12_unsureOf hC (by omega) ?_)
  refine w_ist3 9 dX13_isLied_8 rfl (by decide) rfl ?_
  refine w_iload_n 10 dX13_isLied_9 rfl rfl ?_
  refine w_iconst 11 dX13_isLied_10 rfl (v := (-1)) rfl ?_
  refine w_iceq 19 14 dX13_isLied_11 rfl rfl (fun c11 => ?_) (fun c11 => ?_)
  · skip
    have hno : fst1 (fun k => decide (w.2 6 k 0 = t)) (w.1 6) = none := (enc_m1 (fun v hv => by have := (fst1_lt hv).1; omega)).mp c11
    refine w_aload_n 20 dX13_isLied_19 rfl rfl ?_
    refine w_getr 23 dX13_isLied_20 rfl faX13_343 rfl rfl rfl (r := .ref 111) rfl ?_
    refine w_getr 26 dX13_isLied_23 rfl faX13_258 rfl rfl rfl (r := .ref 112) rfl ?_
    refine w_iload_n 27 dX13_isLied_26 rfl rfl ?_
    refine w_ialdv 28 dX13_isLied_27 rfl rfl rfl (by decide) (by omega) (v := nI (w.2 2 t 0)) (hC.1.2.2.1 t ht).1 ?_
    refine w_iconst 29 dX13_isLied_28 rfl (v := nI 3) rfl ?_
    refine w_icneN 36 32 dX13_isLied_29 rfl rfl (by omega) (by omega) (fun c29 => ?_) (fun c29 => ?_)
    · skip
      refine w_iconst 37 dX13_isLied_36 rfl (v := nI 0) rfl ?_
      refine w_goto 45 dX13_isLied_37 rfl ?_
      refine wr_z dX13_isLied_45 rfl (by first | rfl | exact nb_b2i _) ?_
      exact kq h (by rw [liedB, hno, hz, decide_eq_false c29]; rfl)
    · skip
      refine w_iconst 33 dX13_isLied_32 rfl (v := nI 1) rfl ?_
      refine w_goto 45 dX13_isLied_33 rfl ?_
      refine wr_z dX13_isLied_45 rfl (by first | rfl | exact nb_b2i _) ?_
      exact kq h (by rw [liedB, hno, hz, decide_eq_true c29]; rfl)
  · skip
    have hex : ∃ k, fst1 (fun k => decide (w.2 6 k 0 = t)) (w.1 6) = some k := by
      cases q : fst1 (fun k => decide (w.2 6 k 0 = t)) (w.1 6) with
      | none => rw [q] at c11; exact absurd rfl c11
      | some k => exact ⟨k, rfl⟩
    obtain ⟨k, hk⟩ := hex
    have hkl := (fst1_lt hk).1
    rw [hk]
    rw [show encO (some k) = nI k from rfl]
    refine w_iload_n 15 dX13_isLied_14 rfl rfl ?_
    refine w_iconst 16 dX13_isLied_15 rfl (v := (-1)) rfl ?_
    refine w_icne 40 19 dX13_isLied_16 rfl rfl (fun c16 => ?_) (fun c16 => (by exact absurd c16 (nI_m1 (by omega))))
    refine w_iload_n 41 dX13_isLied_40 rfl rfl ?_
    refine w_iload_n 42 dX13_isLied_41 rfl rfl ?_
    refine w_invs2 45 dX13_isLied_42 rfl slX13_277 (d' := 0) (by decide) (Nat.le_of_ble_eq_true rfl) (c_X13_bit ?_)
    rw [hasB_nI (by omega) (by omega)]
    refine wr_z dX13_isLied_45 rfl (by first | rfl | exact nb_b2i _) ?_
    exact kq h (by rw [liedB, hk])

set_option maxRecDepth 4000 in
theorem c_X13_isLiedK {K : Option Value → AH → Prop} {A : AH} {r : Value} {w : WT} {s : Nat → Nat} {t : Nat} (hC : MC w s A) (ht : t < w.1 2) (h : K (some (.int (b2i (decide (tbz w 2 t 0 = 3))))) A) : Ct yX13_isLied mX13_isLied 1 dM (GG (.ref 111) r) [.ref 100, .int (nI t), .int (-1)] A K := by
  refine Ct.of [some (.ref 100), some (.int (nI t)), some (.int (-1)), none] rfl rfl rfl (Nat.le_of_ble_eq_true rfl) ?_
  have hr := hC.rooms
  have he := hC.ent (J := 2) (by decide) ht
  simp only [eOK] at he
  have hz : tbz w 2 t 0 = w.2 2 t 0 := tbz_in ht
  refine w_aload_n 1 dX13_isLied_0 rfl rfl ?_
  refine w_getr 4 dX13_isLied_1 rfl faX13_343 rfl rfl rfl (r := .ref 111) rfl ?_
  refine w_iload_n 5 dX13_isLied_4 rfl rfl ?_
  refine w_inv1 8 dX13_isLied_5 rfl mlX13_316 rfl rfl (d' := 0) (by decide) (Nat.le_of_ble_eq_true rfl) (c_X12_unsureOf hC (by omega) ?_)
  refine w_ist3 9 dX13_isLied_8 rfl (by decide) rfl ?_
  refine w_iload_n 10 dX13_isLied_9 rfl rfl ?_
  refine w_iconst 11 dX13_isLied_10 rfl (v := (-1)) rfl ?_
  refine w_iceq 19 14 dX13_isLied_11 rfl rfl (fun c11 => ?_) (fun c11 => ?_)
  · skip
    refine w_aload_n 20 dX13_isLied_19 rfl rfl ?_
    refine w_getr 23 dX13_isLied_20 rfl faX13_343 rfl rfl rfl (r := .ref 111) rfl ?_
    refine w_getr 26 dX13_isLied_23 rfl faX13_258 rfl rfl rfl (r := .ref 112) rfl ?_
    refine w_iload_n 27 dX13_isLied_26 rfl rfl ?_
    refine w_ialdv 28 dX13_isLied_27 rfl rfl rfl (by decide) (by omega) (v := nI (w.2 2 t 0)) (hC.1.2.2.1 t ht).1 ?_
    refine w_iconst 29 dX13_isLied_28 rfl (v := nI 3) rfl ?_
    refine w_icneN 36 32 dX13_isLied_29 rfl rfl (by omega) (by omega) (fun c29 => ?_) (fun c29 => ?_)
    · skip
      refine w_iconst 37 dX13_isLied_36 rfl (v := nI 0) rfl ?_
      refine w_goto 45 dX13_isLied_37 rfl ?_
      refine wr_z dX13_isLied_45 rfl (by first | rfl | exact nb_b2i _) ?_
      exact kq h (by rw [hz, decide_eq_false c29]; rfl)
    · skip
      refine w_iconst 33 dX13_isLied_32 rfl (v := nI 1) rfl ?_
      refine w_goto 45 dX13_isLied_33 rfl ?_
      refine wr_z dX13_isLied_45 rfl (by first | rfl | exact nb_b2i _) ?_
      exact kq h (by rw [hz, decide_eq_true c29]; rfl)
  · skip
    refine w_iload_n 15 dX13_isLied_14 rfl rfl ?_
    refine w_iconst 16 dX13_isLied_15 rfl (v := (-1)) rfl ?_
    refine w_icne 40 19 dX13_isLied_16 rfl rfl (fun c16 => (by exact absurd rfl c16)) (fun c16 => ?_)
    refine w_aload_n 20 dX13_isLied_19 rfl rfl ?_
    refine w_getr 23 dX13_isLied_20 rfl faX13_343 rfl rfl rfl (r := .ref 111) rfl ?_
    refine w_getr 26 dX13_isLied_23 rfl faX13_258 rfl rfl rfl (r := .ref 112) rfl ?_
    refine w_iload_n 27 dX13_isLied_26 rfl rfl ?_
    refine w_ialdv 28 dX13_isLied_27 rfl rfl rfl (by decide) (by omega) (v := nI (w.2 2 t 0)) (hC.1.2.2.1 t ht).1 ?_
    refine w_iconst 29 dX13_isLied_28 rfl (v := nI 3) rfl ?_
    refine w_icneN 36 32 dX13_isLied_29 rfl rfl (by omega) (by omega) (fun c29 => ?_) (fun c29 => ?_)
    · skip
      refine w_iconst 37 dX13_isLied_36 rfl (v := nI 0) rfl ?_
      refine w_goto 45 dX13_isLied_37 rfl ?_
      refine wr_z dX13_isLied_45 rfl (by first | rfl | exact nb_b2i _) ?_
      exact kq h (by rw [hz, decide_eq_false c29]; rfl)
    · skip
      refine w_iconst 33 dX13_isLied_32 rfl (v := nI 1) rfl ?_
      refine w_goto 45 dX13_isLied_33 rfl ?_
      refine wr_z dX13_isLied_45 rfl (by first | rfl | exact nb_b2i _) ?_
      exact kq h (by rw [hz, decide_eq_true c29]; rfl)

set_option maxRecDepth 4000 in
theorem c_X13_isRight {K : Option Value → AH → Prop} {A : AH} {r : Value} {w : WT} {s : Nat → Nat} {k x : Nat} (hC : MC w s A) (hk : k < w.1 7) (hx : x < 32) (h : K (some (.int (b2i ((liedB w (w.2 7 k 0) x || liedB w (w.2 7 k 1) x) == decide (w.2 7 k 2 = 1))))) A) : Ct yX13_isRight mX13_isRight 2 dM (GG (.ref 111) r) [.ref 100, .int (nI k), .int (nI x)] A K := by
  refine Ct.of [some (.ref 100), some (.int (nI k)), some (.int (nI x))] rfl rfl rfl (Nat.le_of_ble_eq_true rfl) ?_
  have hr := hC.rooms
  have he := hC.ent (J := 7) (by decide) hk
  simp only [eOK] at he
  obtain ⟨q0, q1⟩ := hC.1.2.2.2.2.2.2.2.2 k hk
  refine w_aload_n 1 dX13_isRight_0 rfl rfl ?_
  refine w_aload_n 2 dX13_isRight_1 rfl rfl ?_
  refine w_getr 5 dX13_isRight_2 rfl faX13_343 rfl rfl rfl (r := .ref 111) rfl ?_
  refine w_getr 8 dX13_isRight_5 rfl faX13_328 rfl rfl rfl (r := .ref 128) rfl ?_
  refine w_iload_n 9 dX13_isRight_8 rfl rfl ?_
  refine w_ialdv 10 dX13_isRight_9 rfl rfl rfl (by decide) (by omega) q0 ?_
  refine w_iload_n 11 dX13_isRight_10 rfl rfl ?_
  refine w_inv2 14 dX13_isRight_11 rfl mlX13_449 rfl rfl (d' := 1) (by decide) (Nat.le_of_ble_eq_true rfl) (c_X13_isLied hC he.1 hx ?_)
  refine w_ifneB 34 17 dX13_isRight_14 rfl rfl (fun c14 => ?_) (fun c14 => ?_)
  · skip
    refine w_iconst 35 dX13_isRight_34 rfl (v := nI 1) rfl ?_
    refine w_goto 39 dX13_isRight_35 rfl ?_
    rw [show nI 1 = b2i true from rfl]
    refine w_aload_n 40 dX13_isRight_39 rfl rfl ?_
    refine w_getr 43 dX13_isRight_40 rfl faX13_343 rfl rfl rfl (r := .ref 111) rfl ?_
    refine w_getiv 46 dX13_isRight_43 rfl faX13_334 rfl rfl rfl hC.1.1.2.2 ?_
    refine w_iload_n 47 dX13_isRight_46 rfl rfl ?_
    refine w_invs2 50 dX13_isRight_47 rfl slX13_277 (d' := 0) (by decide) (Nat.le_of_ble_eq_true rfl) (c_X13_bit ?_)
    rw [hasB_nI (by have := maskTo_lt (fun k => decide (w.2 7 k 2 = 1)) (w.1 7); have : 2 ^ w.1 7 ≤ 2 ^ 6 := Nat.pow_le_pow_right (by decide) hr.2.2.2.2.2.2.2; unfold brM; omega) (by omega), brown_bit hk]
    refine w_icne 57 53 dX13_isRight_50 rfl rfl (fun c50 => ?_) (fun c50 => ?_)
    · skip
      refine w_iconst 58 dX13_isRight_57 rfl (v := nI 0) rfl ?_
      refine wr_z dX13_isRight_58 rfl (by first | rfl | exact nb_b2i _) ?_
      have c50 : ¬ true = decide (w.2 7 k 2 = 1) := fun z => c50 (by rw [← z])
      exact kq h (by rw [c14, Bool.true_or, show (true == decide (w.2 7 k 2 = 1)) = false from beq_eq_false_iff_ne.mpr c50]; rfl)
    · skip
      refine w_iconst 54 dX13_isRight_53 rfl (v := nI 1) rfl ?_
      refine w_goto 58 dX13_isRight_54 rfl ?_
      refine wr_z dX13_isRight_58 rfl (by first | rfl | exact nb_b2i _) ?_
      have c50 : true = decide (w.2 7 k 2 = 1) := b2i_inj.mp c50
      exact kq h (by rw [c14, Bool.true_or, show (true == decide (w.2 7 k 2 = 1)) = true from beq_iff_eq.mpr c50]; rfl)
  · skip
    refine w_aload_n 18 dX13_isRight_17 rfl rfl ?_
    refine w_aload_n 19 dX13_isRight_18 rfl rfl ?_
    refine w_getr 22 dX13_isRight_19 rfl faX13_343 rfl rfl rfl (r := .ref 111) rfl ?_
    refine w_getr 25 dX13_isRight_22 rfl faX13_331 rfl rfl rfl (r := .ref 129) rfl ?_
    refine w_iload_n 26 dX13_isRight_25 rfl rfl ?_
    refine w_ialdv 27 dX13_isRight_26 rfl rfl rfl (by decide) (by omega) q1 ?_
    refine w_iload_n 28 dX13_isRight_27 rfl rfl ?_
    refine w_inv2 31 dX13_isRight_28 rfl mlX13_449 rfl rfl (d' := 1) (by decide) (Nat.le_of_ble_eq_true rfl) (c_X13_isLied hC he.2.1 hx ?_)
    refine w_ifeqB 38 34 dX13_isRight_31 rfl rfl (fun c31 => ?_) (fun c31 => ?_)
    · skip
      refine w_iconst 39 dX13_isRight_38 rfl (v := nI 0) rfl ?_
      rw [show nI 0 = b2i false from rfl]
      refine w_aload_n 40 dX13_isRight_39 rfl rfl ?_
      refine w_getr 43 dX13_isRight_40 rfl faX13_343 rfl rfl rfl (r := .ref 111) rfl ?_
      refine w_getiv 46 dX13_isRight_43 rfl faX13_334 rfl rfl rfl hC.1.1.2.2 ?_
      refine w_iload_n 47 dX13_isRight_46 rfl rfl ?_
      refine w_invs2 50 dX13_isRight_47 rfl slX13_277 (d' := 0) (by decide) (Nat.le_of_ble_eq_true rfl) (c_X13_bit ?_)
      rw [hasB_nI (by have := maskTo_lt (fun k => decide (w.2 7 k 2 = 1)) (w.1 7); have : 2 ^ w.1 7 ≤ 2 ^ 6 := Nat.pow_le_pow_right (by decide) hr.2.2.2.2.2.2.2; unfold brM; omega) (by omega), brown_bit hk]
      refine w_icne 57 53 dX13_isRight_50 rfl rfl (fun c50 => ?_) (fun c50 => ?_)
      · skip
        refine w_iconst 58 dX13_isRight_57 rfl (v := nI 0) rfl ?_
        refine wr_z dX13_isRight_58 rfl (by first | rfl | exact nb_b2i _) ?_
        have c50 : ¬ false = decide (w.2 7 k 2 = 1) := fun z => c50 (by rw [← z])
        exact kq h (by rw [c14, c31, Bool.false_or, show (false == decide (w.2 7 k 2 = 1)) = false from beq_eq_false_iff_ne.mpr c50]; rfl)
      · skip
        refine w_iconst 54 dX13_isRight_53 rfl (v := nI 1) rfl ?_
        refine w_goto 58 dX13_isRight_54 rfl ?_
        refine wr_z dX13_isRight_58 rfl (by first | rfl | exact nb_b2i _) ?_
        have c50 : false = decide (w.2 7 k 2 = 1) := b2i_inj.mp c50
        exact kq h (by rw [c14, c31, Bool.false_or, show (false == decide (w.2 7 k 2 = 1)) = true from beq_iff_eq.mpr c50]; rfl)
    · skip
      refine w_iconst 35 dX13_isRight_34 rfl (v := nI 1) rfl ?_
      refine w_goto 39 dX13_isRight_35 rfl ?_
      rw [show nI 1 = b2i true from rfl]
      refine w_aload_n 40 dX13_isRight_39 rfl rfl ?_
      refine w_getr 43 dX13_isRight_40 rfl faX13_343 rfl rfl rfl (r := .ref 111) rfl ?_
      refine w_getiv 46 dX13_isRight_43 rfl faX13_334 rfl rfl rfl hC.1.1.2.2 ?_
      refine w_iload_n 47 dX13_isRight_46 rfl rfl ?_
      refine w_invs2 50 dX13_isRight_47 rfl slX13_277 (d' := 0) (by decide) (Nat.le_of_ble_eq_true rfl) (c_X13_bit ?_)
      rw [hasB_nI (by have := maskTo_lt (fun k => decide (w.2 7 k 2 = 1)) (w.1 7); have : 2 ^ w.1 7 ≤ 2 ^ 6 := Nat.pow_le_pow_right (by decide) hr.2.2.2.2.2.2.2; unfold brM; omega) (by omega), brown_bit hk]
      refine w_icne 57 53 dX13_isRight_50 rfl rfl (fun c50 => ?_) (fun c50 => ?_)
      · skip
        refine w_iconst 58 dX13_isRight_57 rfl (v := nI 0) rfl ?_
        refine wr_z dX13_isRight_58 rfl (by first | rfl | exact nb_b2i _) ?_
        have c50 : ¬ true = decide (w.2 7 k 2 = 1) := fun z => c50 (by rw [← z])
        exact kq h (by rw [c14, c31, Bool.false_or, show (true == decide (w.2 7 k 2 = 1)) = false from beq_eq_false_iff_ne.mpr c50]; rfl)
      · skip
        refine w_iconst 54 dX13_isRight_53 rfl (v := nI 1) rfl ?_
        refine w_goto 58 dX13_isRight_54 rfl ?_
        refine wr_z dX13_isRight_58 rfl (by first | rfl | exact nb_b2i _) ?_
        have c50 : true = decide (w.2 7 k 2 = 1) := b2i_inj.mp c50
        exact kq h (by rw [c14, c31, Bool.false_or, show (true == decide (w.2 7 k 2 = 1)) = true from beq_iff_eq.mpr c50]; rfl)

set_option maxRecDepth 4000 in
theorem c_X13_isRightK {K : Option Value → AH → Prop} {A : AH} {r : Value} {w : WT} {s : Nat → Nat} {k : Nat} (hC : MC w s A) (hk : k < w.1 7) (h : K (some (.int (b2i ((decide (tbz w 2 (w.2 7 k 0) 0 = 3) || decide (tbz w 2 (w.2 7 k 1) 0 = 3)) == decide (w.2 7 k 2 = 1))))) A) : Ct yX13_isRight mX13_isRight 2 dM (GG (.ref 111) r) [.ref 100, .int (nI k), .int (-1)] A K := by
  refine Ct.of [some (.ref 100), some (.int (nI k)), some (.int (-1))] rfl rfl rfl (Nat.le_of_ble_eq_true rfl) ?_
  have hr := hC.rooms
  have he := hC.ent (J := 7) (by decide) hk
  simp only [eOK] at he
  obtain ⟨q0, q1⟩ := hC.1.2.2.2.2.2.2.2.2 k hk
  refine w_aload_n 1 dX13_isRight_0 rfl rfl ?_
  refine w_aload_n 2 dX13_isRight_1 rfl rfl ?_
  refine w_getr 5 dX13_isRight_2 rfl faX13_343 rfl rfl rfl (r := .ref 111) rfl ?_
  refine w_getr 8 dX13_isRight_5 rfl faX13_328 rfl rfl rfl (r := .ref 128) rfl ?_
  refine w_iload_n 9 dX13_isRight_8 rfl rfl ?_
  refine w_ialdv 10 dX13_isRight_9 rfl rfl rfl (by decide) (by omega) q0 ?_
  refine w_iload_n 11 dX13_isRight_10 rfl rfl ?_
  refine w_inv2 14 dX13_isRight_11 rfl mlX13_449 rfl rfl (d' := 1) (by decide) (Nat.le_of_ble_eq_true rfl) (c_X13_isLiedK hC he.1 ?_)
  refine w_ifneB 34 17 dX13_isRight_14 rfl rfl (fun c14 => ?_) (fun c14 => ?_)
  · skip
    refine w_iconst 35 dX13_isRight_34 rfl (v := nI 1) rfl ?_
    refine w_goto 39 dX13_isRight_35 rfl ?_
    rw [show nI 1 = b2i true from rfl]
    refine w_aload_n 40 dX13_isRight_39 rfl rfl ?_
    refine w_getr 43 dX13_isRight_40 rfl faX13_343 rfl rfl rfl (r := .ref 111) rfl ?_
    refine w_getiv 46 dX13_isRight_43 rfl faX13_334 rfl rfl rfl hC.1.1.2.2 ?_
    refine w_iload_n 47 dX13_isRight_46 rfl rfl ?_
    refine w_invs2 50 dX13_isRight_47 rfl slX13_277 (d' := 0) (by decide) (Nat.le_of_ble_eq_true rfl) (c_X13_bit ?_)
    rw [hasB_nI (by have := maskTo_lt (fun k => decide (w.2 7 k 2 = 1)) (w.1 7); have : 2 ^ w.1 7 ≤ 2 ^ 6 := Nat.pow_le_pow_right (by decide) hr.2.2.2.2.2.2.2; unfold brM; omega) (by omega), brown_bit hk]
    refine w_icne 57 53 dX13_isRight_50 rfl rfl (fun c50 => ?_) (fun c50 => ?_)
    · skip
      refine w_iconst 58 dX13_isRight_57 rfl (v := nI 0) rfl ?_
      refine wr_z dX13_isRight_58 rfl (by first | rfl | exact nb_b2i _) ?_
      have c50 : ¬ true = decide (w.2 7 k 2 = 1) := fun z => c50 (by rw [← z])
      exact kq h (by rw [c14, Bool.true_or, show (true == decide (w.2 7 k 2 = 1)) = false from beq_eq_false_iff_ne.mpr c50]; rfl)
    · skip
      refine w_iconst 54 dX13_isRight_53 rfl (v := nI 1) rfl ?_
      refine w_goto 58 dX13_isRight_54 rfl ?_
      refine wr_z dX13_isRight_58 rfl (by first | rfl | exact nb_b2i _) ?_
      have c50 : true = decide (w.2 7 k 2 = 1) := b2i_inj.mp c50
      exact kq h (by rw [c14, Bool.true_or, show (true == decide (w.2 7 k 2 = 1)) = true from beq_iff_eq.mpr c50]; rfl)
  · skip
    refine w_aload_n 18 dX13_isRight_17 rfl rfl ?_
    refine w_aload_n 19 dX13_isRight_18 rfl rfl ?_
    refine w_getr 22 dX13_isRight_19 rfl faX13_343 rfl rfl rfl (r := .ref 111) rfl ?_
    refine w_getr 25 dX13_isRight_22 rfl faX13_331 rfl rfl rfl (r := .ref 129) rfl ?_
    refine w_iload_n 26 dX13_isRight_25 rfl rfl ?_
    refine w_ialdv 27 dX13_isRight_26 rfl rfl rfl (by decide) (by omega) q1 ?_
    refine w_iload_n 28 dX13_isRight_27 rfl rfl ?_
    refine w_inv2 31 dX13_isRight_28 rfl mlX13_449 rfl rfl (d' := 1) (by decide) (Nat.le_of_ble_eq_true rfl) (c_X13_isLiedK hC he.2.1 ?_)
    refine w_ifeqB 38 34 dX13_isRight_31 rfl rfl (fun c31 => ?_) (fun c31 => ?_)
    · skip
      refine w_iconst 39 dX13_isRight_38 rfl (v := nI 0) rfl ?_
      rw [show nI 0 = b2i false from rfl]
      refine w_aload_n 40 dX13_isRight_39 rfl rfl ?_
      refine w_getr 43 dX13_isRight_40 rfl faX13_343 rfl rfl rfl (r := .ref 111) rfl ?_
      refine w_getiv 46 dX13_isRight_43 rfl faX13_334 rfl rfl rfl hC.1.1.2.2 ?_
      refine w_iload_n 47 dX13_isRight_46 rfl rfl ?_
      refine w_invs2 50 dX13_isRight_47 rfl slX13_277 (d' := 0) (by decide) (Nat.le_of_ble_eq_true rfl) (c_X13_bit ?_)
      rw [hasB_nI (by have := maskTo_lt (fun k => decide (w.2 7 k 2 = 1)) (w.1 7); have : 2 ^ w.1 7 ≤ 2 ^ 6 := Nat.pow_le_pow_right (by decide) hr.2.2.2.2.2.2.2; unfold brM; omega) (by omega), brown_bit hk]
      refine w_icne 57 53 dX13_isRight_50 rfl rfl (fun c50 => ?_) (fun c50 => ?_)
      · skip
        refine w_iconst 58 dX13_isRight_57 rfl (v := nI 0) rfl ?_
        refine wr_z dX13_isRight_58 rfl (by first | rfl | exact nb_b2i _) ?_
        have c50 : ¬ false = decide (w.2 7 k 2 = 1) := fun z => c50 (by rw [← z])
        exact kq h (by rw [c14, c31, Bool.false_or, show (false == decide (w.2 7 k 2 = 1)) = false from beq_eq_false_iff_ne.mpr c50]; rfl)
      · skip
        refine w_iconst 54 dX13_isRight_53 rfl (v := nI 1) rfl ?_
        refine w_goto 58 dX13_isRight_54 rfl ?_
        refine wr_z dX13_isRight_58 rfl (by first | rfl | exact nb_b2i _) ?_
        have c50 : false = decide (w.2 7 k 2 = 1) := b2i_inj.mp c50
        exact kq h (by rw [c14, c31, Bool.false_or, show (false == decide (w.2 7 k 2 = 1)) = true from beq_iff_eq.mpr c50]; rfl)
    · skip
      refine w_iconst 35 dX13_isRight_34 rfl (v := nI 1) rfl ?_
      refine w_goto 39 dX13_isRight_35 rfl ?_
      rw [show nI 1 = b2i true from rfl]
      refine w_aload_n 40 dX13_isRight_39 rfl rfl ?_
      refine w_getr 43 dX13_isRight_40 rfl faX13_343 rfl rfl rfl (r := .ref 111) rfl ?_
      refine w_getiv 46 dX13_isRight_43 rfl faX13_334 rfl rfl rfl hC.1.1.2.2 ?_
      refine w_iload_n 47 dX13_isRight_46 rfl rfl ?_
      refine w_invs2 50 dX13_isRight_47 rfl slX13_277 (d' := 0) (by decide) (Nat.le_of_ble_eq_true rfl) (c_X13_bit ?_)
      rw [hasB_nI (by have := maskTo_lt (fun k => decide (w.2 7 k 2 = 1)) (w.1 7); have : 2 ^ w.1 7 ≤ 2 ^ 6 := Nat.pow_le_pow_right (by decide) hr.2.2.2.2.2.2.2; unfold brM; omega) (by omega), brown_bit hk]
      refine w_icne 57 53 dX13_isRight_50 rfl rfl (fun c50 => ?_) (fun c50 => ?_)
      · skip
        refine w_iconst 58 dX13_isRight_57 rfl (v := nI 0) rfl ?_
        refine wr_z dX13_isRight_58 rfl (by first | rfl | exact nb_b2i _) ?_
        have c50 : ¬ true = decide (w.2 7 k 2 = 1) := fun z => c50 (by rw [← z])
        exact kq h (by rw [c14, c31, Bool.false_or, show (true == decide (w.2 7 k 2 = 1)) = false from beq_eq_false_iff_ne.mpr c50]; rfl)
      · skip
        refine w_iconst 54 dX13_isRight_53 rfl (v := nI 1) rfl ?_
        refine w_goto 58 dX13_isRight_54 rfl ?_
        refine wr_z dX13_isRight_58 rfl (by first | rfl | exact nb_b2i _) ?_
        have c50 : true = decide (w.2 7 k 2 = 1) := b2i_inj.mp c50
        exact kq h (by rw [c14, c31, Bool.false_or, show (true == decide (w.2 7 k 2 = 1)) = true from beq_iff_eq.mpr c50]; rfl)

set_option maxRecDepth 4000 in
theorem c_X13_weightOf {K : Option Value → AH → Prop} {A : AH} {r : Value} {w : WT} {s : Nat → Nat} {x : Nat} (hC : MC w s A) (hx : x < 32) (h : K (some (.long (lN (wgt w x)))) A) : Ct yX13_weightOf mX13_weightOf 3 dM (GG (.ref 111) r) [.ref 100, .int (nI x)] A K := by
  refine Ct.of [some (.ref 100), some (.int (nI x)), none, none, none] rfl rfl rfl (Nat.le_of_ble_eq_true rfl) ?_
  have hr := hC.rooms
  have hsl := hC.okT.2.2.2.1.2.1
  have lp5 : ∀ (nf : Nat) (i : Nat), i ≤ w.1 7 → w.1 7 - i < nf → WP mX13_weightOf 3 dM (GG (.ref 111) r) 5 [some (.ref 100), some (.int (nI x)), some (.long (lN (prodTo (hairF w x) i))), none, some (.int (nI i))] [] A K := by
    intro nf
    induction nf with
    | zero => intros; omega
    | succ nf ih =>
      intro i hi hms
      refine w_iload 7 dX13_weightOf_5 rfl rfl ?_
      refine w_aload_n 8 dX13_weightOf_7 rfl rfl ?_
      refine w_getr 11 dX13_weightOf_8 rfl faX13_343 rfl rfl rfl (r := .ref 111) rfl ?_
      refine w_getiv 14 dX13_weightOf_11 rfl faX13_321 rfl rfl rfl (hC.1.2.1 7 (by decide) (by decide)) ?_
      refine w_icgeN 58 17 dX13_weightOf_14 rfl rfl (by omega) (by omega) (fun c14 => ?_) (fun c14 => ?_)
      · skip
        have e : i = w.1 7 := by omega
        subst e
        refine w_lload_n 59 dX13_weightOf_58 rfl rfl ?_
        refine wr_l dX13_weightOf_59 rfl ?_
        exact h
      · skip
        refine w_lload_n 18 dX13_weightOf_17 rfl rfl ?_
        refine w_aload_n 19 dX13_weightOf_18 rfl rfl ?_
        refine w_iload 21 dX13_weightOf_19 rfl rfl ?_
        refine w_iload_n 22 dX13_weightOf_21 rfl rfl ?_
        refine w_inv2 25 dX13_weightOf_22 rfl mlX13_452 rfl rfl (d' := 2) (by decide) (Nat.le_of_ble_eq_true rfl) (c_X13_isRight hC c14 hx ?_)
        refine w_ifeqB 42 28 dX13_weightOf_25 rfl rfl (fun c25 => ?_) (fun c25 => ?_)
        · skip
          refine w_aload_n 43 dX13_weightOf_42 rfl rfl ?_
          refine w_getr 46 dX13_weightOf_43 rfl faX13_343 rfl rfl rfl (r := .ref 111) rfl ?_
          refine w_getiv 49 dX13_weightOf_46 rfl faX13_153 rfl rfl rfl (slipsM hC) ?_
          refine w_i2lN 50 dX13_weightOf_49 rfl (by omega) ?_
          refine w_lmulN 51 dX13_weightOf_50 rfl ?_
          refine w_lst2 52 dX13_weightOf_51 rfl (by decide) rfl ?_
          refine w_inc4 55 dX13_weightOf_52 rfl (by decide) rfl (v := nI (_ + 1)) (nI_1 _) ?_
          refine w_goto 5 dX13_weightOf_55 rfl ?_
          refine wp_to ?_ rfl rfl (ih (i + 1) (by omega) (by omega))
          simp only [lle, prodTo, hairF]
          rw [if_neg (fun z => by rw [beq_iff_eq.mpr z] at c25; cases c25)]
          simp
        · skip
          refine w_bipush 30 dX13_weightOf_28 rfl (v := nI 100) rfl ?_
          refine w_aload_n 31 dX13_weightOf_30 rfl rfl ?_
          refine w_getr 34 dX13_weightOf_31 rfl faX13_343 rfl rfl rfl (r := .ref 111) rfl ?_
          refine w_getiv 37 dX13_weightOf_34 rfl faX13_153 rfl rfl rfl (slipsM hC) ?_
          refine w_isubN 38 dX13_weightOf_37 rfl hsl ?_
          refine w_i2lN 39 dX13_weightOf_38 rfl (by omega) ?_
          refine w_goto 50 dX13_weightOf_39 rfl ?_
          refine w_lmulN 51 dX13_weightOf_50 rfl ?_
          refine w_lst2 52 dX13_weightOf_51 rfl (by decide) rfl ?_
          refine w_inc4 55 dX13_weightOf_52 rfl (by decide) rfl (v := nI (_ + 1)) (nI_1 _) ?_
          refine w_goto 5 dX13_weightOf_55 rfl ?_
          refine wp_to ?_ rfl rfl (ih (i + 1) (by omega) (by omega))
          simp only [lle, prodTo, hairF]
          rw [if_pos (beq_iff_eq.mp c25)]
          simp
  refine w_lconst 1 dX13_weightOf_0 rfl (v := lN 1) rfl ?_
  refine w_lst2 2 dX13_weightOf_1 rfl (by decide) rfl ?_
  refine w_iconst 3 dX13_weightOf_2 rfl (v := nI 0) rfl ?_
  refine w_ist4 5 dX13_weightOf_3 rfl (by decide) rfl ?_
  exact lp5 _ 0 (Nat.zero_le _) (Nat.lt_succ_self _)

set_option maxRecDepth 4000 in
theorem c_X13_sets {K : Option Value → AH → Prop} {A : AH} {r : Value} {w : WT} {s : Nat → Nat} (hC : MC w s A) (h : K (some (.int (nI (LN w)))) A) : Ct yX13_sets mX13_sets 0 dM (GG (.ref 111) r) [.ref 100] A K := by
  refine Ct.of [some (.ref 100)] rfl rfl rfl (Nat.le_of_ble_eq_true rfl) ?_
  have hr := hC.rooms
  refine w_iconst 1 dX13_sets_0 rfl (v := nI 1) rfl ?_
  refine w_aload_n 2 dX13_sets_1 rfl rfl ?_
  refine w_getr 5 dX13_sets_2 rfl faX13_343 rfl rfl rfl (r := .ref 111) rfl ?_
  refine w_getiv 8 dX13_sets_5 rfl faX13_313 rfl rfl rfl (hC.1.2.1 6 (by decide) (by decide)) ?_
  refine w_shl1 9 dX13_sets_8 rfl (by omega) ?_
  refine wr_i dX13_sets_9 rfl ?_
  exact kq h (by rw [LN_eq hC])

set_option maxRecDepth 4000 in
theorem c_X13_common {K : Option Value → AH → Prop} {dm : Nat × Nat} {G : Nat → Nat → Value} {A : AH} {a b : Nat} (ha : a < 2 ^ 63) (hb : b < 2 ^ 63) (h : K (some (.long (lN (Nat.gcd a b)))) A) : Ct yX13_common mX13_common 0 dm G [.long (lN a), .long (lN b)] A K := by
  refine Ct.of [some (.long (lN a)), none, some (.long (lN b)), none, none, none, none, none, none, none] rfl rfl rfl (Nat.le_of_ble_eq_true rfl) ?_
  have lp6 : ∀ (nf : Nat) (x y : Nat) (z z2 : Option Value), x < 2 ^ 63 → y < 2 ^ 63 → Nat.gcd x y = Nat.gcd a b → y < nf → WP mX13_common 0 dm G 6 [some (.long (lN a)), none, some (.long (lN b)), none, some (.long (lN x)), none, some (.long (lN y)), none, z, z2] [] A K := by
    intro nf
    induction nf with
    | zero => intros; omega
    | succ nf ih =>
      intro x y z z2 hx hy hg hms
      refine w_lload 8 dX13_common_6 rfl rfl ?_
      refine w_lconst 9 dX13_common_8 rfl (v := lN 0) rfl ?_
      refine w_lcmp 10 dX13_common_9 rfl ?_
      refine w_ifeqL 31 13 dX13_common_10 rfl rfl hy (by decide) (fun c10 => ?_) (fun c10 => ?_)
      · skip
        refine w_lload 33 dX13_common_31 rfl rfl ?_
        refine wr_l dX13_common_33 rfl ?_
        subst c10
        exact kl h (by rw [← hg, Nat.gcd_zero_right])
      · skip
        refine w_lload 15 dX13_common_13 rfl rfl ?_
        refine w_lload 17 dX13_common_15 rfl rfl ?_
        refine w_lremN 18 dX13_common_17 rfl hx (by omega) hy ?_
        refine w_lst8 20 dX13_common_18 rfl (by decide) rfl ?_
        refine w_lload 22 dX13_common_20 rfl rfl ?_
        refine w_lst4 24 dX13_common_22 rfl (by decide) rfl ?_
        refine w_lload 26 dX13_common_24 rfl rfl ?_
        refine w_lst6 28 dX13_common_26 rfl (by decide) rfl ?_
        refine w_goto 6 dX13_common_28 rfl ?_
        have hm := Nat.mod_lt x (show 0 < y by omega)
        refine wp_to ?_ rfl rfl (ih y (x % y) none none hy (by omega) (by rw [← hg, Nat.gcd_comm y, ← Nat.gcd_rec, Nat.gcd_comm]) (by omega))
        simp [lle]
  refine w_lload_n 1 dX13_common_0 rfl rfl ?_
  refine w_lst4 3 dX13_common_1 rfl (by decide) rfl ?_
  refine w_lload_n 4 dX13_common_3 rfl rfl ?_
  refine w_lst6 6 dX13_common_4 rfl (by decide) rfl ?_
  exact lp6 _ a b none none ha hb rfl (Nat.lt_succ_self _)

set_option maxRecDepth 4000 in
theorem c_X13_fraction {K : Option Value → AH → Prop} {A : AH} {r : Value} {a b : Nat} {lo : Bool} (ha : a < 2 ^ 63) (hb : b < 2 ^ 63) (h : ∀ A', QM A A' → A'.1 100 1 = nI 0 → A'.1 100 2 = -1 → K (some (.long (sh lo a b))) A') : Ct yX13_fraction mX13_fraction 1 dM (GG (.ref 111) r) [.ref 100, .long (lN a), .long (lN b), .int (b2i lo)] A K := by
  refine Ct.of [some (.ref 100), some (.long (lN a)), none, some (.long (lN b)), none, some (.int (b2i lo))] rfl rfl rfl (Nat.le_of_ble_eq_true rfl) ?_
  refine w_aload_n 1 dX13_fraction_0 rfl rfl ?_
  refine w_iconst 2 dX13_fraction_1 rfl (v := nI 0) rfl ?_
  refine w_inv1 5 dX13_fraction_2 rfl mlX13_56 rfl rfl (d' := 0) (by decide) (Nat.le_of_ble_eq_true rfl) (c_X13_good (fun A9 hQ9 ht9 hw9 => ?_))
  refine w_pop 6 dX13_fraction_5 rfl ?_
  refine w_lload_n 7 dX13_fraction_6 rfl rfl ?_
  refine w_lconst 8 dX13_fraction_7 rfl (v := lN 0) rfl ?_
  refine w_lcmp 9 dX13_fraction_8 rfl ?_
  refine w_ifneL 23 12 dX13_fraction_9 rfl rfl hb (by decide) (fun c9 => ?_) (fun c9 => ?_)
  · skip
    have hg : 0 < Nat.gcd a b := Nat.gcd_pos_of_pos_right a (by omega)
    have hgl : Nat.gcd a b ≤ b := Nat.gcd_le_right a (by omega)
    refine w_iload 25 dX13_fraction_23 rfl rfl ?_
    refine w_ifeqB 32 28 dX13_fraction_25 rfl rfl (fun c25 => ?_) (fun c25 => ?_)
    · skip
      refine w_lload_n 33 dX13_fraction_32 rfl rfl ?_
      refine w_lload_n 34 dX13_fraction_33 rfl rfl ?_
      refine w_lload_n 35 dX13_fraction_34 rfl rfl ?_
      refine w_invs2 38 dX13_fraction_35 rfl slX13_59 (d' := 0) (by decide) (Nat.le_of_ble_eq_true rfl) (c_X13_common ha hb ?_)
      refine w_ldivN 39 dX13_fraction_38 rfl (by omega) hg (by omega) ?_
      refine wr_l dX13_fraction_39 rfl ?_
      exact kl (h A9 hQ9 ht9 hw9) (by rw [sh, c25, upr, if_neg c9]; rfl)
    · skip
      refine w_lload_n 29 dX13_fraction_28 rfl rfl ?_
      refine w_goto 33 dX13_fraction_29 rfl ?_
      refine w_lload_n 34 dX13_fraction_33 rfl rfl ?_
      refine w_lload_n 35 dX13_fraction_34 rfl rfl ?_
      refine w_invs2 38 dX13_fraction_35 rfl slX13_59 (d' := 0) (by decide) (Nat.le_of_ble_eq_true rfl) (c_X13_common ha hb ?_)
      refine w_ldivN 39 dX13_fraction_38 rfl (by omega) hg (by omega) ?_
      refine wr_l dX13_fraction_39 rfl ?_
      exact kl (h A9 hQ9 ht9 hw9) (by rw [sh, c25, lwr, if_neg c9]; rfl)
  · skip
    refine w_iload 14 dX13_fraction_12 rfl rfl ?_
    refine w_ifeqB 21 17 dX13_fraction_14 rfl rfl (fun c14 => ?_) (fun c14 => ?_)
    · skip
      refine w_lconst 22 dX13_fraction_21 rfl (v := lN 0) rfl ?_
      refine wr_l dX13_fraction_22 rfl ?_
      exact kl (h A9 hQ9 ht9 hw9) (by rw [sh, c14, upr, if_pos c9]; rfl)
    · skip
      refine w_lconst 18 dX13_fraction_17 rfl (v := lN 1) rfl ?_
      refine w_goto 22 dX13_fraction_18 rfl ?_
      refine wr_l dX13_fraction_22 rfl ?_
      exact kl (h A9 hQ9 ht9 hw9) (by rw [sh, c14, lwr, if_pos c9]; rfl)

