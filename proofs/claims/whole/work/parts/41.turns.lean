/-! ===== by turns; clerks ===== -/
def wnW (w : WT) (s : Nat → Nat) (a b l : Nat) : Bool := wn (zB (w.1 1) (e1W w s) (e2W w s) (esW w s 0) a b) l
def rSnaps (w : WT) (s : Nat → Nat) (a b : Int32) : Int32 := if t1 (ok2 w a b) = 0 then b2i (wnW w s (cl a) (cl b) (HM w s 0)) else -1
def rSnapsBy (w : WT) (s : Nat → Nat) (a b : Int32) : Int32 := if t1 (ok2 w a b) = 0 then (if BV w s 0 (HM w s 0) (cl a) (cl b) = 0 then -2 else enc2 (fst1 (fun t => (HM w s 0).testBit t && !wnW w s (cl a) (cl b) (HM w s 0 ^^^ 2 ^ t)) 8)) else -1
def gnI (x : Int32) (p q : Bool) : Int32 := if p then (if q then 1 - x else 2) else if q then -1 else 1
def rsB (x : Int32) (p q : Bool) : Bool := decide (gnI x (!p) q ≤ gnI x p q) && decide (gnI x (!q) p ≤ gnI x q p)
def tB (hi : Nat) (x : Int32) : Nat := if 0 ≤ x ∧ x ≤ nI hi then 0 else 2
theorem tB_le (hi : Nat) (x : Int32) : tB hi x ≤ 2 := by unfold tB; split <;> omega
theorem tB_of {hi : Nat} {x : Int32} (hh : hi < 2 ^ 31) (h : tB hi x = 0) : ∃ n : Nat, x = nI n ∧ n ≤ hi := by
  unfold tB at h
  split at h
  · rename_i q
    obtain ⟨n, hn, rfl⟩ := nI_of (Int32.not_lt.mpr q.1)
    exact ⟨n, rfl, (nI_leI hn hh).mp q.2⟩
  · omega
def tX (b : Bool) (x : Nat) : Nat := if b then x else 1
theorem tX_first (b : Bool) (x : Nat) : (if t1 b = 0 then x else t1 b) = tX b x := by cases b <;> simp [t1, tX]
theorem tX_le {b : Bool} {x : Nat} (h : x ≤ 2) : tX b x ≤ 2 := by unfold tX; split <;> omega
theorem tX_0 {b : Bool} {x : Nat} (h : tX b x = 0) : b = true ∧ x = 0 := by cases b; simp [tX] at h; simp [tX] at h; exact ⟨rfl, h⟩
theorem c_X11_withinN {K : Option Value → AH → Prop} {dm : Nat × Nat} {G : Nat → Nat → Value} {A : AH} {v : Int32} {hi : Nat} (h : K (some (.int (nI (tB hi v)))) A) : Ct yX11_within mX11_within 0 dm G [.int v, .int (nI 0), .int (nI hi)] A K := c_X11_within (kq h (by unfold tB; simp only [← nI_0]; split <;> rfl))
def rBlows (w : WT) (x : Int32) (p q o : Bool) : Int32 := if tX (okW1 w) (tB 9 x) = 0 then (if o then gnI x q p else gnI x p q) else -100
def prB (x : Int32) (k : Nat) : Bool := rsB x (decide (2 ≤ k)) (decide (k % 2 = 1))
def rRests (w : WT) (x : Int32) : Int32 := if tX (okW1 w) (tB 9 x) = 0 then nI (cntTo (prB x) 4) else -1
def rRest (w : WT) (x : Int32) : Int32 := if tX (okW1 w) (tB 9 x) = 0 then enc2 ((fst1 (prB x) 4).map (fun k => k / 2 * 10 + k % 2)) else -1
set_option maxRecDepth 4000 in
theorem c_X11_snaps {K : Option Value → AH → Prop} {A : AH} {w : WT} {s : Nat → Nat} (hC : CI w s A) {a b : Int32} (h : ∀ A', Qk A A' → A'.1 0 8 = nI (t1 (ok2 w a b)) → K (some (.int (rSnaps w s a b))) A') : Ct yX11_snaps mX11_snaps 5 dC gC [.ref 0, .int a, .int b] A K := by
  refine Ct.of [some (.ref 0), some (.int a), some (.int b)] rfl rfl rfl (Nat.le_of_ble_eq_true rfl) ?_
  refine w_aload_n 1 dX11_snaps_0 rfl rfl ?_
  refine w_aload_n 2 dX11_snaps_1 rfl rfl ?_
  refine w_iload_n 3 dX11_snaps_2 rfl rfl ?_
  refine w_iload_n 4 dX11_snaps_3 rfl rfl ?_
  refine w_inv2 7 dX11_snaps_4 rfl mlX11_167 rfl rfl (d' := 4) (by decide) (Nat.le_of_ble_eq_true rfl) (c_X11_needTwoNails hC ?_)
  refine w_inv1 10 dX11_snaps_7 rfl mlX11_87 rfl rfl (d' := 0) (by decide) (Nat.le_of_ble_eq_true rfl) (c_X11_refused (Nat.lt_of_le_of_lt (t1_le _) (by decide)) ?_)
  refine w_ifeqB 15 13 dX11_snaps_10 rfl rfl (fun c10 => ?_) (fun c10 => ?_)
  · skip
    have hz : t1 (ok2 w a b) = 0 := Decidable.not_not.mp (of_decide_eq_false c10)
    have hC1 := hC.off (hC.ref (nI (t1 (ok2 w a b))))
    have k1 := t1_0 hz
    have hw7 := hC.2.1.2.2.1.1
    obtain ⟨a, b, rfl, rfl, ha, hb, hab⟩ := ok2_of k1 hw7
    have h32 := h32of hw7 ha hb hab
    refine w_aload_n 16 dX11_snaps_15 rfl rfl ?_
    refine w_iconst 17 dX11_snaps_16 rfl (v := nI 0) rfl ?_
    refine w_inv1 20 dX11_snaps_17 rfl mlX11_145 rfl rfl (d' := 4) (by decide) (Nat.le_of_ble_eq_true rfl) (c_X11_goBehind hC1 (by decide) (fun A2 hR hQ => ?_))
    refine w_aload_n 21 dX11_snaps_20 rfl rfl ?_
    refine w_getr 24 dX11_snaps_21 rfl faX11_40 rfl rfl rfl (r := .ref 48) rfl ?_
    refine w_iload_n 25 dX11_snaps_24 rfl rfl ?_
    refine w_iload_n 26 dX11_snaps_25 rfl rfl ?_
    refine w_inv2 29 dX11_snaps_26 rfl mlX11_277 rfl rfl (d' := 3) (by decide) (Nat.le_of_ble_eq_true rfl) (c_X0_playTurns hR (by omega) (by omega) hab (fun A3 hq hR3 hW hO3 => ?_))
    have hH := HM_lt w s 0
    have hQ3 := hQ.tr (Qi.sub hQ.2 hO3 (by decide) (by decide) (by decide))
    have hss : subM (HM w s 0) (HM w s 0) = true := (subM_iff hH).mpr (fun _ q => q)
    refine w_aload_n 30 dX11_snaps_29 rfl rfl ?_
    refine w_getr 33 dX11_snaps_30 rfl faX11_40 rfl rfl rfl (r := .ref 48) rfl ?_
    refine w_aload_n 34 dX11_snaps_33 rfl rfl ?_
    refine w_getr 37 dX11_snaps_34 rfl faX11_40 rfl rfl rfl (r := .ref 48) rfl ?_
    refine w_inv0 40 dX11_snaps_37 rfl mlX11_161 rfl rfl (d' := 0) (by decide) (Nat.le_of_ble_eq_true rfl) (c_X0_heldH (show BRw w s 0 _ from hR3) ?_)
    refine w_inv1 43 dX11_snaps_40 rfl mlX11_280 rfl rfl (d' := 0) (by decide) (Nat.le_of_ble_eq_true rfl) (c_X0_wins (l := HM w s 0) hH (hW _ hH hss) ?_)
    refine w_ifeqB 50 46 dX11_snaps_43 rfl rfl (fun c43 => ?_) (fun c43 => ?_)
    · skip
      refine w_iconst 51 dX11_snaps_50 rfl (v := nI 0) rfl ?_
      refine wr_i dX11_snaps_51 rfl ?_
      exact kq (h A3 (hC.fin hQ3).1 (hC.fin hQ3).2) (by unfold rSnaps; rw [if_pos hz, cl_nI (show a < 2 ^ 31 by omega), cl_nI (show b < 2 ^ 31 by omega)]; rw [show wnW w s a b (HM w s 0) = false from c43]; rfl)
    · skip
      refine w_iconst 47 dX11_snaps_46 rfl (v := nI 1) rfl ?_
      refine w_goto 51 dX11_snaps_47 rfl ?_
      refine wr_i dX11_snaps_51 rfl ?_
      exact kq (h A3 (hC.fin hQ3).1 (hC.fin hQ3).2) (by unfold rSnaps; rw [if_pos hz, cl_nI (show a < 2 ^ 31 by omega), cl_nI (show b < 2 ^ 31 by omega)]; rw [show wnW w s a b (HM w s 0) = true from c43]; rfl)
  · skip
    refine w_iconst 14 dX11_snaps_13 rfl (v := (-1)) rfl ?_
    refine wr_i dX11_snaps_14 rfl ?_
    exact kq (h _ (hC.ref _) (by dsimp only; rw [upd2_at])) (by unfold rSnaps; rw [if_neg (of_decide_eq_true c10)])

set_option maxRecDepth 4000 in
theorem c_X11_snapsBy {K : Option Value → AH → Prop} {A : AH} {w : WT} {s : Nat → Nat} (hC : CI w s A) {a b : Int32} (h : ∀ A', Qk A A' → A'.1 0 8 = nI (t1 (ok2 w a b)) → K (some (.int (rSnapsBy w s a b))) A') : Ct yX11_snapsBy mX11_snapsBy 5 dC gC [.ref 0, .int a, .int b] A K := by
  refine Ct.of [some (.ref 0), some (.int a), some (.int b), none] rfl rfl rfl (Nat.le_of_ble_eq_true rfl) ?_
  refine w_aload_n 1 dX11_snapsBy_0 rfl rfl ?_
  refine w_aload_n 2 dX11_snapsBy_1 rfl rfl ?_
  refine w_iload_n 3 dX11_snapsBy_2 rfl rfl ?_
  refine w_iload_n 4 dX11_snapsBy_3 rfl rfl ?_
  refine w_inv2 7 dX11_snapsBy_4 rfl mlX11_167 rfl rfl (d' := 4) (by decide) (Nat.le_of_ble_eq_true rfl) (c_X11_needTwoNails hC ?_)
  refine w_inv1 10 dX11_snapsBy_7 rfl mlX11_87 rfl rfl (d' := 0) (by decide) (Nat.le_of_ble_eq_true rfl) (c_X11_refused (Nat.lt_of_le_of_lt (t1_le _) (by decide)) ?_)
  refine w_ifeqB 15 13 dX11_snapsBy_10 rfl rfl (fun c10 => ?_) (fun c10 => ?_)
  · skip
    have hz : t1 (ok2 w a b) = 0 := Decidable.not_not.mp (of_decide_eq_false c10)
    have hC1 := hC.off (hC.ref (nI (t1 (ok2 w a b))))
    have k1 := t1_0 hz
    have hw7 := hC.2.1.2.2.1.1
    obtain ⟨a, b, rfl, rfl, ha, hb, hab⟩ := ok2_of k1 hw7
    have h32 := h32of hw7 ha hb hab
    refine w_aload_n 16 dX11_snapsBy_15 rfl rfl ?_
    refine w_iconst 17 dX11_snapsBy_16 rfl (v := nI 0) rfl ?_
    refine w_inv1 20 dX11_snapsBy_17 rfl mlX11_145 rfl rfl (d' := 4) (by decide) (Nat.le_of_ble_eq_true rfl) (c_X11_goBehind hC1 (by decide) (fun A2 hR hQ => ?_))
    refine w_aload_n 21 dX11_snapsBy_20 rfl rfl ?_
    refine w_getr 24 dX11_snapsBy_21 rfl faX11_40 rfl rfl rfl (r := .ref 48) rfl ?_
    refine w_iload_n 25 dX11_snapsBy_24 rfl rfl ?_
    refine w_iload_n 26 dX11_snapsBy_25 rfl rfl ?_
    refine w_inv2 29 dX11_snapsBy_26 rfl mlX11_277 rfl rfl (d' := 3) (by decide) (Nat.le_of_ble_eq_true rfl) (c_X0_playTurns hR (by omega) (by omega) hab (fun A3 hq hR3 hW hO3 => ?_))
    have hH := HM_lt w s 0
    have hQ3 := hQ.tr (Qi.sub hQ.2 hO3 (by decide) (by decide) (by decide))
    have hss : subM (HM w s 0) (HM w s 0) = true := (subM_iff hH).mpr (fun _ q => q)
    have hbl := BV_le hC.2.2.2.1 hC.2.1.2.2.1 0 (HM w s 0) a b
    refine w_aload_n 30 dX11_snapsBy_29 rfl rfl ?_
    refine w_getr 33 dX11_snapsBy_30 rfl faX11_40 rfl rfl rfl (r := .ref 48) rfl ?_
    refine w_inv0 36 dX11_snapsBy_33 rfl mlX11_161 rfl rfl (d' := 0) (by decide) (Nat.le_of_ble_eq_true rfl) (c_X0_heldH (show BRw w s 0 _ from hR3) ?_)
    refine w_ist3 37 dX11_snapsBy_36 rfl (by decide) rfl ?_
    refine w_aload_n 38 dX11_snapsBy_37 rfl rfl ?_
    refine w_getr 41 dX11_snapsBy_38 rfl faX11_40 rfl rfl rfl (r := .ref 48) rfl ?_
    refine w_iload_n 42 dX11_snapsBy_41 rfl rfl ?_
    refine w_inv1 45 dX11_snapsBy_42 rfl mlX11_184 rfl rfl (d' := 1) (by decide) (Nat.le_of_ble_eq_true rfl) (c_X0_borneBy hq hR3.2.2.2.2 hR3.2.2.2.1 h32 ?_)
    refine w_ifneN 53 48 dX11_snapsBy_45 rfl rfl (show BV w s 0 (HM w s 0) a b < 2 ^ 31 by omega) (fun c45 => ?_) (fun c45 => ?_)
    · skip
      refine w_aload_n 54 dX11_snapsBy_53 rfl rfl ?_
      refine w_getr 57 dX11_snapsBy_54 rfl faX11_40 rfl rfl rfl (r := .ref 48) rfl ?_
      refine w_iload_n 58 dX11_snapsBy_57 rfl rfl ?_
      refine w_inv1 61 dX11_snapsBy_58 rfl mlX11_283 rfl rfl (d' := 1) (by decide) (Nat.le_of_ble_eq_true rfl) (c_X0_winningSnap (l := HM w s 0) (v := fun t => wnW w s a b (HM w s 0 ^^^ 2 ^ t)) hH (fun t ht hb => hW _ (xor256 hH ht) (subM_x hH ht hss hb)) ?_)
      refine wr_i dX11_snapsBy_61 rfl ?_
      exact kq (h A3 (hC.fin hQ3).1 (hC.fin hQ3).2) (by unfold rSnapsBy; rw [if_pos hz, cl_nI (show a < 2 ^ 31 by omega), cl_nI (show b < 2 ^ 31 by omega), if_neg (show ¬ BV w s 0 (HM w s 0) a b = 0 from c45)])
    · skip
      refine w_bipush 50 dX11_snapsBy_48 rfl (v := (-2)) rfl ?_
      refine w_goto 61 dX11_snapsBy_50 rfl ?_
      refine wr_i dX11_snapsBy_61 rfl ?_
      exact kq (h A3 (hC.fin hQ3).1 (hC.fin hQ3).2) (by unfold rSnapsBy; rw [if_pos hz, cl_nI (show a < 2 ^ 31 by omega), cl_nI (show b < 2 ^ 31 by omega), if_pos (show BV w s 0 (HM w s 0) a b = 0 from c45)])
  · skip
    refine w_iconst 14 dX11_snapsBy_13 rfl (v := (-1)) rfl ?_
    refine wr_i dX11_snapsBy_14 rfl ?_
    exact kq (h _ (hC.ref _) (by dsimp only; rw [upd2_at])) (by unfold rSnapsBy; rw [if_neg (of_decide_eq_true c10)])

set_option maxRecDepth 4000 in
theorem c_X11_gain {K : Option Value → AH → Prop} {dm : Nat × Nat} {G : Nat → Nat → Value} {A : AH} {x : Int32} {p q : Bool} (h : K (some (.int (gnI x p q))) A) : Ct yX11_gain mX11_gain 0 dm G [.int x, .int (b2i p), .int (b2i q)] A K := by
  refine Ct.of [some (.int x), some (.int (b2i p)), some (.int (b2i q))] rfl rfl rfl (Nat.le_of_ble_eq_true rfl) ?_
  refine w_iload_n 1 dX11_gain_0 rfl rfl ?_
  refine w_ifeqB 16 4 dX11_gain_1 rfl rfl (fun c1 => ?_) (fun c1 => ?_)
  · skip
    refine w_iload_n 17 dX11_gain_16 rfl rfl ?_
    refine w_ifeqB 24 20 dX11_gain_17 rfl rfl (fun c17 => ?_) (fun c17 => ?_)
    · skip
      refine w_iconst 25 dX11_gain_24 rfl (v := nI 1) rfl ?_
      refine wr_i dX11_gain_25 rfl ?_
      exact kq h (by simp [gnI, c1, c17]; try rfl)
    · skip
      refine w_iconst 21 dX11_gain_20 rfl (v := (-1)) rfl ?_
      refine w_goto 25 dX11_gain_21 rfl ?_
      refine wr_i dX11_gain_25 rfl ?_
      exact kq h (by simp [gnI, c1, c17]; try rfl)
  · skip
    refine w_iload_n 5 dX11_gain_4 rfl rfl ?_
    refine w_ifeqB 14 8 dX11_gain_5 rfl rfl (fun c5 => ?_) (fun c5 => ?_)
    · skip
      refine w_iconst 15 dX11_gain_14 rfl (v := nI 2) rfl ?_
      refine wr_i dX11_gain_15 rfl ?_
      exact kq h (by simp [gnI, c1, c5]; try rfl)
    · skip
      refine w_iconst 9 dX11_gain_8 rfl (v := nI 1) rfl ?_
      refine w_iload_n 10 dX11_gain_9 rfl rfl ?_
      refine w_isub 11 dX11_gain_10 rfl ?_
      refine w_goto 15 dX11_gain_11 rfl ?_
      refine wr_i dX11_gain_15 rfl ?_
      exact kq h (by simp [gnI, c1, c5]; try rfl)

set_option maxRecDepth 4000 in
theorem c_X11_isRest {K : Option Value → AH → Prop} {dm : Nat × Nat} {G : Nat → Nat → Value} {A : AH} {x : Int32} {p q : Bool} (h : K (some (.int (b2i (rsB x p q)))) A) : Ct yX11_isRest mX11_isRest 1 dm G [.int x, .int (b2i p), .int (b2i q)] A K := by
  refine Ct.of [some (.int x), some (.int (b2i p)), some (.int (b2i q))] rfl rfl rfl (Nat.le_of_ble_eq_true rfl) ?_
  refine w_iload_n 1 dX11_isRest_0 rfl rfl ?_
  refine w_iload_n 2 dX11_isRest_1 rfl rfl ?_
  refine w_iload_n 3 dX11_isRest_2 rfl rfl ?_
  refine w_invs3 6 dX11_isRest_3 rfl slX11_286 (d' := 0) (by decide) (Nat.le_of_ble_eq_true rfl) (c_X11_gain (p := p) (q := q) ?_)
  refine w_iload_n 7 dX11_isRest_6 rfl rfl ?_
  refine w_iload_n 8 dX11_isRest_7 rfl rfl ?_
  refine w_ifneB 15 11 dX11_isRest_8 rfl rfl (fun c8 => ?_) (fun c8 => ?_)
  · skip
    subst c8
    refine w_iconst 16 dX11_isRest_15 rfl (v := nI 0) rfl ?_
    refine w_iload_n 17 dX11_isRest_16 rfl rfl ?_
    refine w_invs3 20 dX11_isRest_17 rfl slX11_286 (d' := 0) (by decide) (Nat.le_of_ble_eq_true rfl) (c_X11_gain (p := false) (q := q) ?_)
    refine w_iclt 50 23 dX11_isRest_20 rfl rfl (fun c20 => ?_) (fun c20 => ?_)
    · skip
      refine w_iconst 51 dX11_isRest_50 rfl (v := nI 0) rfl ?_
      refine wr_z dX11_isRest_51 rfl (by first | rfl | exact nb_b2i _) ?_
      exact kq h (by simp [rsB, Int32.not_le.mpr c20]; rfl)
    · skip
      refine w_iload_n 24 dX11_isRest_23 rfl rfl ?_
      refine w_iload_n 25 dX11_isRest_24 rfl rfl ?_
      refine w_iload_n 26 dX11_isRest_25 rfl rfl ?_
      refine w_invs3 29 dX11_isRest_26 rfl slX11_286 (d' := 0) (by decide) (Nat.le_of_ble_eq_true rfl) (c_X11_gain (p := q) (q := true) ?_)
      refine w_iload_n 30 dX11_isRest_29 rfl rfl ?_
      refine w_iload_n 31 dX11_isRest_30 rfl rfl ?_
      refine w_ifneB 38 34 dX11_isRest_31 rfl rfl (fun c31 => ?_) (fun c31 => ?_)
      · skip
        subst c31
        refine w_iconst 39 dX11_isRest_38 rfl (v := nI 0) rfl ?_
        refine w_iload_n 40 dX11_isRest_39 rfl rfl ?_
        refine w_invs3 43 dX11_isRest_40 rfl slX11_286 (d' := 0) (by decide) (Nat.le_of_ble_eq_true rfl) (c_X11_gain (p := false) (q := true) ?_)
        refine w_iclt 50 46 dX11_isRest_43 rfl rfl (fun c43 => ?_) (fun c43 => ?_)
        · skip
          refine w_iconst 51 dX11_isRest_50 rfl (v := nI 0) rfl ?_
          refine wr_z dX11_isRest_51 rfl (by first | rfl | exact nb_b2i _) ?_
          exact kq h (by simp [rsB, Int32.not_le.mpr c43]; rfl)
        · skip
          refine w_iconst 47 dX11_isRest_46 rfl (v := nI 1) rfl ?_
          refine w_goto 51 dX11_isRest_47 rfl ?_
          refine wr_z dX11_isRest_51 rfl (by first | rfl | exact nb_b2i _) ?_
          exact kq h (by simp [rsB, Int32.not_lt.mp c43, Int32.not_lt.mp c20]; rfl)
      · skip
        subst c31
        refine w_iconst 35 dX11_isRest_34 rfl (v := nI 1) rfl ?_
        refine w_goto 39 dX11_isRest_35 rfl ?_
        refine w_iload_n 40 dX11_isRest_39 rfl rfl ?_
        refine w_invs3 43 dX11_isRest_40 rfl slX11_286 (d' := 0) (by decide) (Nat.le_of_ble_eq_true rfl) (c_X11_gain (p := true) (q := true) ?_)
        refine w_iclt 50 46 dX11_isRest_43 rfl rfl (fun c43 => ?_) (fun c43 => ?_)
        · skip
          refine w_iconst 51 dX11_isRest_50 rfl (v := nI 0) rfl ?_
          refine wr_z dX11_isRest_51 rfl (by first | rfl | exact nb_b2i _) ?_
          exact kq h (by simp [rsB, Int32.not_le.mpr c43]; rfl)
        · skip
          refine w_iconst 47 dX11_isRest_46 rfl (v := nI 1) rfl ?_
          refine w_goto 51 dX11_isRest_47 rfl ?_
          refine wr_z dX11_isRest_51 rfl (by first | rfl | exact nb_b2i _) ?_
          exact kq h (by simp [rsB, Int32.not_lt.mp c43, Int32.not_lt.mp c20]; rfl)
  · skip
    subst c8
    refine w_iconst 12 dX11_isRest_11 rfl (v := nI 1) rfl ?_
    refine w_goto 16 dX11_isRest_12 rfl ?_
    refine w_iload_n 17 dX11_isRest_16 rfl rfl ?_
    refine w_invs3 20 dX11_isRest_17 rfl slX11_286 (d' := 0) (by decide) (Nat.le_of_ble_eq_true rfl) (c_X11_gain (p := true) (q := q) ?_)
    refine w_iclt 50 23 dX11_isRest_20 rfl rfl (fun c20 => ?_) (fun c20 => ?_)
    · skip
      refine w_iconst 51 dX11_isRest_50 rfl (v := nI 0) rfl ?_
      refine wr_z dX11_isRest_51 rfl (by first | rfl | exact nb_b2i _) ?_
      exact kq h (by simp [rsB, Int32.not_le.mpr c20]; rfl)
    · skip
      refine w_iload_n 24 dX11_isRest_23 rfl rfl ?_
      refine w_iload_n 25 dX11_isRest_24 rfl rfl ?_
      refine w_iload_n 26 dX11_isRest_25 rfl rfl ?_
      refine w_invs3 29 dX11_isRest_26 rfl slX11_286 (d' := 0) (by decide) (Nat.le_of_ble_eq_true rfl) (c_X11_gain (p := q) (q := false) ?_)
      refine w_iload_n 30 dX11_isRest_29 rfl rfl ?_
      refine w_iload_n 31 dX11_isRest_30 rfl rfl ?_
      refine w_ifneB 38 34 dX11_isRest_31 rfl rfl (fun c31 => ?_) (fun c31 => ?_)
      · skip
        subst c31
        refine w_iconst 39 dX11_isRest_38 rfl (v := nI 0) rfl ?_
        refine w_iload_n 40 dX11_isRest_39 rfl rfl ?_
        refine w_invs3 43 dX11_isRest_40 rfl slX11_286 (d' := 0) (by decide) (Nat.le_of_ble_eq_true rfl) (c_X11_gain (p := false) (q := false) ?_)
        refine w_iclt 50 46 dX11_isRest_43 rfl rfl (fun c43 => ?_) (fun c43 => ?_)
        · skip
          refine w_iconst 51 dX11_isRest_50 rfl (v := nI 0) rfl ?_
          refine wr_z dX11_isRest_51 rfl (by first | rfl | exact nb_b2i _) ?_
          exact kq h (by simp [rsB, Int32.not_le.mpr c43]; rfl)
        · skip
          refine w_iconst 47 dX11_isRest_46 rfl (v := nI 1) rfl ?_
          refine w_goto 51 dX11_isRest_47 rfl ?_
          refine wr_z dX11_isRest_51 rfl (by first | rfl | exact nb_b2i _) ?_
          exact kq h (by simp [rsB, Int32.not_lt.mp c43, Int32.not_lt.mp c20]; rfl)
      · skip
        subst c31
        refine w_iconst 35 dX11_isRest_34 rfl (v := nI 1) rfl ?_
        refine w_goto 39 dX11_isRest_35 rfl ?_
        refine w_iload_n 40 dX11_isRest_39 rfl rfl ?_
        refine w_invs3 43 dX11_isRest_40 rfl slX11_286 (d' := 0) (by decide) (Nat.le_of_ble_eq_true rfl) (c_X11_gain (p := true) (q := false) ?_)
        refine w_iclt 50 46 dX11_isRest_43 rfl rfl (fun c43 => ?_) (fun c43 => ?_)
        · skip
          refine w_iconst 51 dX11_isRest_50 rfl (v := nI 0) rfl ?_
          refine wr_z dX11_isRest_51 rfl (by first | rfl | exact nb_b2i _) ?_
          exact kq h (by simp [rsB, Int32.not_le.mpr c43]; rfl)
        · skip
          refine w_iconst 47 dX11_isRest_46 rfl (v := nI 1) rfl ?_
          refine w_goto 51 dX11_isRest_47 rfl ?_
          refine wr_z dX11_isRest_51 rfl (by first | rfl | exact nb_b2i _) ?_
          exact kq h (by simp [rsB, Int32.not_lt.mp c43, Int32.not_lt.mp c20]; rfl)

set_option maxRecDepth 4000 in
theorem c_X11_blows {K : Option Value → AH → Prop} {A : AH} {w : WT} {s : Nat → Nat} (hC : CI w s A) {x : Int32} {p q o : Bool} (h : ∀ A', Qk A A' → A'.1 0 8 = nI (tX (okW1 w) (tB 9 x)) → K (some (.int (rBlows w x p q o))) A') : Ct yX11_blows mX11_blows 3 dC gC [.ref 0, .int x, .int (b2i p), .int (b2i q), .int (b2i o)] A K := by
  refine Ct.of [some (.ref 0), some (.int x), some (.int (b2i p)), some (.int (b2i q)), some (.int (b2i o))] rfl rfl rfl (Nat.le_of_ble_eq_true rfl) ?_
  refine w_aload_n 1 dX11_blows_0 rfl rfl ?_
  refine w_aload_n 2 dX11_blows_1 rfl rfl ?_
  refine w_inv0 5 dX11_blows_2 rfl mlX11_157 rfl rfl (d' := 2) (by decide) (Nat.le_of_ble_eq_true rfl) (c_X11_needWeb hC ?_)
  refine w_iload_n 6 dX11_blows_5 rfl rfl ?_
  refine w_iconst 7 dX11_blows_6 rfl (v := nI 0) rfl ?_
  refine w_bipush 9 dX11_blows_7 rfl (v := nI 9) rfl ?_
  refine w_invs3 12 dX11_blows_9 rfl slX11_83 (d' := 0) (by decide) (Nat.le_of_ble_eq_true rfl) (c_X11_withinN ?_)
  refine w_invs2 15 dX11_blows_12 rfl slX11_126 (d' := 0) (by decide) (Nat.le_of_ble_eq_true rfl) (c_X11_firstOfN (Nat.lt_of_le_of_lt (t1_le _) (by decide)) ?_)
  rw [tX_first]
  refine w_inv1 18 dX11_blows_15 rfl mlX11_87 rfl rfl (d' := 0) (by decide) (Nat.le_of_ble_eq_true rfl) (c_X11_refused (Nat.lt_of_le_of_lt (tX_le (tB_le _ _)) (by decide)) ?_)
  refine w_ifeqB 24 21 dX11_blows_18 rfl rfl (fun c18 => ?_) (fun c18 => ?_)
  · skip
    have hz : tX (okW1 w) (tB 9 x) = 0 := Decidable.not_not.mp (of_decide_eq_false c18)
    have hC1 := hC.off (hC.ref (nI (tX (okW1 w) (tB 9 x))))
    skip
    refine w_iload 26 dX11_blows_24 rfl rfl ?_
    refine w_ifeqB 38 29 dX11_blows_26 rfl rfl (fun c26 => ?_) (fun c26 => ?_)
    · skip
      refine w_iload_n 39 dX11_blows_38 rfl rfl ?_
      refine w_iload_n 40 dX11_blows_39 rfl rfl ?_
      refine w_iload_n 41 dX11_blows_40 rfl rfl ?_
      refine w_invs3 44 dX11_blows_41 rfl slX11_286 (d' := 0) (by decide) (Nat.le_of_ble_eq_true rfl) (c_X11_gain (p := p) (q := q) ?_)
      refine wr_i dX11_blows_44 rfl ?_
      exact kq (h _ (hC.ref _) (by dsimp only; rw [upd2_at])) (by unfold rBlows; rw [if_pos hz, c26]; rfl)
    · skip
      refine w_iload_n 30 dX11_blows_29 rfl rfl ?_
      refine w_iload_n 31 dX11_blows_30 rfl rfl ?_
      refine w_iload_n 32 dX11_blows_31 rfl rfl ?_
      refine w_invs3 35 dX11_blows_32 rfl slX11_286 (d' := 0) (by decide) (Nat.le_of_ble_eq_true rfl) (c_X11_gain (p := q) (q := p) ?_)
      refine w_goto 44 dX11_blows_35 rfl ?_
      refine wr_i dX11_blows_44 rfl ?_
      exact kq (h _ (hC.ref _) (by dsimp only; rw [upd2_at])) (by unfold rBlows; rw [if_pos hz, c26]; rfl)
  · skip
    refine w_bipush 23 dX11_blows_21 rfl (v := (-100)) rfl ?_
    refine wr_i dX11_blows_23 rfl ?_
    exact kq (h _ (hC.ref _) (by dsimp only; rw [upd2_at])) (by unfold rBlows; rw [if_neg (of_decide_eq_true c18)])
