/-! ===== the reference: questions ===== -/
def crW (w : WT) (s : Nat → Nat) (n sd but : Nat) : Nat := crs (e1W w s) (e2W w s) (esW w s n) sd but (s 1)
def LB (w : WT) (s : Nat → Nat) (n but a b : Nat) : Nat := leastF (fun sd => crW w s n sd but) (sideP a b) (2 ^ w.1 1)
def HN (w : WT) (s : Nat → Nat) (n : Nat) : Nat := maskTo (fun e => decide (0 < esW w s n e)) (s 1)
def TGw (w : WT) (s : Nat → Nat) (n a but : Nat) : Nat := tgV (e1W w s) (e2W w s) (esW w s n) (s 1) a but
def PTw (w : WT) (s : Nat → Nat) (n but : Nat) : Nat := (ptS (fun a => TGw w s n a but) (w.1 1)).1
def qBears (w : WT) (s : Nat → Nat) (a b n : Int32) : Int32 := if tY (ok2 w a b) n = 0 then nI (LB w s (cl n) 0 (cl a) (cl b)) else -1
def qHolding (w : WT) (s : Nat → Nat) (n : Int32) : Int32 := if tY (okW1 w) n = 0 then nI (HN w s (cl n)) else -1
def qParts (w : WT) (s : Nat → Nat) (n : Int32) : Int32 := if tY (okW1 w) n = 0 then nI (PTw w s (cl n) 0) else -1
def hvN (f : Nat → Nat) : Nat → Option Nat × Nat := hvF f 0
def qStrongest (w : WT) (s : Nat → Nat) (n : Int32) : Int32 := if tY (okW1 w) n = 0 then enc2 (hvF (esW w s (cl n)) 0 (s 1)).1 else -1
def neB (w : WT) (s : Nat → Nat) (n a b e : Nat) : Bool := decide (LB w s n (2 ^ e) a b < LB w s n 0 a b)
def qNeeded (w : WT) (s : Nat → Nat) (a b n : Int32) : Int32 := if tY (ok2 w a b) n = 0 then nI (maskTo (neB w s (cl n) (cl a) (cl b)) (s 1)) else -1
def brB (w : WT) (s : Nat → Nat) (n e : Nat) : Bool := decide (PTw w s n 0 < PTw w s n (2 ^ e))
def qBridges (w : WT) (s : Nat → Nat) (n : Int32) : Int32 := if tY (okW1 w) n = 0 then nI (maskTo (brB w s (cl n)) (s 1)) else -1
def vtF (w : WT) (s : Nat → Nat) (n a b e : Nat) : Nat := if esW w s n e = 0 then 99999 else LB w s n (2 ^ e) a b
def vtS (f : Nat → Nat) : Nat → Option Nat × Nat
  | 0 => (none, 99999)
  | n + 1 => if f n < (vtS f n).2 then (some n, f n) else vtS f n
theorem vtS_le (f : Nat → Nat) : ∀ n, (vtS f n).2 ≤ 99999
  | 0 => Nat.le_refl _
  | n + 1 => by
    have ih := vtS_le f n
    simp only [vtS]
    split
    · dsimp only; omega
    · exact ih
def qVital (w : WT) (s : Nat → Nat) (a b n : Int32) : Int32 := if tY (ok2 w a b) n = 0 then enc2 (vtS (vtF w s (cl n) (cl a) (cl b)) (s 1)).1 else -1
theorem okW1_t {w : WT} {s : Nat → Nat} {A : AH} (h : MC w s A) : okW1 w = true := decide_eq_true h.2.2.2.2.1
theorem pow8 {e : Nat} (h : e < 13) : 2 ^ e < 2 ^ 31 := Nat.pow_lt_pow_right (by decide) (by omega)
theorem LB_le (w : WT) (s : Nat → Nat) (n but a b : Nat) : LB w s n but a b ≤ 99999 := leastF_le _ _ _
theorem RY.q {ne : Nat} {f1 f2 fs : Nat → Nat} {A : AH} (h : RY ne f1 f2 fs A) {k : Nat} (hk : k ≠ 25) (x : Int32) : RY ne f1 f2 fs (upd2 A.1 100 k x, A.2) := h.cong (by dsimp only; rw [upd2_off (Ne.symm hk)]) (by dsimp only; rw [upd2_ne (by decide)]) (by dsimp only; rw [upd2_ne (by decide)]) (by dsimp only; rw [upd2_ne (by decide)])
set_option maxRecDepth 4000 in
theorem c_X13_bears {K : Option Value → AH → Prop} {A : AH} {r : Value} {w : WT} {s : Nat → Nat} (hC : MC w s A) {a b n : Int32} (h : ∀ A', QM A A' → A'.1 100 1 = nI (tY (ok2 w a b) n) → A'.1 100 2 = -1 → K (some (.int (qBears w s a b n))) A') : Ct yX13_bears mX13_bears 4 dM (GG (.ref 111) r) [.ref 100, .int a, .int b, .int n] A K := by
  refine Ct.of [some (.ref 100), some (.int a), some (.int b), some (.int n), none] rfl rfl rfl (Nat.le_of_ble_eq_true rfl) ?_
  refine w_aload_n 1 dX13_bears_0 rfl rfl ?_
  refine w_iconst 2 dX13_bears_1 rfl (v := nI 0) rfl ?_
  refine w_puti 5 dX13_bears_2 rfl faX13_46 rfl rfl rfl rfl ?_
  have hQ1 : QM A (upd2 A.1 100 0 (nI 0), A.2) := QM.rf.f (by decide) _
  have hC1 := hC.q hQ1
  refine w_aload_n 6 dX13_bears_5 rfl rfl ?_
  refine w_aload_n 7 dX13_bears_6 rfl rfl ?_
  refine w_iload_n 8 dX13_bears_7 rfl rfl ?_
  refine w_iload_n 9 dX13_bears_8 rfl rfl ?_
  refine w_inv2 12 dX13_bears_9 rfl mlX13_408 rfl rfl (d' := 1) (by decide) (Nat.le_of_ble_eq_true rfl) (c_X13_areTwo hC1 ?_)
  refine w_iload_n 13 dX13_bears_12 rfl rfl ?_
  refine w_inv2 16 dX13_bears_13 rfl mlX13_401 rfl rfl (d' := 1) (by decide) (Nat.le_of_ble_eq_true rfl) (c_X13_refusesYears (b := ok2 w a b) ?_)
  refine w_ist4 18 dX13_bears_16 rfl (by decide) rfl ?_
  refine w_iload 20 dX13_bears_18 rfl rfl ?_
  refine w_ifleN 30 23 dX13_bears_20 rfl rfl (by have := tY_le (ok2 w a b) n; omega) (fun c20 => ?_) (fun c20 => ?_)
  · skip
    have hz : tY (ok2 w a b) n = 0 := c20
    obtain ⟨k1, k2⟩ := tY_0 hz
    have hr := hC.rooms
    obtain ⟨a, b, rfl, rfl, ha, hb, hab⟩ := ok2_of k1 hr.2.1
    obtain ⟨n, rfl, hn⟩ := tI_of k2
    refine w_aload_n 31 dX13_bears_30 rfl rfl ?_
    refine w_iload_n 32 dX13_bears_31 rfl rfl ?_
    refine w_inv1 35 dX13_bears_32 rfl mlX13_398 rfl rfl (d' := 3) (by decide) (Nat.le_of_ble_eq_true rfl) (c_X13_lays hC1 hn (fun A3 hY hX hQ3 => ?_))
    have hC3 := hC1.q hQ3
    have hN := hC3.1.2.1 1 (by decide) (by decide)
    have h8 := hC.2.2.2.1.2.1
    refine w_aload_n 36 dX13_bears_35 rfl rfl ?_
    refine w_aload_n 37 dX13_bears_36 rfl rfl ?_
    refine w_iload_n 38 dX13_bears_37 rfl rfl ?_
    refine w_iload_n 39 dX13_bears_38 rfl rfl ?_
    refine w_iconst 40 dX13_bears_39 rfl (v := nI 0) rfl ?_
    refine w_inv3 43 dX13_bears_40 rfl mlX13_411 rfl rfl (d' := 3) (by decide) (Nat.le_of_ble_eq_true rfl) (c_X13_borneBetween hY hN hr.2.1 (by omega) (by omega) (by decide) ?_)
    refine w_inv1 46 dX13_bears_43 rfl mlX13_56 rfl rfl (d' := 0) (by decide) (Nat.le_of_ble_eq_true rfl) (c_X13_good (fun A9 hQ9 ht9 hw9 => ?_))
    refine wr_i dX13_bears_46 rfl ?_
    exact kq (h A9 ((hQ1.tr hQ3).tr hQ9) (by rw [hz]; exact ht9) hw9) (by unfold qBears; rw [if_pos hz, cl_nI (show a < 2 ^ 31 by omega), cl_nI (show b < 2 ^ 31 by omega), cl_nI (show n < 2 ^ 31 by omega)]; rfl)
  · skip
    refine w_aload_n 24 dX13_bears_23 rfl rfl ?_
    refine w_iload 26 dX13_bears_24 rfl rfl ?_
    refine w_inv1 29 dX13_bears_26 rfl mlX13_52 rfl rfl (d' := 0) (by decide) (Nat.le_of_ble_eq_true rfl) (c_X13_refused (fun A2 hQ2 ht2 hw2 => ?_))
    refine wr_i dX13_bears_29 rfl ?_
    exact kq (h A2 (hQ1.tr hQ2) ht2 hw2) (by unfold qBears; rw [if_neg (Nat.ne_of_gt c20)])

set_option maxRecDepth 4000 in
theorem c_X13_holding {K : Option Value → AH → Prop} {A : AH} {r : Value} {w : WT} {s : Nat → Nat} (hC : MC w s A) {n : Int32} (h : ∀ A', QM A A' → A'.1 100 1 = nI (tY (okW1 w) n) → A'.1 100 2 = -1 → K (some (.int (qHolding w s n))) A') : Ct yX13_holding mX13_holding 4 dM (GG (.ref 111) r) [.ref 100, .int n] A K := by
  refine Ct.of [some (.ref 100), some (.int n), none] rfl rfl rfl (Nat.le_of_ble_eq_true rfl) ?_
  refine w_aload_n 1 dX13_holding_0 rfl rfl ?_
  refine w_iconst 2 dX13_holding_1 rfl (v := nI 0) rfl ?_
  refine w_puti 5 dX13_holding_2 rfl faX13_46 rfl rfl rfl rfl ?_
  have hQ1 : QM A (upd2 A.1 100 0 (nI 0), A.2) := QM.rf.f (by decide) _
  have hC1 := hC.q hQ1
  refine w_aload_n 6 dX13_holding_5 rfl rfl ?_
  refine w_aload_n 7 dX13_holding_6 rfl rfl ?_
  refine w_getr 10 dX13_holding_7 rfl faX13_343 rfl rfl rfl (r := .ref 111) rfl ?_
  refine w_nR 13 dX13_holding_10 rfl ?_
  refine w_iconst 14 dX13_holding_13 rfl (v := nI 1) rfl ?_
  refine w_goto 18 dX13_holding_14 rfl ?_
  refine w_iload_n 19 dX13_holding_18 rfl rfl ?_
  rw [show nI 1 = b2i (okW1 w) from by rw [okW1_t hC]; rfl]
  refine w_inv2 22 dX13_holding_19 rfl mlX13_401 rfl rfl (d' := 1) (by decide) (Nat.le_of_ble_eq_true rfl) (c_X13_refusesYears (b := okW1 w) ?_)
  refine w_ist2 23 dX13_holding_22 rfl (by decide) rfl ?_
  refine w_iload_n 24 dX13_holding_23 rfl rfl ?_
  refine w_ifleN 33 27 dX13_holding_24 rfl rfl (by have := tY_le (okW1 w) n; omega) (fun c24 => ?_) (fun c24 => ?_)
  · skip
    have hz : tY (okW1 w) n = 0 := c24
    obtain ⟨k1, k2⟩ := tY_0 hz
    have hr := hC.rooms
    obtain ⟨n, rfl, hn⟩ := tI_of k2
    refine w_aload_n 34 dX13_holding_33 rfl rfl ?_
    refine w_iload_n 35 dX13_holding_34 rfl rfl ?_
    refine w_inv1 38 dX13_holding_35 rfl mlX13_398 rfl rfl (d' := 3) (by decide) (Nat.le_of_ble_eq_true rfl) (c_X13_lays hC1 hn (fun A3 hY hX hQ3 => ?_))
    have hC3 := hC1.q hQ3
    have hN := hC3.1.2.1 1 (by decide) (by decide)
    have h8 := hC.2.2.2.1.2.1
    refine w_aload_n 39 dX13_holding_38 rfl rfl ?_
    refine w_aload_n 40 dX13_holding_39 rfl rfl ?_
    refine w_inv0 43 dX13_holding_40 rfl mlX13_405 rfl rfl (d' := 0) (by decide) (Nat.le_of_ble_eq_true rfl) (c_X13_held hY ?_)
    refine w_inv1 46 dX13_holding_43 rfl mlX13_56 rfl rfl (d' := 0) (by decide) (Nat.le_of_ble_eq_true rfl) (c_X13_good (fun A9 hQ9 ht9 hw9 => ?_))
    refine wr_i dX13_holding_46 rfl ?_
    exact kq (h A9 ((hQ1.tr hQ3).tr hQ9) (by rw [hz]; exact ht9) hw9) (by unfold qHolding; rw [if_pos hz, cl_nI (show n < 2 ^ 31 by omega)]; rfl)
  · skip
    refine w_aload_n 28 dX13_holding_27 rfl rfl ?_
    refine w_iload_n 29 dX13_holding_28 rfl rfl ?_
    refine w_inv1 32 dX13_holding_29 rfl mlX13_52 rfl rfl (d' := 0) (by decide) (Nat.le_of_ble_eq_true rfl) (c_X13_refused (fun A2 hQ2 ht2 hw2 => ?_))
    refine wr_i dX13_holding_32 rfl ?_
    exact kq (h A2 (hQ1.tr hQ2) ht2 hw2) (by unfold qHolding; rw [if_neg (Nat.ne_of_gt c24)])

set_option maxRecDepth 4000 in
theorem c_X13_parts {K : Option Value → AH → Prop} {A : AH} {r : Value} {w : WT} {s : Nat → Nat} (hC : MC w s A) {n : Int32} (h : ∀ A', QM A A' → A'.1 100 1 = nI (tY (okW1 w) n) → A'.1 100 2 = -1 → K (some (.int (qParts w s n))) A') : Ct yX13_parts mX13_parts 4 dM (GG (.ref 111) r) [.ref 100, .int n] A K := by
  refine Ct.of [some (.ref 100), some (.int n), none] rfl rfl rfl (Nat.le_of_ble_eq_true rfl) ?_
  refine w_aload_n 1 dX13_parts_0 rfl rfl ?_
  refine w_iconst 2 dX13_parts_1 rfl (v := nI 0) rfl ?_
  refine w_puti 5 dX13_parts_2 rfl faX13_46 rfl rfl rfl rfl ?_
  have hQ1 : QM A (upd2 A.1 100 0 (nI 0), A.2) := QM.rf.f (by decide) _
  have hC1 := hC.q hQ1
  refine w_aload_n 6 dX13_parts_5 rfl rfl ?_
  refine w_aload_n 7 dX13_parts_6 rfl rfl ?_
  refine w_getr 10 dX13_parts_7 rfl faX13_343 rfl rfl rfl (r := .ref 111) rfl ?_
  refine w_nR 13 dX13_parts_10 rfl ?_
  refine w_iconst 14 dX13_parts_13 rfl (v := nI 1) rfl ?_
  refine w_goto 18 dX13_parts_14 rfl ?_
  refine w_iload_n 19 dX13_parts_18 rfl rfl ?_
  rw [show nI 1 = b2i (okW1 w) from by rw [okW1_t hC]; rfl]
  refine w_inv2 22 dX13_parts_19 rfl mlX13_401 rfl rfl (d' := 1) (by decide) (Nat.le_of_ble_eq_true rfl) (c_X13_refusesYears (b := okW1 w) ?_)
  refine w_ist2 23 dX13_parts_22 rfl (by decide) rfl ?_
  refine w_iload_n 24 dX13_parts_23 rfl rfl ?_
  refine w_ifleN 33 27 dX13_parts_24 rfl rfl (by have := tY_le (okW1 w) n; omega) (fun c24 => ?_) (fun c24 => ?_)
  · skip
    have hz : tY (okW1 w) n = 0 := c24
    obtain ⟨k1, k2⟩ := tY_0 hz
    have hr := hC.rooms
    obtain ⟨n, rfl, hn⟩ := tI_of k2
    refine w_aload_n 34 dX13_parts_33 rfl rfl ?_
    refine w_iload_n 35 dX13_parts_34 rfl rfl ?_
    refine w_inv1 38 dX13_parts_35 rfl mlX13_398 rfl rfl (d' := 3) (by decide) (Nat.le_of_ble_eq_true rfl) (c_X13_lays hC1 hn (fun A3 hY hX hQ3 => ?_))
    have hC3 := hC1.q hQ3
    have hN := hC3.1.2.1 1 (by decide) (by decide)
    have h8 := hC.2.2.2.1.2.1
    refine w_aload_n 39 dX13_parts_38 rfl rfl ?_
    refine w_aload_n 40 dX13_parts_39 rfl rfl ?_
    refine w_iconst 41 dX13_parts_40 rfl (v := nI 0) rfl ?_
    refine w_inv1 44 dX13_parts_41 rfl mlX13_418 rfl rfl (d' := 3) (by decide) (Nat.le_of_ble_eq_true rfl) (c_X13_partsBut hY hN hr.2.1 (by decide) ?_)
    refine w_inv1 47 dX13_parts_44 rfl mlX13_56 rfl rfl (d' := 0) (by decide) (Nat.le_of_ble_eq_true rfl) (c_X13_good (fun A9 hQ9 ht9 hw9 => ?_))
    refine wr_i dX13_parts_47 rfl ?_
    exact kq (h A9 ((hQ1.tr hQ3).tr hQ9) (by rw [hz]; exact ht9) hw9) (by unfold qParts; rw [if_pos hz, cl_nI (show n < 2 ^ 31 by omega)]; rfl)
  · skip
    refine w_aload_n 28 dX13_parts_27 rfl rfl ?_
    refine w_iload_n 29 dX13_parts_28 rfl rfl ?_
    refine w_inv1 32 dX13_parts_29 rfl mlX13_52 rfl rfl (d' := 0) (by decide) (Nat.le_of_ble_eq_true rfl) (c_X13_refused (fun A2 hQ2 ht2 hw2 => ?_))
    refine wr_i dX13_parts_32 rfl ?_
    exact kq (h A2 (hQ1.tr hQ2) ht2 hw2) (by unfold qParts; rw [if_neg (Nat.ne_of_gt c24)])

set_option maxRecDepth 4000 in
theorem c_X13_strong {K : Option Value → AH → Prop} {A : AH} {r : Value} {w : WT} {s : Nat → Nat} (hC : MC w s A) {t n : Int32} (h : ∀ A', QM A A' → A'.1 100 1 = nI (tY (okR (s 1) t) n) → A'.1 100 2 = -1 → K (some (.int (rStrong w s t n))) A') : Ct yX13_strong mX13_strong 2 dM (GG (.ref 111) r) [.ref 100, .int t, .int n] A K := by
  refine Ct.of [some (.ref 100), some (.int t), some (.int n), none] rfl rfl rfl (Nat.le_of_ble_eq_true rfl) ?_
  refine w_aload_n 1 dX13_strong_0 rfl rfl ?_
  refine w_iconst 2 dX13_strong_1 rfl (v := nI 0) rfl ?_
  refine w_puti 5 dX13_strong_2 rfl faX13_46 rfl rfl rfl rfl ?_
  have hQ1 : QM A (upd2 A.1 100 0 (nI 0), A.2) := QM.rf.f (by decide) _
  have hC1 := hC.q hQ1
  refine w_aload_n 6 dX13_strong_5 rfl rfl ?_
  refine w_aload_n 7 dX13_strong_6 rfl rfl ?_
  refine w_iload_n 8 dX13_strong_7 rfl rfl ?_
  refine w_inv1 11 dX13_strong_8 rfl mlX13_392 rfl rfl (d' := 0) (by decide) (Nat.le_of_ble_eq_true rfl) (c_X13_isThread hC1 ?_)
  refine w_iload_n 12 dX13_strong_11 rfl rfl ?_
  refine w_inv2 15 dX13_strong_12 rfl mlX13_401 rfl rfl (d' := 1) (by decide) (Nat.le_of_ble_eq_true rfl) (c_X13_refusesYears (b := okR (s 1) t) ?_)
  refine w_ist3 16 dX13_strong_15 rfl (by decide) rfl ?_
  refine w_iload_n 17 dX13_strong_16 rfl rfl ?_
  refine w_ifleN 26 20 dX13_strong_17 rfl rfl (by have := tY_le (okR (s 1) t) n; omega) (fun c17 => ?_) (fun c17 => ?_)
  · skip
    have hz : tY (okR (s 1) t) n = 0 := c17
    obtain ⟨k1, k2⟩ := tY_0 hz
    have hs8 := hC.2.2.2.1.2.1
    have hr := hC.rooms
    obtain ⟨t, rfl, ht⟩ := okR_of k1 (by omega)
    obtain ⟨n, rfl, hn⟩ := tI_of k2
    refine w_aload_n 27 dX13_strong_26 rfl rfl ?_
    refine w_inv0 30 dX13_strong_27 rfl mlX13_376 rfl rfl (d' := 0) (by decide) (Nat.le_of_ble_eq_true rfl) (c_X13_worksR hC1 (fun A3 hX hQ3 => ?_))
    refine w_aload_n 31 dX13_strong_30 rfl rfl ?_
    refine w_aload_n 32 dX13_strong_31 rfl rfl ?_
    refine w_iload_n 33 dX13_strong_32 rfl rfl ?_
    refine w_iload_n 34 dX13_strong_33 rfl rfl ?_
    refine w_inv2 37 dX13_strong_34 rfl mlX13_369 rfl rfl (d' := 1) (by decide) (Nat.le_of_ble_eq_true rfl) (c_X13_strongOf (hC1.q hQ3).1 hX ⟨hr.2.2.1, hr.2.2.2.2.2.1⟩ ht hn ?_)
    refine w_inv1 40 dX13_strong_37 rfl mlX13_56 rfl rfl (d' := 0) (by decide) (Nat.le_of_ble_eq_true rfl) (c_X13_good (fun A9 hQ9 ht9 hw9 => ?_))
    refine wr_i dX13_strong_40 rfl ?_
    exact kq (h A9 ((hQ1.tr hQ3).tr hQ9) (by rw [hz]; exact ht9) hw9) (by unfold rStrong; rw [if_pos hz, cl_nI (show t < 2 ^ 31 by omega), cl_nI (show n < 2 ^ 31 by omega)])
  · skip
    refine w_aload_n 21 dX13_strong_20 rfl rfl ?_
    refine w_iload_n 22 dX13_strong_21 rfl rfl ?_
    refine w_inv1 25 dX13_strong_22 rfl mlX13_52 rfl rfl (d' := 0) (by decide) (Nat.le_of_ble_eq_true rfl) (c_X13_refused (fun A2 hQ2 ht2 hw2 => ?_))
    refine wr_i dX13_strong_25 rfl ?_
    exact kq (h A2 (hQ1.tr hQ2) ht2 hw2) (by unfold rStrong; rw [if_neg (Nat.ne_of_gt c17)])

set_option maxRecDepth 4000 in
theorem a_X13_breaksIn {K : Option Value → AH → Prop} {A : AH} {r : Value} {w : WT} {s : Nat → Nat} {t : Nat} (hM : RepM w A) (hX : XR w s A) (hr : w.1 2 ≤ 7 ∧ w.1 5 ≤ 5) (ht : t < s 1) (h : ∀ A', QM A A' → A'.1 100 1 = nI 0 → A'.1 100 2 = -1 → K (some (.int (enc2 (fst1 (fun n => decide (stg s t n = 0)) 61)))) A') : WP mX13_breaksIn 2 dM (GG (.ref 111) r) 23 [some (.ref 100), some (.int (nI t)), none] [] A K := by
  have lp25 : ∀ (nf : Nat) (i : Nat), i ≤ 61 → fst1 (fun n => decide (stg s t n = 0)) i = none → 61 - i < nf → WP mX13_breaksIn 2 dM (GG (.ref 111) r) 25 [some (.ref 100), some (.int (nI t)), some (.int (nI i))] [] A K := by
    intro nf
    induction nf with
    | zero => intros; omega
    | succ nf ih =>
      intro i hi hf hms
      refine w_iload_n 26 dX13_breaksIn_25 rfl rfl ?_
      refine w_bipush 28 dX13_breaksIn_26 rfl (v := nI 60) rfl ?_
      refine w_icgtN 52 31 dX13_breaksIn_28 rfl rfl (by omega) (by omega) (fun c28 => ?_) (fun c28 => ?_)
      · skip
        refine w_aload_n 53 dX13_breaksIn_52 rfl rfl ?_
        refine w_bipush 55 dX13_breaksIn_53 rfl (v := (-2)) rfl ?_
        refine w_inv1 58 dX13_breaksIn_55 rfl mlX13_56 rfl rfl (d' := 0) (by decide) (Nat.le_of_ble_eq_true rfl) (c_X13_good (fun A9 hQ9 ht9 hw9 => ?_))
        refine wr_i dX13_breaksIn_58 rfl ?_
        have e : i = 61 := by omega
        subst e
        exact kq (h A9 hQ9 ht9 hw9) (by rw [hf]; rfl)
      · skip
        refine w_aload_n 32 dX13_breaksIn_31 rfl rfl ?_
        refine w_iload_n 33 dX13_breaksIn_32 rfl rfl ?_
        refine w_iload_n 34 dX13_breaksIn_33 rfl rfl ?_
        refine w_inv2 37 dX13_breaksIn_34 rfl mlX13_369 rfl rfl (d' := 1) (by decide) (Nat.le_of_ble_eq_true rfl) (c_X13_strongOf hM hX hr ht (by omega) ?_)
        refine w_ifneN 46 40 dX13_breaksIn_37 rfl rfl (by have := stg_le hX.2 t i; omega) (fun c37 => ?_) (fun c37 => ?_)
        · skip
          refine w_inc2 49 dX13_breaksIn_46 rfl (by decide) rfl (v := nI (_ + 1)) (nI_1 _) ?_
          refine w_goto 25 dX13_breaksIn_49 rfl ?_
          exact ih (i + 1) (by omega) (by simp [fst1, hf, c37]) (by omega)
        · skip
          refine w_aload_n 41 dX13_breaksIn_40 rfl rfl ?_
          refine w_iload_n 42 dX13_breaksIn_41 rfl rfl ?_
          refine w_inv1 45 dX13_breaksIn_42 rfl mlX13_56 rfl rfl (d' := 0) (by decide) (Nat.le_of_ble_eq_true rfl) (c_X13_good (fun A9 hQ9 ht9 hw9 => ?_))
          refine wr_i dX13_breaksIn_45 rfl ?_
          exact kq (h A9 hQ9 ht9 hw9) (by rw [fst1_some hf (decide_eq_true c37) (by omega)]; rfl)
  refine w_iconst 24 dX13_breaksIn_23 rfl (v := nI 0) rfl ?_
  refine w_ist2 25 dX13_breaksIn_24 rfl (by decide) rfl ?_
  exact lp25 _ 0 (Nat.zero_le _) rfl (Nat.lt_succ_self _)

set_option maxRecDepth 4000 in
theorem c_X13_breaksIn {K : Option Value → AH → Prop} {A : AH} {r : Value} {w : WT} {s : Nat → Nat} (hC : MC w s A) {t : Int32} (h : ∀ A', QM A A' → A'.1 100 1 = nI (t1 (okR (s 1) t)) → A'.1 100 2 = -1 → K (some (.int (rBreaksIn w s t))) A') : Ct yX13_breaksIn mX13_breaksIn 2 dM (GG (.ref 111) r) [.ref 100, .int t] A K := by
  refine Ct.of [some (.ref 100), some (.int t), none] rfl rfl rfl (Nat.le_of_ble_eq_true rfl) ?_
  refine w_aload_n 1 dX13_breaksIn_0 rfl rfl ?_
  refine w_iconst 2 dX13_breaksIn_1 rfl (v := nI 0) rfl ?_
  refine w_puti 5 dX13_breaksIn_2 rfl faX13_46 rfl rfl rfl rfl ?_
  have hQ1 : QM A (upd2 A.1 100 0 (nI 0), A.2) := QM.rf.f (by decide) _
  have hC1 := hC.q hQ1
  refine w_aload_n 6 dX13_breaksIn_5 rfl rfl ?_
  refine w_iload_n 7 dX13_breaksIn_6 rfl rfl ?_
  refine w_inv1 10 dX13_breaksIn_7 rfl mlX13_392 rfl rfl (d' := 0) (by decide) (Nat.le_of_ble_eq_true rfl) (c_X13_isThread hC1 ?_)
  refine w_ifneB 19 13 dX13_breaksIn_10 rfl rfl (fun c10 => ?_) (fun c10 => ?_)
  · skip
    have hs8 := hC.2.2.2.1.2.1
    have hr := hC.rooms
    obtain ⟨t, rfl, ht⟩ := okR_of c10 (by omega)
    refine w_aload_n 20 dX13_breaksIn_19 rfl rfl ?_
    refine w_inv0 23 dX13_breaksIn_20 rfl mlX13_376 rfl rfl (d' := 0) (by decide) (Nat.le_of_ble_eq_true rfl) (c_X13_worksR hC1 (fun A3 hX hQ3 => ?_))
    exact a_X13_breaksIn (hC1.q hQ3).1 hX ⟨hr.2.2.1, hr.2.2.2.2.2.1⟩ ht (fun A9 hQ9 ht9 hw9 => kq (h A9 ((hQ1.tr hQ3).tr hQ9) (by rw [ht9, c10]; rfl) hw9) (by unfold rBreaksIn; rw [if_pos (by rw [c10]; rfl), cl_nI (show t < 2 ^ 31 by omega)]))
  · skip
    refine w_aload_n 14 dX13_breaksIn_13 rfl rfl ?_
    refine w_iconst 15 dX13_breaksIn_14 rfl (v := nI 1) rfl ?_
    refine w_inv1 18 dX13_breaksIn_15 rfl mlX13_52 rfl rfl (d' := 0) (by decide) (Nat.le_of_ble_eq_true rfl) (c_X13_refused (fun A2 hQ2 ht2 hw2 => ?_))
    refine wr_i dX13_breaksIn_18 rfl ?_
    exact kq (h A2 (hQ1.tr hQ2) (by rw [ht2, c10]; rfl) hw2) (by unfold rBreaksIn; rw [c10]; rfl)

theorem hvY {w : WT} {s : Nat → Nat} {n : Nat} {A : AH} (hY : RY (s 1) (e1W w s) (e2W w s) (esW w s n) A) : ∀ i, i ≤ s 1 → (hvF (esW w s n) 0 i).2 ≤ 99
  | 0, _ => Nat.zero_le _
  | i + 1, hi => by
    have ih := hvY hY i (by omega)
    simp only [hvF]
    split
    · exact (hY.2.2 i (by omega)).2.2.2.2.2
    · exact ih
set_option maxRecDepth 4000 in
theorem a_X13_strongest {K : Option Value → AH → Prop} {A : AH} {r : Value} {w : WT} {s : Nat → Nat} {n : Nat} {z : Int32} (hY : RY (s 1) (e1W w s) (e2W w s) (esW w s n) A) (h : ∀ A', QM A A' → A'.1 100 1 = nI 0 → A'.1 100 2 = -1 → K (some (.int (enc2 (hvF (esW w s n) 0 (s 1)).1))) A') : WP mX13_strongest 4 dM (GG (.ref 111) r) 38 [some (.ref 100), some (.int (nI n)), some (.int z), none, none, none] [] A K := by
  have lp47 : ∀ (nf : Nat) (i : Nat), i ≤ s 1 → s 1 - i < nf → WP mX13_strongest 4 dM (GG (.ref 111) r) 47 [some (.ref 100), some (.int (nI n)), some (.int z), some (.int (enc2 (hvF (esW w s n) 0 i).1)), some (.int (nI (hvF (esW w s n) 0 i).2)), some (.int (nI i))] [] A K := by
    intro nf
    induction nf with
    | zero => intros; omega
    | succ nf ih =>
      intro i hi hms
      have h13 := hY.2.1
      have hle : (hvF (esW w s n) 0 i).2 ≤ 99 := hvY hY i hi
      refine w_iload 49 dX13_strongest_47 rfl rfl ?_
      refine w_aload_n 50 dX13_strongest_49 rfl rfl ?_
      refine w_getiv 53 dX13_strongest_50 rfl faX13_360 rfl rfl rfl hY.1 ?_
      refine w_icgeN 89 56 dX13_strongest_53 rfl rfl (by omega) (by omega) (fun c53 => ?_) (fun c53 => ?_)
      · skip
        refine w_aload_n 90 dX13_strongest_89 rfl rfl ?_
        refine w_iload_n 91 dX13_strongest_90 rfl rfl ?_
        have e : i = s 1 := by omega
        subst e
        refine w_inv1 94 dX13_strongest_91 rfl mlX13_56 rfl rfl (d' := 0) (by decide) (Nat.le_of_ble_eq_true rfl) (c_X13_good (fun A9 hQ9 ht9 hw9 => ?_))
        refine wr_i dX13_strongest_94 rfl ?_
        exact h A9 hQ9 ht9 hw9
      · skip
        refine w_aload_n 57 dX13_strongest_56 rfl rfl ?_
        refine w_getr 60 dX13_strongest_57 rfl faX13_36 rfl rfl rfl (r := .ref 108) rfl ?_
        refine w_iload 62 dX13_strongest_60 rfl rfl ?_
        refine w_ialdv 63 dX13_strongest_62 rfl rfl rfl (by decide) (by omega) (hY.2.2 i (by omega)).2.2.1 ?_
        refine w_iload 65 dX13_strongest_63 rfl rfl ?_
        refine w_icgtN 71 68 dX13_strongest_65 rfl rfl (by have := (hY.2.2 i (by omega)).2.2.2.2.2; omega) (by omega) (fun c65 => ?_) (fun c65 => ?_)
        · skip
          refine w_aload_n 72 dX13_strongest_71 rfl rfl ?_
          refine w_getr 75 dX13_strongest_72 rfl faX13_36 rfl rfl rfl (r := .ref 108) rfl ?_
          refine w_iload 77 dX13_strongest_75 rfl rfl ?_
          refine w_ialdv 78 dX13_strongest_77 rfl rfl rfl (by decide) (by omega) (hY.2.2 i (by omega)).2.2.1 ?_
          refine w_ist4 80 dX13_strongest_78 rfl (by decide) rfl ?_
          refine w_iload 82 dX13_strongest_80 rfl rfl ?_
          refine w_ist3 83 dX13_strongest_82 rfl (by decide) rfl ?_
          refine w_inc5 86 dX13_strongest_83 rfl (by decide) rfl (v := nI (_ + 1)) (nI_1 _) ?_
          refine w_goto 47 dX13_strongest_86 rfl ?_
          refine wp_eq ?_ rfl rfl (ih (i + 1) (by omega) (by omega))
          simp [hvF, c65, enc2]
        · skip
          refine w_goto 83 dX13_strongest_68 rfl ?_
          refine w_inc5 86 dX13_strongest_83 rfl (by decide) rfl (v := nI (_ + 1)) (nI_1 _) ?_
          refine w_goto 47 dX13_strongest_86 rfl ?_
          refine wp_eq ?_ rfl rfl (ih (i + 1) (by omega) (by omega))
          simp [hvF, Nat.not_lt.mpr (show esW w s n i ≤ (hvF (esW w s n) 0 i).2 by omega)]
  refine w_bipush 40 dX13_strongest_38 rfl (v := (-2)) rfl ?_
  refine w_ist3 41 dX13_strongest_40 rfl (by decide) rfl ?_
  refine w_iconst 42 dX13_strongest_41 rfl (v := nI 0) rfl ?_
  refine w_ist4 44 dX13_strongest_42 rfl (by decide) rfl ?_
  refine w_iconst 45 dX13_strongest_44 rfl (v := nI 0) rfl ?_
  refine w_ist5 47 dX13_strongest_45 rfl (by decide) rfl ?_
  exact lp47 _ 0 (Nat.zero_le _) (Nat.lt_succ_self _)

set_option maxRecDepth 4000 in
theorem c_X13_strongest {K : Option Value → AH → Prop} {A : AH} {r : Value} {w : WT} {s : Nat → Nat} (hC : MC w s A) {n : Int32} (h : ∀ A', QM A A' → A'.1 100 1 = nI (tY (okW1 w) n) → A'.1 100 2 = -1 → K (some (.int (qStrongest w s n))) A') : Ct yX13_strongest mX13_strongest 4 dM (GG (.ref 111) r) [.ref 100, .int n] A K := by
  refine Ct.of [some (.ref 100), some (.int n), none, none, none, none] rfl rfl rfl (Nat.le_of_ble_eq_true rfl) ?_
  refine w_aload_n 1 dX13_strongest_0 rfl rfl ?_
  refine w_iconst 2 dX13_strongest_1 rfl (v := nI 0) rfl ?_
  refine w_puti 5 dX13_strongest_2 rfl faX13_46 rfl rfl rfl rfl ?_
  have hQ1 : QM A (upd2 A.1 100 0 (nI 0), A.2) := QM.rf.f (by decide) _
  have hC1 := hC.q hQ1
  refine w_aload_n 6 dX13_strongest_5 rfl rfl ?_
  refine w_aload_n 7 dX13_strongest_6 rfl rfl ?_
  refine w_getr 10 dX13_strongest_7 rfl faX13_343 rfl rfl rfl (r := .ref 111) rfl ?_
  refine w_nR 13 dX13_strongest_10 rfl ?_
  refine w_iconst 14 dX13_strongest_13 rfl (v := nI 1) rfl ?_
  refine w_goto 18 dX13_strongest_14 rfl ?_
  refine w_iload_n 19 dX13_strongest_18 rfl rfl ?_
  rw [show nI 1 = b2i (okW1 w) from by rw [okW1_t hC]; rfl]
  refine w_inv2 22 dX13_strongest_19 rfl mlX13_401 rfl rfl (d' := 1) (by decide) (Nat.le_of_ble_eq_true rfl) (c_X13_refusesYears (b := okW1 w) ?_)
  refine w_ist2 23 dX13_strongest_22 rfl (by decide) rfl ?_
  refine w_iload_n 24 dX13_strongest_23 rfl rfl ?_
  refine w_ifleN 33 27 dX13_strongest_24 rfl rfl (by have := tY_le (okW1 w) n; omega) (fun c24 => ?_) (fun c24 => ?_)
  · skip
    have hz : tY (okW1 w) n = 0 := c24
    obtain ⟨k1, k2⟩ := tY_0 hz
    have hr := hC.rooms
    obtain ⟨n, rfl, hn⟩ := tI_of k2
    refine w_aload_n 34 dX13_strongest_33 rfl rfl ?_
    refine w_iload_n 35 dX13_strongest_34 rfl rfl ?_
    refine w_inv1 38 dX13_strongest_35 rfl mlX13_398 rfl rfl (d' := 3) (by decide) (Nat.le_of_ble_eq_true rfl) (c_X13_lays hC1 hn (fun A3 hY hX hQ3 => ?_))
    have hC3 := hC1.q hQ3
    have hN := hC3.1.2.1 1 (by decide) (by decide)
    have h8 := hC.2.2.2.1.2.1
    exact a_X13_strongest hY (fun A9 hQ9 ht9 hw9 => kq (h A9 ((hQ1.tr hQ3).tr hQ9) (by rw [hz]; exact ht9) hw9) (by unfold qStrongest; rw [if_pos hz, cl_nI (show n < 2 ^ 31 by omega)]))
  · skip
    refine w_aload_n 28 dX13_strongest_27 rfl rfl ?_
    refine w_iload_n 29 dX13_strongest_28 rfl rfl ?_
    refine w_inv1 32 dX13_strongest_29 rfl mlX13_52 rfl rfl (d' := 0) (by decide) (Nat.le_of_ble_eq_true rfl) (c_X13_refused (fun A2 hQ2 ht2 hw2 => ?_))
    refine wr_i dX13_strongest_32 rfl ?_
    exact kq (h A2 (hQ1.tr hQ2) ht2 hw2) (by unfold qStrongest; rw [if_neg (Nat.ne_of_gt c24)])

set_option maxRecDepth 4000 in
theorem a_X13_needed {K : Option Value → AH → Prop} {A : AH} {r : Value} {w : WT} {s : Nat → Nat} {a b n : Nat} {z : Int32} (hY : RY (s 1) (e1W w s) (e2W w s) (esW w s n) A) (hN : A.1 111 2 = nI (w.1 1)) (h7 : w.1 1 ≤ 7) (h8 : s 1 ≤ 8) (ha : a < 7) (hb : b < 7) (h : ∀ A', QM A A' → A'.1 100 1 = nI 0 → A'.1 100 2 = -1 → K (some (.int (nI (maskTo (neB w s n a b) (s 1))))) A') : WP mX13_needed 4 dM (GG (.ref 111) r) 44 [some (.ref 100), some (.int (nI a)), some (.int (nI b)), some (.int (nI n)), some (.int z), some (.int (nI (LB w s n 0 a b))), none, none] [] A K := by
  have lp50 : ∀ (nf : Nat) (i : Nat), i ≤ s 1 → s 1 - i < nf → WP mX13_needed 4 dM (GG (.ref 111) r) 50 [some (.ref 100), some (.int (nI a)), some (.int (nI b)), some (.int (nI n)), some (.int z), some (.int (nI (LB w s n 0 a b))), some (.int (nI (maskTo (neB w s n a b) i))), some (.int (nI i))] [] A K := by
    intro nf
    induction nf with
    | zero => intros; omega
    | succ nf ih =>
      intro i hi hms
      have hl1 := LB_le w s n 0 a b
      have hl2 := LB_le w s n (2 ^ i) a b
      refine w_iload 52 dX13_needed_50 rfl rfl ?_
      refine w_aload_n 53 dX13_needed_52 rfl rfl ?_
      refine w_getiv 56 dX13_needed_53 rfl faX13_360 rfl rfl rfl hY.1 ?_
      refine w_icgeN 93 59 dX13_needed_56 rfl rfl (by omega) (by omega) (fun c56 => ?_) (fun c56 => ?_)
      · skip
        refine w_aload_n 94 dX13_needed_93 rfl rfl ?_
        refine w_iload 96 dX13_needed_94 rfl rfl ?_
        have e : i = s 1 := by omega
        subst e
        refine w_inv1 99 dX13_needed_96 rfl mlX13_56 rfl rfl (d' := 0) (by decide) (Nat.le_of_ble_eq_true rfl) (c_X13_good (fun A9 hQ9 ht9 hw9 => ?_))
        refine wr_i dX13_needed_99 rfl ?_
        exact h A9 hQ9 ht9 hw9
      · skip
        refine w_iload 61 dX13_needed_59 rfl rfl ?_
        refine w_aload_n 62 dX13_needed_61 rfl rfl ?_
        refine w_iload_n 63 dX13_needed_62 rfl rfl ?_
        refine w_iload_n 64 dX13_needed_63 rfl rfl ?_
        refine w_iconst 65 dX13_needed_64 rfl (v := nI 1) rfl ?_
        refine w_iload 67 dX13_needed_65 rfl rfl ?_
        refine w_shl1 68 dX13_needed_67 rfl (by omega) ?_
        refine w_inv3 71 dX13_needed_68 rfl mlX13_411 rfl rfl (d' := 3) (by decide) (Nat.le_of_ble_eq_true rfl) (c_X13_borneBetween hY hN h7 ha hb (pow8 (by omega)) ?_)
        refine w_iload 73 dX13_needed_71 rfl rfl ?_
        refine w_icgeN 83 76 dX13_needed_73 rfl rfl (show LB w s n (2 ^ i) a b < 2 ^ 31 by omega) (by omega) (fun c73 => ?_) (fun c73 => ?_)
        · skip
          refine w_iconst 84 dX13_needed_83 rfl (v := nI 0) rfl ?_
          refine w_ior 85 dX13_needed_84 rfl ?_
          refine w_top (mask_or0 _ _) ?_
          refine w_ist6 87 dX13_needed_85 rfl (by decide) rfl ?_
          refine w_inc7 90 dX13_needed_87 rfl (by decide) rfl (v := nI (_ + 1)) (nI_1 _) ?_
          refine w_goto 50 dX13_needed_90 rfl ?_
          have c73 : neB w s n a b i = false := decide_eq_false (Nat.not_lt.mpr c73)
          refine wp_eq ?_ rfl rfl (ih (i + 1) (by omega) (by omega))
          simp [maskTo, c73]
        · skip
          refine w_iconst 77 dX13_needed_76 rfl (v := nI 1) rfl ?_
          refine w_iload 79 dX13_needed_77 rfl rfl ?_
          refine w_shl1 80 dX13_needed_79 rfl (by omega) ?_
          refine w_goto 84 dX13_needed_80 rfl ?_
          refine w_ior 85 dX13_needed_84 rfl ?_
          refine w_top (mask_or _ _) ?_
          refine w_ist6 87 dX13_needed_85 rfl (by decide) rfl ?_
          refine w_inc7 90 dX13_needed_87 rfl (by decide) rfl (v := nI (_ + 1)) (nI_1 _) ?_
          refine w_goto 50 dX13_needed_90 rfl ?_
          have c73 : neB w s n a b i = true := decide_eq_true c73
          refine wp_eq ?_ rfl rfl (ih (i + 1) (by omega) (by omega))
          simp [maskTo, c73]
  refine w_iconst 45 dX13_needed_44 rfl (v := nI 0) rfl ?_
  refine w_ist6 47 dX13_needed_45 rfl (by decide) rfl ?_
  refine w_iconst 48 dX13_needed_47 rfl (v := nI 0) rfl ?_
  refine w_ist7 50 dX13_needed_48 rfl (by decide) rfl ?_
  exact lp50 _ 0 (Nat.zero_le _) (Nat.lt_succ_self _)

set_option maxRecDepth 4000 in
theorem c_X13_needed {K : Option Value → AH → Prop} {A : AH} {r : Value} {w : WT} {s : Nat → Nat} (hC : MC w s A) {a b n : Int32} (h : ∀ A', QM A A' → A'.1 100 1 = nI (tY (ok2 w a b) n) → A'.1 100 2 = -1 → K (some (.int (qNeeded w s a b n))) A') : Ct yX13_needed mX13_needed 4 dM (GG (.ref 111) r) [.ref 100, .int a, .int b, .int n] A K := by
  refine Ct.of [some (.ref 100), some (.int a), some (.int b), some (.int n), none, none, none, none] rfl rfl rfl (Nat.le_of_ble_eq_true rfl) ?_
  refine w_aload_n 1 dX13_needed_0 rfl rfl ?_
  refine w_iconst 2 dX13_needed_1 rfl (v := nI 0) rfl ?_
  refine w_puti 5 dX13_needed_2 rfl faX13_46 rfl rfl rfl rfl ?_
  have hQ1 : QM A (upd2 A.1 100 0 (nI 0), A.2) := QM.rf.f (by decide) _
  have hC1 := hC.q hQ1
  refine w_aload_n 6 dX13_needed_5 rfl rfl ?_
  refine w_aload_n 7 dX13_needed_6 rfl rfl ?_
  refine w_iload_n 8 dX13_needed_7 rfl rfl ?_
  refine w_iload_n 9 dX13_needed_8 rfl rfl ?_
  refine w_inv2 12 dX13_needed_9 rfl mlX13_408 rfl rfl (d' := 1) (by decide) (Nat.le_of_ble_eq_true rfl) (c_X13_areTwo hC1 ?_)
  refine w_iload_n 13 dX13_needed_12 rfl rfl ?_
  refine w_inv2 16 dX13_needed_13 rfl mlX13_401 rfl rfl (d' := 1) (by decide) (Nat.le_of_ble_eq_true rfl) (c_X13_refusesYears (b := ok2 w a b) ?_)
  refine w_ist4 18 dX13_needed_16 rfl (by decide) rfl ?_
  refine w_iload 20 dX13_needed_18 rfl rfl ?_
  refine w_ifleN 30 23 dX13_needed_20 rfl rfl (by have := tY_le (ok2 w a b) n; omega) (fun c20 => ?_) (fun c20 => ?_)
  · skip
    have hz : tY (ok2 w a b) n = 0 := c20
    obtain ⟨k1, k2⟩ := tY_0 hz
    have hr := hC.rooms
    obtain ⟨a, b, rfl, rfl, ha, hb, hab⟩ := ok2_of k1 hr.2.1
    obtain ⟨n, rfl, hn⟩ := tI_of k2
    refine w_aload_n 31 dX13_needed_30 rfl rfl ?_
    refine w_iload_n 32 dX13_needed_31 rfl rfl ?_
    refine w_inv1 35 dX13_needed_32 rfl mlX13_398 rfl rfl (d' := 3) (by decide) (Nat.le_of_ble_eq_true rfl) (c_X13_lays hC1 hn (fun A3 hY hX hQ3 => ?_))
    have hC3 := hC1.q hQ3
    have hN := hC3.1.2.1 1 (by decide) (by decide)
    have h8 := hC.2.2.2.1.2.1
    refine w_aload_n 36 dX13_needed_35 rfl rfl ?_
    refine w_iload_n 37 dX13_needed_36 rfl rfl ?_
    refine w_iload_n 38 dX13_needed_37 rfl rfl ?_
    refine w_iconst 39 dX13_needed_38 rfl (v := nI 0) rfl ?_
    refine w_inv3 42 dX13_needed_39 rfl mlX13_411 rfl rfl (d' := 3) (by decide) (Nat.le_of_ble_eq_true rfl) (c_X13_borneBetween hY hN hr.2.1 (by omega) (by omega) (by decide) ?_)
    refine w_ist5 44 dX13_needed_42 rfl (by decide) rfl ?_
    exact a_X13_needed hY hN hr.2.1 h8 (by omega) (by omega) (fun A9 hQ9 ht9 hw9 => kq (h A9 ((hQ1.tr hQ3).tr hQ9) (by rw [hz]; exact ht9) hw9) (by unfold qNeeded; rw [if_pos hz, cl_nI (show a < 2 ^ 31 by omega), cl_nI (show b < 2 ^ 31 by omega), cl_nI (show n < 2 ^ 31 by omega)]))
  · skip
    refine w_aload_n 24 dX13_needed_23 rfl rfl ?_
    refine w_iload 26 dX13_needed_24 rfl rfl ?_
    refine w_inv1 29 dX13_needed_26 rfl mlX13_52 rfl rfl (d' := 0) (by decide) (Nat.le_of_ble_eq_true rfl) (c_X13_refused (fun A2 hQ2 ht2 hw2 => ?_))
    refine wr_i dX13_needed_29 rfl ?_
    exact kq (h A2 (hQ1.tr hQ2) ht2 hw2) (by unfold qNeeded; rw [if_neg (Nat.ne_of_gt c20)])

set_option maxRecDepth 4000 in
theorem a_X13_vital {K : Option Value → AH → Prop} {A : AH} {r : Value} {w : WT} {s : Nat → Nat} {a b n : Nat} {z : Int32} (hY : RY (s 1) (e1W w s) (e2W w s) (esW w s n) A) (hN : A.1 111 2 = nI (w.1 1)) (h7 : w.1 1 ≤ 7) (h8 : s 1 ≤ 8) (ha : a < 7) (hb : b < 7) (h : ∀ A', QM A A' → A'.1 100 1 = nI 0 → A'.1 100 2 = -1 → K (some (.int (enc2 (vtS (vtF w s n a b) (s 1)).1))) A') : WP mX13_vital 4 dM (GG (.ref 111) r) 35 [some (.ref 100), some (.int (nI a)), some (.int (nI b)), some (.int (nI n)), some (.int z), none, none, none, none] [] A K := by
  have lp47 : ∀ (nf : Nat) (i : Nat) (y : Option Value), i ≤ s 1 → s 1 - i < nf → WP mX13_vital 4 dM (GG (.ref 111) r) 47 [some (.ref 100), some (.int (nI a)), some (.int (nI b)), some (.int (nI n)), some (.int z), some (.int (enc2 (vtS (vtF w s n a b) i).1)), some (.int (nI (vtS (vtF w s n a b) i).2)), some (.int (nI i)), y] [] A K := by
    intro nf
    induction nf with
    | zero => intros; omega
    | succ nf ih =>
      intro i y hi hms
      have hl1 := vtS_le (vtF w s n a b) i
      have hl2 := LB_le w s n (2 ^ i) a b
      refine w_iload 49 dX13_vital_47 rfl rfl ?_
      refine w_aload_n 50 dX13_vital_49 rfl rfl ?_
      refine w_getiv 53 dX13_vital_50 rfl faX13_360 rfl rfl rfl hY.1 ?_
      refine w_icgeN 108 56 dX13_vital_53 rfl rfl (by omega) (by omega) (fun c53 => ?_) (fun c53 => ?_)
      · skip
        refine w_aload_n 109 dX13_vital_108 rfl rfl ?_
        refine w_iload 111 dX13_vital_109 rfl rfl ?_
        have e : i = s 1 := by omega
        subst e
        refine w_inv1 114 dX13_vital_111 rfl mlX13_56 rfl rfl (d' := 0) (by decide) (Nat.le_of_ble_eq_true rfl) (c_X13_good (fun A9 hQ9 ht9 hw9 => ?_))
        refine wr_i dX13_vital_114 rfl ?_
        exact h A9 hQ9 ht9 hw9
      · skip
        refine w_aload_n 57 dX13_vital_56 rfl rfl ?_
        refine w_getr 60 dX13_vital_57 rfl faX13_36 rfl rfl rfl (r := .ref 108) rfl ?_
        refine w_iload 62 dX13_vital_60 rfl rfl ?_
        refine w_ialdv 63 dX13_vital_62 rfl rfl rfl (by decide) (by omega) (hY.2.2 i (by omega)).2.2.1 ?_
        refine w_ifneN 72 66 dX13_vital_63 rfl rfl (by have := (hY.2.2 i (by omega)).2.2.2.2.2; omega) (fun c63 => ?_) (fun c63 => ?_)
        · skip
          have hv : vtF w s n a b i = LB w s n (2 ^ i) a b := if_neg c63
          refine w_aload_n 73 dX13_vital_72 rfl rfl ?_
          refine w_iload_n 74 dX13_vital_73 rfl rfl ?_
          refine w_iload_n 75 dX13_vital_74 rfl rfl ?_
          refine w_iconst 76 dX13_vital_75 rfl (v := nI 1) rfl ?_
          refine w_iload 78 dX13_vital_76 rfl rfl ?_
          refine w_shl1 79 dX13_vital_78 rfl (by omega) ?_
          refine w_inv3 82 dX13_vital_79 rfl mlX13_411 rfl rfl (d' := 3) (by decide) (Nat.le_of_ble_eq_true rfl) (c_X13_borneBetween hY hN h7 ha hb (pow8 (by omega)) ?_)
          rw [show leastF (fun s_1 => crs (e1W w s) (e2W w s) (esW w s n) s_1 (2 ^ i) (s 1)) (sideP a b) (2 ^ w.1 1) = LB w s n (2 ^ i) a b from rfl]
          refine w_ist8 84 dX13_vital_82 rfl (by decide) rfl ?_
          refine w_iload 86 dX13_vital_84 rfl rfl ?_
          refine w_iload 88 dX13_vital_86 rfl rfl ?_
          refine w_icltN 94 91 dX13_vital_88 rfl rfl (by omega) (by omega) (fun c88 => ?_) (fun c88 => ?_)
          · skip
            refine w_iload 96 dX13_vital_94 rfl rfl ?_
            refine w_ist6 98 dX13_vital_96 rfl (by decide) rfl ?_
            refine w_iload 100 dX13_vital_98 rfl rfl ?_
            refine w_ist5 102 dX13_vital_100 rfl (by decide) rfl ?_
            refine w_inc7 105 dX13_vital_102 rfl (by decide) rfl (v := nI (_ + 1)) (nI_1 _) ?_
            refine w_goto 47 dX13_vital_105 rfl ?_
            refine wp_to ?_ rfl rfl (ih (i + 1) none (by omega) (by omega))
            simp [lle, vtS, hv, c88, enc2]
          · skip
            refine w_goto 102 dX13_vital_91 rfl ?_
            refine w_inc7 105 dX13_vital_102 rfl (by decide) rfl (v := nI (_ + 1)) (nI_1 _) ?_
            refine w_goto 47 dX13_vital_105 rfl ?_
            refine wp_to ?_ rfl rfl (ih (i + 1) none (by omega) (by omega))
            simp [lle, vtS, hv, show ¬ LB w s n (2 ^ i) a b < (vtS (vtF w s n a b) i).2 by omega]
        · skip
          have hv : vtF w s n a b i = 99999 := if_pos c63
          refine w_ldcw 69 dX13_vital_66 rfl kcX13_385 ?_
          refine w_top (show _ = nI 99999 from rfl) ?_
          refine w_goto 82 dX13_vital_69 rfl ?_
          refine w_ist8 84 dX13_vital_82 rfl (by decide) rfl ?_
          refine w_iload 86 dX13_vital_84 rfl rfl ?_
          refine w_iload 88 dX13_vital_86 rfl rfl ?_
          refine w_icltN 94 91 dX13_vital_88 rfl rfl (by omega) (by omega) (fun c88 => ?_) (fun c88 => ?_)
          · skip
            refine w_iload 96 dX13_vital_94 rfl rfl ?_
            refine w_ist6 98 dX13_vital_96 rfl (by decide) rfl ?_
            refine w_iload 100 dX13_vital_98 rfl rfl ?_
            refine w_ist5 102 dX13_vital_100 rfl (by decide) rfl ?_
            refine w_inc7 105 dX13_vital_102 rfl (by decide) rfl (v := nI (_ + 1)) (nI_1 _) ?_
            refine w_goto 47 dX13_vital_105 rfl ?_
            exact absurd c88 (by omega)
          · skip
            refine w_goto 102 dX13_vital_91 rfl ?_
            refine w_inc7 105 dX13_vital_102 rfl (by decide) rfl (v := nI (_ + 1)) (nI_1 _) ?_
            refine w_goto 47 dX13_vital_105 rfl ?_
            refine wp_to ?_ rfl rfl (ih (i + 1) none (by omega) (by omega))
            simp [lle, vtS, hv, show ¬ 99999 < (vtS (vtF w s n a b) i).2 by omega]
  refine w_bipush 37 dX13_vital_35 rfl (v := (-2)) rfl ?_
  refine w_ist5 39 dX13_vital_37 rfl (by decide) rfl ?_
  refine w_ldcw 42 dX13_vital_39 rfl kcX13_385 ?_
  refine w_top (show _ = nI 99999 from rfl) ?_
  refine w_ist6 44 dX13_vital_42 rfl (by decide) rfl ?_
  refine w_iconst 45 dX13_vital_44 rfl (v := nI 0) rfl ?_
  refine w_ist7 47 dX13_vital_45 rfl (by decide) rfl ?_
  exact lp47 _ 0 none (Nat.zero_le _) (Nat.lt_succ_self _)

set_option maxRecDepth 4000 in
theorem c_X13_vital {K : Option Value → AH → Prop} {A : AH} {r : Value} {w : WT} {s : Nat → Nat} (hC : MC w s A) {a b n : Int32} (h : ∀ A', QM A A' → A'.1 100 1 = nI (tY (ok2 w a b) n) → A'.1 100 2 = -1 → K (some (.int (qVital w s a b n))) A') : Ct yX13_vital mX13_vital 4 dM (GG (.ref 111) r) [.ref 100, .int a, .int b, .int n] A K := by
  refine Ct.of [some (.ref 100), some (.int a), some (.int b), some (.int n), none, none, none, none, none] rfl rfl rfl (Nat.le_of_ble_eq_true rfl) ?_
  refine w_aload_n 1 dX13_vital_0 rfl rfl ?_
  refine w_iconst 2 dX13_vital_1 rfl (v := nI 0) rfl ?_
  refine w_puti 5 dX13_vital_2 rfl faX13_46 rfl rfl rfl rfl ?_
  have hQ1 : QM A (upd2 A.1 100 0 (nI 0), A.2) := QM.rf.f (by decide) _
  have hC1 := hC.q hQ1
  refine w_aload_n 6 dX13_vital_5 rfl rfl ?_
  refine w_aload_n 7 dX13_vital_6 rfl rfl ?_
  refine w_iload_n 8 dX13_vital_7 rfl rfl ?_
  refine w_iload_n 9 dX13_vital_8 rfl rfl ?_
  refine w_inv2 12 dX13_vital_9 rfl mlX13_408 rfl rfl (d' := 1) (by decide) (Nat.le_of_ble_eq_true rfl) (c_X13_areTwo hC1 ?_)
  refine w_iload_n 13 dX13_vital_12 rfl rfl ?_
  refine w_inv2 16 dX13_vital_13 rfl mlX13_401 rfl rfl (d' := 1) (by decide) (Nat.le_of_ble_eq_true rfl) (c_X13_refusesYears (b := ok2 w a b) ?_)
  refine w_ist4 18 dX13_vital_16 rfl (by decide) rfl ?_
  refine w_iload 20 dX13_vital_18 rfl rfl ?_
  refine w_ifleN 30 23 dX13_vital_20 rfl rfl (by have := tY_le (ok2 w a b) n; omega) (fun c20 => ?_) (fun c20 => ?_)
  · skip
    have hz : tY (ok2 w a b) n = 0 := c20
    obtain ⟨k1, k2⟩ := tY_0 hz
    have hr := hC.rooms
    obtain ⟨a, b, rfl, rfl, ha, hb, hab⟩ := ok2_of k1 hr.2.1
    obtain ⟨n, rfl, hn⟩ := tI_of k2
    refine w_aload_n 31 dX13_vital_30 rfl rfl ?_
    refine w_iload_n 32 dX13_vital_31 rfl rfl ?_
    refine w_inv1 35 dX13_vital_32 rfl mlX13_398 rfl rfl (d' := 3) (by decide) (Nat.le_of_ble_eq_true rfl) (c_X13_lays hC1 hn (fun A3 hY hX hQ3 => ?_))
    have hC3 := hC1.q hQ3
    have hN := hC3.1.2.1 1 (by decide) (by decide)
    have h8 := hC.2.2.2.1.2.1
    exact a_X13_vital hY hN hr.2.1 h8 (by omega) (by omega) (fun A9 hQ9 ht9 hw9 => kq (h A9 ((hQ1.tr hQ3).tr hQ9) (by rw [hz]; exact ht9) hw9) (by unfold qVital; rw [if_pos hz, cl_nI (show a < 2 ^ 31 by omega), cl_nI (show b < 2 ^ 31 by omega), cl_nI (show n < 2 ^ 31 by omega)]))
  · skip
    refine w_aload_n 24 dX13_vital_23 rfl rfl ?_
    refine w_iload 26 dX13_vital_24 rfl rfl ?_
    refine w_inv1 29 dX13_vital_26 rfl mlX13_52 rfl rfl (d' := 0) (by decide) (Nat.le_of_ble_eq_true rfl) (c_X13_refused (fun A2 hQ2 ht2 hw2 => ?_))
    refine wr_i dX13_vital_29 rfl ?_
    exact kq (h A2 (hQ1.tr hQ2) ht2 hw2) (by unfold qVital; rw [if_neg (Nat.ne_of_gt c20)])

set_option maxRecDepth 4000 in
theorem a_X13_bridges {K : Option Value → AH → Prop} {A : AH} {r : Value} {w : WT} {s : Nat → Nat} {n : Nat} {z : Int32} (hY : RY (s 1) (e1W w s) (e2W w s) (esW w s n) A) (hN : A.1 111 2 = nI (w.1 1)) (h7 : w.1 1 ≤ 7) (h8 : s 1 ≤ 8) (h : ∀ A', QM A A' → A'.1 100 1 = nI 0 → A'.1 100 2 = -1 → K (some (.int (nI (maskTo (brB w s n) (s 1))))) A') : WP mX13_bridges 4 dM (GG (.ref 111) r) 38 [some (.ref 100), some (.int (nI n)), some (.int z), none, none] [] A K := by
  have lp43 : ∀ (nf : Nat) (i : Nat), i ≤ s 1 → s 1 - i < nf → WP mX13_bridges 4 dM (GG (.ref 111) r) 43 [some (.ref 100), some (.int (nI n)), some (.int z), some (.int (nI (maskTo (brB w s n) i))), some (.int (nI i))] [] A K := by
    intro nf
    induction nf with
    | zero => intros; omega
    | succ nf ih =>
      intro i hi hms
      have hl1 : PTw w s n (2 ^ i) ≤ w.1 1 := ptS_le _ _
      have hl2 : PTw w s n 0 ≤ w.1 1 := ptS_le _ _
      refine w_iload 45 dX13_bridges_43 rfl rfl ?_
      refine w_aload_n 46 dX13_bridges_45 rfl rfl ?_
      refine w_getiv 49 dX13_bridges_46 rfl faX13_360 rfl rfl rfl hY.1 ?_
      refine w_icgeN 85 52 dX13_bridges_49 rfl rfl (by omega) (by omega) (fun c49 => ?_) (fun c49 => ?_)
      · skip
        refine w_aload_n 86 dX13_bridges_85 rfl rfl ?_
        refine w_iload_n 87 dX13_bridges_86 rfl rfl ?_
        have e : i = s 1 := by omega
        subst e
        refine w_inv1 90 dX13_bridges_87 rfl mlX13_56 rfl rfl (d' := 0) (by decide) (Nat.le_of_ble_eq_true rfl) (c_X13_good (fun A9 hQ9 ht9 hw9 => ?_))
        refine wr_i dX13_bridges_90 rfl ?_
        exact h A9 hQ9 ht9 hw9
      · skip
        refine w_iload_n 53 dX13_bridges_52 rfl rfl ?_
        refine w_aload_n 54 dX13_bridges_53 rfl rfl ?_
        refine w_iconst 55 dX13_bridges_54 rfl (v := nI 1) rfl ?_
        refine w_iload 57 dX13_bridges_55 rfl rfl ?_
        refine w_shl1 58 dX13_bridges_57 rfl (by omega) ?_
        refine w_inv1 61 dX13_bridges_58 rfl mlX13_418 rfl rfl (d' := 3) (by decide) (Nat.le_of_ble_eq_true rfl) (c_X13_partsBut hY hN h7 (pow8 (by omega)) ?_)
        refine w_aload_n 62 dX13_bridges_61 rfl rfl ?_
        refine w_iconst 63 dX13_bridges_62 rfl (v := nI 0) rfl ?_
        refine w_inv1 66 dX13_bridges_63 rfl mlX13_418 rfl rfl (d' := 3) (by decide) (Nat.le_of_ble_eq_true rfl) (c_X13_partsBut hY hN h7 (by decide) ?_)
        refine w_icleN 76 69 dX13_bridges_66 rfl rfl (show PTw w s n (2 ^ i) < 2 ^ 31 by omega) (show PTw w s n 0 < 2 ^ 31 by omega) (fun c66 => ?_) (fun c66 => ?_)
        · skip
          refine w_iconst 77 dX13_bridges_76 rfl (v := nI 0) rfl ?_
          refine w_ior 78 dX13_bridges_77 rfl ?_
          refine w_top (mask_or0 _ _) ?_
          refine w_ist3 79 dX13_bridges_78 rfl (by decide) rfl ?_
          refine w_inc4 82 dX13_bridges_79 rfl (by decide) rfl (v := nI (_ + 1)) (nI_1 _) ?_
          refine w_goto 43 dX13_bridges_82 rfl ?_
          have c66 : brB w s n i = false := decide_eq_false (Nat.not_lt.mpr c66)
          refine wp_eq ?_ rfl rfl (ih (i + 1) (by omega) (by omega))
          simp [maskTo, c66]
        · skip
          refine w_iconst 70 dX13_bridges_69 rfl (v := nI 1) rfl ?_
          refine w_iload 72 dX13_bridges_70 rfl rfl ?_
          refine w_shl1 73 dX13_bridges_72 rfl (by omega) ?_
          refine w_goto 77 dX13_bridges_73 rfl ?_
          refine w_ior 78 dX13_bridges_77 rfl ?_
          refine w_top (mask_or _ _) ?_
          refine w_ist3 79 dX13_bridges_78 rfl (by decide) rfl ?_
          refine w_inc4 82 dX13_bridges_79 rfl (by decide) rfl (v := nI (_ + 1)) (nI_1 _) ?_
          refine w_goto 43 dX13_bridges_82 rfl ?_
          have c66 : brB w s n i = true := decide_eq_true c66
          refine wp_eq ?_ rfl rfl (ih (i + 1) (by omega) (by omega))
          simp [maskTo, c66]
  refine w_iconst 39 dX13_bridges_38 rfl (v := nI 0) rfl ?_
  refine w_ist3 40 dX13_bridges_39 rfl (by decide) rfl ?_
  refine w_iconst 41 dX13_bridges_40 rfl (v := nI 0) rfl ?_
  refine w_ist4 43 dX13_bridges_41 rfl (by decide) rfl ?_
  exact lp43 _ 0 (Nat.zero_le _) (Nat.lt_succ_self _)

set_option maxRecDepth 4000 in
theorem c_X13_bridges {K : Option Value → AH → Prop} {A : AH} {r : Value} {w : WT} {s : Nat → Nat} (hC : MC w s A) {n : Int32} (h : ∀ A', QM A A' → A'.1 100 1 = nI (tY (okW1 w) n) → A'.1 100 2 = -1 → K (some (.int (qBridges w s n))) A') : Ct yX13_bridges mX13_bridges 4 dM (GG (.ref 111) r) [.ref 100, .int n] A K := by
  refine Ct.of [some (.ref 100), some (.int n), none, none, none] rfl rfl rfl (Nat.le_of_ble_eq_true rfl) ?_
  refine w_aload_n 1 dX13_bridges_0 rfl rfl ?_
  refine w_iconst 2 dX13_bridges_1 rfl (v := nI 0) rfl ?_
  refine w_puti 5 dX13_bridges_2 rfl faX13_46 rfl rfl rfl rfl ?_
  have hQ1 : QM A (upd2 A.1 100 0 (nI 0), A.2) := QM.rf.f (by decide) _
  have hC1 := hC.q hQ1
  refine w_aload_n 6 dX13_bridges_5 rfl rfl ?_
  refine w_aload_n 7 dX13_bridges_6 rfl rfl ?_
  refine w_getr 10 dX13_bridges_7 rfl faX13_343 rfl rfl rfl (r := .ref 111) rfl ?_
  refine w_nR 13 dX13_bridges_10 rfl ?_
  refine w_iconst 14 dX13_bridges_13 rfl (v := nI 1) rfl ?_
  refine w_goto 18 dX13_bridges_14 rfl ?_
  refine w_iload_n 19 dX13_bridges_18 rfl rfl ?_
  rw [show nI 1 = b2i (okW1 w) from by rw [okW1_t hC]; rfl]
  refine w_inv2 22 dX13_bridges_19 rfl mlX13_401 rfl rfl (d' := 1) (by decide) (Nat.le_of_ble_eq_true rfl) (c_X13_refusesYears (b := okW1 w) ?_)
  refine w_ist2 23 dX13_bridges_22 rfl (by decide) rfl ?_
  refine w_iload_n 24 dX13_bridges_23 rfl rfl ?_
  refine w_ifleN 33 27 dX13_bridges_24 rfl rfl (by have := tY_le (okW1 w) n; omega) (fun c24 => ?_) (fun c24 => ?_)
  · skip
    have hz : tY (okW1 w) n = 0 := c24
    obtain ⟨k1, k2⟩ := tY_0 hz
    have hr := hC.rooms
    obtain ⟨n, rfl, hn⟩ := tI_of k2
    refine w_aload_n 34 dX13_bridges_33 rfl rfl ?_
    refine w_iload_n 35 dX13_bridges_34 rfl rfl ?_
    refine w_inv1 38 dX13_bridges_35 rfl mlX13_398 rfl rfl (d' := 3) (by decide) (Nat.le_of_ble_eq_true rfl) (c_X13_lays hC1 hn (fun A3 hY hX hQ3 => ?_))
    have hC3 := hC1.q hQ3
    have hN := hC3.1.2.1 1 (by decide) (by decide)
    have h8 := hC.2.2.2.1.2.1
    exact a_X13_bridges hY hN hr.2.1 h8 (fun A9 hQ9 ht9 hw9 => kq (h A9 ((hQ1.tr hQ3).tr hQ9) (by rw [hz]; exact ht9) hw9) (by unfold qBridges; rw [if_pos hz, cl_nI (show n < 2 ^ 31 by omega)]))
  · skip
    refine w_aload_n 28 dX13_bridges_27 rfl rfl ?_
    refine w_iload_n 29 dX13_bridges_28 rfl rfl ?_
    refine w_inv1 32 dX13_bridges_29 rfl mlX13_52 rfl rfl (d' := 0) (by decide) (Nat.le_of_ble_eq_true rfl) (c_X13_refused (fun A2 hQ2 ht2 hw2 => ?_))
    refine wr_i dX13_bridges_32 rfl ?_
    exact kq (h A2 (hQ1.tr hQ2) ht2 hw2) (by unfold qBridges; rw [if_neg (Nat.ne_of_gt c24)])

set_option maxRecDepth 4000 in
theorem n_X13_bears {K : Option Value → AH → Prop} {A : AH} {r : Value} {a b n : Int32} (h : ∀ A', QM A A' → A'.1 100 1 = nI 1 → A'.1 100 2 = -1 → K (some (.int (-1))) A') : Ct yX13_bears mX13_bears 4 dN (GG .null r) [.ref 100, .int a, .int b, .int n] A K := by
  refine Ct.of [some (.ref 100), some (.int a), some (.int b), some (.int n), none] rfl rfl rfl (Nat.le_of_ble_eq_true rfl) ?_
  refine w_aload_n 1 dX13_bears_0 rfl rfl ?_
  refine w_iconst 2 dX13_bears_1 rfl (v := nI 0) rfl ?_
  refine w_puti 5 dX13_bears_2 rfl faX13_46 rfl rfl rfl rfl ?_
  refine w_aload_n 6 dX13_bears_5 rfl rfl ?_
  refine w_aload_n 7 dX13_bears_6 rfl rfl ?_
  refine w_iload_n 8 dX13_bears_7 rfl rfl ?_
  refine w_iload_n 9 dX13_bears_8 rfl rfl ?_
  refine w_inv2 12 dX13_bears_9 rfl mlX13_408 rfl rfl (d' := 1) (by decide) (Nat.le_of_ble_eq_true rfl) (c_X13_areTwoN ?_)
  refine w_iload_n 13 dX13_bears_12 rfl rfl ?_
  try rw [show nI 0 = b2i false from rfl]
  refine w_inv2 16 dX13_bears_13 rfl mlX13_401 rfl rfl (d' := 1) (by decide) (Nat.le_of_ble_eq_true rfl) (c_X13_refusesYearsN (b := false) ?_)
  rw [show tY false _ = 1 from rfl]
  refine w_ist4 18 dX13_bears_16 rfl (by decide) rfl ?_
  refine w_iload 20 dX13_bears_18 rfl rfl ?_
  refine w_ifleN 30 23 dX13_bears_20 rfl rfl (by decide) (fun cc => absurd cc (by decide)) (fun _ => ?_)
  refine w_aload_n 24 dX13_bears_23 rfl rfl ?_
  refine w_iload 26 dX13_bears_24 rfl rfl ?_
  refine w_inv1 29 dX13_bears_26 rfl mlX13_52 rfl rfl (d' := 0) (by decide) (Nat.le_of_ble_eq_true rfl) (c_X13_refusedN (fun A2 hQ2 ht2 hw2 => ?_))
  refine wr_i dX13_bears_29 rfl ?_
  exact h A2 ((QM.rf.f (by decide) _).tr hQ2) ht2 hw2

set_option maxRecDepth 4000 in
theorem n_X13_cut {K : Option Value → AH → Prop} {A : AH} {r : Value} {a b n : Int32} (h : ∀ A', QM A A' → A'.1 100 1 = nI 1 → A'.1 100 2 = -1 → K (some (.int (-1))) A') : Ct yX13_cut mX13_cut 4 dN (GG .null r) [.ref 100, .int a, .int b, .int n] A K := by
  refine Ct.of [some (.ref 100), some (.int a), some (.int b), some (.int n), none, none, none, none, none, none] rfl rfl rfl (Nat.le_of_ble_eq_true rfl) ?_
  refine w_aload_n 1 dX13_cut_0 rfl rfl ?_
  refine w_iconst 2 dX13_cut_1 rfl (v := nI 0) rfl ?_
  refine w_puti 5 dX13_cut_2 rfl faX13_46 rfl rfl rfl rfl ?_
  refine w_aload_n 6 dX13_cut_5 rfl rfl ?_
  refine w_aload_n 7 dX13_cut_6 rfl rfl ?_
  refine w_iload_n 8 dX13_cut_7 rfl rfl ?_
  refine w_iload_n 9 dX13_cut_8 rfl rfl ?_
  refine w_inv2 12 dX13_cut_9 rfl mlX13_408 rfl rfl (d' := 1) (by decide) (Nat.le_of_ble_eq_true rfl) (c_X13_areTwoN ?_)
  refine w_iload_n 13 dX13_cut_12 rfl rfl ?_
  try rw [show nI 0 = b2i false from rfl]
  refine w_inv2 16 dX13_cut_13 rfl mlX13_401 rfl rfl (d' := 1) (by decide) (Nat.le_of_ble_eq_true rfl) (c_X13_refusesYearsN (b := false) ?_)
  rw [show tY false _ = 1 from rfl]
  refine w_ist4 18 dX13_cut_16 rfl (by decide) rfl ?_
  refine w_iload 20 dX13_cut_18 rfl rfl ?_
  refine w_ifleN 30 23 dX13_cut_20 rfl rfl (by decide) (fun cc => absurd cc (by decide)) (fun _ => ?_)
  refine w_aload_n 24 dX13_cut_23 rfl rfl ?_
  refine w_iload 26 dX13_cut_24 rfl rfl ?_
  refine w_inv1 29 dX13_cut_26 rfl mlX13_52 rfl rfl (d' := 0) (by decide) (Nat.le_of_ble_eq_true rfl) (c_X13_refusedN (fun A2 hQ2 ht2 hw2 => ?_))
  refine wr_i dX13_cut_29 rfl ?_
  exact h A2 ((QM.rf.f (by decide) _).tr hQ2) ht2 hw2

set_option maxRecDepth 4000 in
theorem n_X13_vital {K : Option Value → AH → Prop} {A : AH} {r : Value} {a b n : Int32} (h : ∀ A', QM A A' → A'.1 100 1 = nI 1 → A'.1 100 2 = -1 → K (some (.int (-1))) A') : Ct yX13_vital mX13_vital 4 dN (GG .null r) [.ref 100, .int a, .int b, .int n] A K := by
  refine Ct.of [some (.ref 100), some (.int a), some (.int b), some (.int n), none, none, none, none, none] rfl rfl rfl (Nat.le_of_ble_eq_true rfl) ?_
  refine w_aload_n 1 dX13_vital_0 rfl rfl ?_
  refine w_iconst 2 dX13_vital_1 rfl (v := nI 0) rfl ?_
  refine w_puti 5 dX13_vital_2 rfl faX13_46 rfl rfl rfl rfl ?_
  refine w_aload_n 6 dX13_vital_5 rfl rfl ?_
  refine w_aload_n 7 dX13_vital_6 rfl rfl ?_
  refine w_iload_n 8 dX13_vital_7 rfl rfl ?_
  refine w_iload_n 9 dX13_vital_8 rfl rfl ?_
  refine w_inv2 12 dX13_vital_9 rfl mlX13_408 rfl rfl (d' := 1) (by decide) (Nat.le_of_ble_eq_true rfl) (c_X13_areTwoN ?_)
  refine w_iload_n 13 dX13_vital_12 rfl rfl ?_
  try rw [show nI 0 = b2i false from rfl]
  refine w_inv2 16 dX13_vital_13 rfl mlX13_401 rfl rfl (d' := 1) (by decide) (Nat.le_of_ble_eq_true rfl) (c_X13_refusesYearsN (b := false) ?_)
  rw [show tY false _ = 1 from rfl]
  refine w_ist4 18 dX13_vital_16 rfl (by decide) rfl ?_
  refine w_iload 20 dX13_vital_18 rfl rfl ?_
  refine w_ifleN 30 23 dX13_vital_20 rfl rfl (by decide) (fun cc => absurd cc (by decide)) (fun _ => ?_)
  refine w_aload_n 24 dX13_vital_23 rfl rfl ?_
  refine w_iload 26 dX13_vital_24 rfl rfl ?_
  refine w_inv1 29 dX13_vital_26 rfl mlX13_52 rfl rfl (d' := 0) (by decide) (Nat.le_of_ble_eq_true rfl) (c_X13_refusedN (fun A2 hQ2 ht2 hw2 => ?_))
  refine wr_i dX13_vital_29 rfl ?_
  exact h A2 ((QM.rf.f (by decide) _).tr hQ2) ht2 hw2

set_option maxRecDepth 4000 in
theorem n_X13_needed {K : Option Value → AH → Prop} {A : AH} {r : Value} {a b n : Int32} (h : ∀ A', QM A A' → A'.1 100 1 = nI 1 → A'.1 100 2 = -1 → K (some (.int (-1))) A') : Ct yX13_needed mX13_needed 4 dN (GG .null r) [.ref 100, .int a, .int b, .int n] A K := by
  refine Ct.of [some (.ref 100), some (.int a), some (.int b), some (.int n), none, none, none, none] rfl rfl rfl (Nat.le_of_ble_eq_true rfl) ?_
  refine w_aload_n 1 dX13_needed_0 rfl rfl ?_
  refine w_iconst 2 dX13_needed_1 rfl (v := nI 0) rfl ?_
  refine w_puti 5 dX13_needed_2 rfl faX13_46 rfl rfl rfl rfl ?_
  refine w_aload_n 6 dX13_needed_5 rfl rfl ?_
  refine w_aload_n 7 dX13_needed_6 rfl rfl ?_
  refine w_iload_n 8 dX13_needed_7 rfl rfl ?_
  refine w_iload_n 9 dX13_needed_8 rfl rfl ?_
  refine w_inv2 12 dX13_needed_9 rfl mlX13_408 rfl rfl (d' := 1) (by decide) (Nat.le_of_ble_eq_true rfl) (c_X13_areTwoN ?_)
  refine w_iload_n 13 dX13_needed_12 rfl rfl ?_
  try rw [show nI 0 = b2i false from rfl]
  refine w_inv2 16 dX13_needed_13 rfl mlX13_401 rfl rfl (d' := 1) (by decide) (Nat.le_of_ble_eq_true rfl) (c_X13_refusesYearsN (b := false) ?_)
  rw [show tY false _ = 1 from rfl]
  refine w_ist4 18 dX13_needed_16 rfl (by decide) rfl ?_
  refine w_iload 20 dX13_needed_18 rfl rfl ?_
  refine w_ifleN 30 23 dX13_needed_20 rfl rfl (by decide) (fun cc => absurd cc (by decide)) (fun _ => ?_)
  refine w_aload_n 24 dX13_needed_23 rfl rfl ?_
  refine w_iload 26 dX13_needed_24 rfl rfl ?_
  refine w_inv1 29 dX13_needed_26 rfl mlX13_52 rfl rfl (d' := 0) (by decide) (Nat.le_of_ble_eq_true rfl) (c_X13_refusedN (fun A2 hQ2 ht2 hw2 => ?_))
  refine wr_i dX13_needed_29 rfl ?_
  exact h A2 ((QM.rf.f (by decide) _).tr hQ2) ht2 hw2

set_option maxRecDepth 4000 in
theorem n_X13_apart {K : Option Value → AH → Prop} {A : AH} {r : Value} {a b n : Int32} (h : ∀ A', QM A A' → A'.1 100 1 = nI 1 → A'.1 100 2 = -1 → K (some (.int (-1))) A') : Ct yX13_apart mX13_apart 4 dN (GG .null r) [.ref 100, .int a, .int b, .int n] A K := by
  refine Ct.of [some (.ref 100), some (.int a), some (.int b), some (.int n), none, none, none, none, none] rfl rfl rfl (Nat.le_of_ble_eq_true rfl) ?_
  refine w_aload_n 1 dX13_apart_0 rfl rfl ?_
  refine w_iconst 2 dX13_apart_1 rfl (v := nI 0) rfl ?_
  refine w_puti 5 dX13_apart_2 rfl faX13_46 rfl rfl rfl rfl ?_
  refine w_aload_n 6 dX13_apart_5 rfl rfl ?_
  refine w_aload_n 7 dX13_apart_6 rfl rfl ?_
  refine w_iload_n 8 dX13_apart_7 rfl rfl ?_
  refine w_inv1 11 dX13_apart_8 rfl mlX13_351 rfl rfl (d' := 0) (by decide) (Nat.le_of_ble_eq_true rfl) (c_X13_isNailN ?_)
  refine w_ifeqB 26 14 dX13_apart_11 rfl rfl (fun _ => ?_) (fun cc => by cases cc)
  refine w_iconst 27 dX13_apart_26 rfl (v := nI 0) rfl ?_
  refine w_iload_n 28 dX13_apart_27 rfl rfl ?_
  try rw [show nI 0 = b2i false from rfl]
  refine w_inv2 31 dX13_apart_28 rfl mlX13_401 rfl rfl (d' := 1) (by decide) (Nat.le_of_ble_eq_true rfl) (c_X13_refusesYearsN (b := false) ?_)
  rw [show tY false _ = 1 from rfl]
  refine w_ist4 33 dX13_apart_31 rfl (by decide) rfl ?_
  refine w_iload 35 dX13_apart_33 rfl rfl ?_
  refine w_ifleN 45 38 dX13_apart_35 rfl rfl (by decide) (fun cc => absurd cc (by decide)) (fun _ => ?_)
  refine w_aload_n 39 dX13_apart_38 rfl rfl ?_
  refine w_iload 41 dX13_apart_39 rfl rfl ?_
  refine w_inv1 44 dX13_apart_41 rfl mlX13_52 rfl rfl (d' := 0) (by decide) (Nat.le_of_ble_eq_true rfl) (c_X13_refusedN (fun A2 hQ2 ht2 hw2 => ?_))
  refine wr_i dX13_apart_44 rfl ?_
  exact h A2 ((QM.rf.f (by decide) _).tr hQ2) ht2 hw2

set_option maxRecDepth 4000 in
theorem n_X13_holding {K : Option Value → AH → Prop} {A : AH} {r : Value} {n : Int32} (h : ∀ A', QM A A' → A'.1 100 1 = nI 1 → A'.1 100 2 = -1 → K (some (.int (-1))) A') : Ct yX13_holding mX13_holding 4 dN (GG .null r) [.ref 100, .int n] A K := by
  refine Ct.of [some (.ref 100), some (.int n), none] rfl rfl rfl (Nat.le_of_ble_eq_true rfl) ?_
  refine w_aload_n 1 dX13_holding_0 rfl rfl ?_
  refine w_iconst 2 dX13_holding_1 rfl (v := nI 0) rfl ?_
  refine w_puti 5 dX13_holding_2 rfl faX13_46 rfl rfl rfl rfl ?_
  refine w_aload_n 6 dX13_holding_5 rfl rfl ?_
  refine w_aload_n 7 dX13_holding_6 rfl rfl ?_
  refine w_getr 10 dX13_holding_7 rfl faX13_343 rfl rfl rfl (r := .null) rfl ?_
  refine w_nN 17 dX13_holding_10 rfl ?_
  refine w_iconst 18 dX13_holding_17 rfl (v := nI 0) rfl ?_
  refine w_iload_n 19 dX13_holding_18 rfl rfl ?_
  try rw [show nI 0 = b2i false from rfl]
  refine w_inv2 22 dX13_holding_19 rfl mlX13_401 rfl rfl (d' := 1) (by decide) (Nat.le_of_ble_eq_true rfl) (c_X13_refusesYearsN (b := false) ?_)
  rw [show tY false _ = 1 from rfl]
  refine w_ist2 23 dX13_holding_22 rfl (by decide) rfl ?_
  refine w_iload_n 24 dX13_holding_23 rfl rfl ?_
  refine w_ifleN 33 27 dX13_holding_24 rfl rfl (by decide) (fun cc => absurd cc (by decide)) (fun _ => ?_)
  refine w_aload_n 28 dX13_holding_27 rfl rfl ?_
  refine w_iload_n 29 dX13_holding_28 rfl rfl ?_
  refine w_inv1 32 dX13_holding_29 rfl mlX13_52 rfl rfl (d' := 0) (by decide) (Nat.le_of_ble_eq_true rfl) (c_X13_refusedN (fun A2 hQ2 ht2 hw2 => ?_))
  refine wr_i dX13_holding_32 rfl ?_
  exact h A2 ((QM.rf.f (by decide) _).tr hQ2) ht2 hw2

set_option maxRecDepth 4000 in
theorem n_X13_strongest {K : Option Value → AH → Prop} {A : AH} {r : Value} {n : Int32} (h : ∀ A', QM A A' → A'.1 100 1 = nI 1 → A'.1 100 2 = -1 → K (some (.int (-1))) A') : Ct yX13_strongest mX13_strongest 4 dN (GG .null r) [.ref 100, .int n] A K := by
  refine Ct.of [some (.ref 100), some (.int n), none, none, none, none] rfl rfl rfl (Nat.le_of_ble_eq_true rfl) ?_
  refine w_aload_n 1 dX13_strongest_0 rfl rfl ?_
  refine w_iconst 2 dX13_strongest_1 rfl (v := nI 0) rfl ?_
  refine w_puti 5 dX13_strongest_2 rfl faX13_46 rfl rfl rfl rfl ?_
  refine w_aload_n 6 dX13_strongest_5 rfl rfl ?_
  refine w_aload_n 7 dX13_strongest_6 rfl rfl ?_
  refine w_getr 10 dX13_strongest_7 rfl faX13_343 rfl rfl rfl (r := .null) rfl ?_
  refine w_nN 17 dX13_strongest_10 rfl ?_
  refine w_iconst 18 dX13_strongest_17 rfl (v := nI 0) rfl ?_
  refine w_iload_n 19 dX13_strongest_18 rfl rfl ?_
  try rw [show nI 0 = b2i false from rfl]
  refine w_inv2 22 dX13_strongest_19 rfl mlX13_401 rfl rfl (d' := 1) (by decide) (Nat.le_of_ble_eq_true rfl) (c_X13_refusesYearsN (b := false) ?_)
  rw [show tY false _ = 1 from rfl]
  refine w_ist2 23 dX13_strongest_22 rfl (by decide) rfl ?_
  refine w_iload_n 24 dX13_strongest_23 rfl rfl ?_
  refine w_ifleN 33 27 dX13_strongest_24 rfl rfl (by decide) (fun cc => absurd cc (by decide)) (fun _ => ?_)
  refine w_aload_n 28 dX13_strongest_27 rfl rfl ?_
  refine w_iload_n 29 dX13_strongest_28 rfl rfl ?_
  refine w_inv1 32 dX13_strongest_29 rfl mlX13_52 rfl rfl (d' := 0) (by decide) (Nat.le_of_ble_eq_true rfl) (c_X13_refusedN (fun A2 hQ2 ht2 hw2 => ?_))
  refine wr_i dX13_strongest_32 rfl ?_
  exact h A2 ((QM.rf.f (by decide) _).tr hQ2) ht2 hw2

set_option maxRecDepth 4000 in
theorem n_X13_weakest {K : Option Value → AH → Prop} {A : AH} {r : Value} {n : Int32} (h : ∀ A', QM A A' → A'.1 100 1 = nI 1 → A'.1 100 2 = -1 → K (some (.int (-1))) A') : Ct yX13_weakest mX13_weakest 4 dN (GG .null r) [.ref 100, .int n] A K := by
  refine Ct.of [some (.ref 100), some (.int n), none, none, none, none, none, none] rfl rfl rfl (Nat.le_of_ble_eq_true rfl) ?_
  refine w_aload_n 1 dX13_weakest_0 rfl rfl ?_
  refine w_iconst 2 dX13_weakest_1 rfl (v := nI 0) rfl ?_
  refine w_puti 5 dX13_weakest_2 rfl faX13_46 rfl rfl rfl rfl ?_
  refine w_aload_n 6 dX13_weakest_5 rfl rfl ?_
  refine w_aload_n 7 dX13_weakest_6 rfl rfl ?_
  refine w_getr 10 dX13_weakest_7 rfl faX13_343 rfl rfl rfl (r := .null) rfl ?_
  refine w_nN 17 dX13_weakest_10 rfl ?_
  refine w_iconst 18 dX13_weakest_17 rfl (v := nI 0) rfl ?_
  refine w_iload_n 19 dX13_weakest_18 rfl rfl ?_
  try rw [show nI 0 = b2i false from rfl]
  refine w_inv2 22 dX13_weakest_19 rfl mlX13_401 rfl rfl (d' := 1) (by decide) (Nat.le_of_ble_eq_true rfl) (c_X13_refusesYearsN (b := false) ?_)
  rw [show tY false _ = 1 from rfl]
  refine w_ist2 23 dX13_weakest_22 rfl (by decide) rfl ?_
  refine w_iload_n 24 dX13_weakest_23 rfl rfl ?_
  refine w_ifleN 33 27 dX13_weakest_24 rfl rfl (by decide) (fun cc => absurd cc (by decide)) (fun _ => ?_)
  refine w_aload_n 28 dX13_weakest_27 rfl rfl ?_
  refine w_iload_n 29 dX13_weakest_28 rfl rfl ?_
  refine w_inv1 32 dX13_weakest_29 rfl mlX13_52 rfl rfl (d' := 0) (by decide) (Nat.le_of_ble_eq_true rfl) (c_X13_refusedN (fun A2 hQ2 ht2 hw2 => ?_))
  refine wr_i dX13_weakest_32 rfl ?_
  exact h A2 ((QM.rf.f (by decide) _).tr hQ2) ht2 hw2

set_option maxRecDepth 4000 in
theorem n_X13_parts {K : Option Value → AH → Prop} {A : AH} {r : Value} {n : Int32} (h : ∀ A', QM A A' → A'.1 100 1 = nI 1 → A'.1 100 2 = -1 → K (some (.int (-1))) A') : Ct yX13_parts mX13_parts 4 dN (GG .null r) [.ref 100, .int n] A K := by
  refine Ct.of [some (.ref 100), some (.int n), none] rfl rfl rfl (Nat.le_of_ble_eq_true rfl) ?_
  refine w_aload_n 1 dX13_parts_0 rfl rfl ?_
  refine w_iconst 2 dX13_parts_1 rfl (v := nI 0) rfl ?_
  refine w_puti 5 dX13_parts_2 rfl faX13_46 rfl rfl rfl rfl ?_
  refine w_aload_n 6 dX13_parts_5 rfl rfl ?_
  refine w_aload_n 7 dX13_parts_6 rfl rfl ?_
  refine w_getr 10 dX13_parts_7 rfl faX13_343 rfl rfl rfl (r := .null) rfl ?_
  refine w_nN 17 dX13_parts_10 rfl ?_
  refine w_iconst 18 dX13_parts_17 rfl (v := nI 0) rfl ?_
  refine w_iload_n 19 dX13_parts_18 rfl rfl ?_
  try rw [show nI 0 = b2i false from rfl]
  refine w_inv2 22 dX13_parts_19 rfl mlX13_401 rfl rfl (d' := 1) (by decide) (Nat.le_of_ble_eq_true rfl) (c_X13_refusesYearsN (b := false) ?_)
  rw [show tY false _ = 1 from rfl]
  refine w_ist2 23 dX13_parts_22 rfl (by decide) rfl ?_
  refine w_iload_n 24 dX13_parts_23 rfl rfl ?_
  refine w_ifleN 33 27 dX13_parts_24 rfl rfl (by decide) (fun cc => absurd cc (by decide)) (fun _ => ?_)
  refine w_aload_n 28 dX13_parts_27 rfl rfl ?_
  refine w_iload_n 29 dX13_parts_28 rfl rfl ?_
  refine w_inv1 32 dX13_parts_29 rfl mlX13_52 rfl rfl (d' := 0) (by decide) (Nat.le_of_ble_eq_true rfl) (c_X13_refusedN (fun A2 hQ2 ht2 hw2 => ?_))
  refine wr_i dX13_parts_32 rfl ?_
  exact h A2 ((QM.rf.f (by decide) _).tr hQ2) ht2 hw2

set_option maxRecDepth 4000 in
theorem n_X13_bridges {K : Option Value → AH → Prop} {A : AH} {r : Value} {n : Int32} (h : ∀ A', QM A A' → A'.1 100 1 = nI 1 → A'.1 100 2 = -1 → K (some (.int (-1))) A') : Ct yX13_bridges mX13_bridges 4 dN (GG .null r) [.ref 100, .int n] A K := by
  refine Ct.of [some (.ref 100), some (.int n), none, none, none] rfl rfl rfl (Nat.le_of_ble_eq_true rfl) ?_
  refine w_aload_n 1 dX13_bridges_0 rfl rfl ?_
  refine w_iconst 2 dX13_bridges_1 rfl (v := nI 0) rfl ?_
  refine w_puti 5 dX13_bridges_2 rfl faX13_46 rfl rfl rfl rfl ?_
  refine w_aload_n 6 dX13_bridges_5 rfl rfl ?_
  refine w_aload_n 7 dX13_bridges_6 rfl rfl ?_
  refine w_getr 10 dX13_bridges_7 rfl faX13_343 rfl rfl rfl (r := .null) rfl ?_
  refine w_nN 17 dX13_bridges_10 rfl ?_
  refine w_iconst 18 dX13_bridges_17 rfl (v := nI 0) rfl ?_
  refine w_iload_n 19 dX13_bridges_18 rfl rfl ?_
  try rw [show nI 0 = b2i false from rfl]
  refine w_inv2 22 dX13_bridges_19 rfl mlX13_401 rfl rfl (d' := 1) (by decide) (Nat.le_of_ble_eq_true rfl) (c_X13_refusesYearsN (b := false) ?_)
  rw [show tY false _ = 1 from rfl]
  refine w_ist2 23 dX13_bridges_22 rfl (by decide) rfl ?_
  refine w_iload_n 24 dX13_bridges_23 rfl rfl ?_
  refine w_ifleN 33 27 dX13_bridges_24 rfl rfl (by decide) (fun cc => absurd cc (by decide)) (fun _ => ?_)
  refine w_aload_n 28 dX13_bridges_27 rfl rfl ?_
  refine w_iload_n 29 dX13_bridges_28 rfl rfl ?_
  refine w_inv1 32 dX13_bridges_29 rfl mlX13_52 rfl rfl (d' := 0) (by decide) (Nat.le_of_ble_eq_true rfl) (c_X13_refusedN (fun A2 hQ2 ht2 hw2 => ?_))
  refine wr_i dX13_bridges_32 rfl ?_
  exact h A2 ((QM.rf.f (by decide) _).tr hQ2) ht2 hw2

set_option maxRecDepth 4000 in
theorem n_X13_borne {K : Option Value → AH → Prop} {A : AH} {r : Value} {n : Int32} (h : ∀ A', QM A A' → A'.1 100 1 = nI 1 → A'.1 100 2 = -1 → K (some (.int (-1))) A') : Ct yX13_borne mX13_borne 5 dN (GG .null r) [.ref 100, .int n] A K := by
  refine Ct.of [some (.ref 100), some (.int n), none] rfl rfl rfl (Nat.le_of_ble_eq_true rfl) ?_
  refine w_aload_n 1 dX13_borne_0 rfl rfl ?_
  refine w_iconst 2 dX13_borne_1 rfl (v := nI 0) rfl ?_
  refine w_puti 5 dX13_borne_2 rfl faX13_46 rfl rfl rfl rfl ?_
  refine w_aload_n 6 dX13_borne_5 rfl rfl ?_
  refine w_aload_n 7 dX13_borne_6 rfl rfl ?_
  refine w_getr 10 dX13_borne_7 rfl faX13_343 rfl rfl rfl (r := .null) rfl ?_
  refine w_nN 17 dX13_borne_10 rfl ?_
  refine w_iconst 18 dX13_borne_17 rfl (v := nI 0) rfl ?_
  refine w_iload_n 19 dX13_borne_18 rfl rfl ?_
  try rw [show nI 0 = b2i false from rfl]
  refine w_inv2 22 dX13_borne_19 rfl mlX13_401 rfl rfl (d' := 1) (by decide) (Nat.le_of_ble_eq_true rfl) (c_X13_refusesYearsN (b := false) ?_)
  rw [show tY false _ = 1 from rfl]
  refine w_ist2 23 dX13_borne_22 rfl (by decide) rfl ?_
  refine w_iload_n 24 dX13_borne_23 rfl rfl ?_
  refine w_ifleN 33 27 dX13_borne_24 rfl rfl (by decide) (fun cc => absurd cc (by decide)) (fun _ => ?_)
  refine w_aload_n 28 dX13_borne_27 rfl rfl ?_
  refine w_iload_n 29 dX13_borne_28 rfl rfl ?_
  refine w_inv1 32 dX13_borne_29 rfl mlX13_52 rfl rfl (d' := 0) (by decide) (Nat.le_of_ble_eq_true rfl) (c_X13_refusedN (fun A2 hQ2 ht2 hw2 => ?_))
  refine wr_i dX13_borne_32 rfl ?_
  exact h A2 ((QM.rf.f (by decide) _).tr hQ2) ht2 hw2

set_option maxRecDepth 4000 in
theorem n_X13_clashes {K : Option Value → AH → Prop} {A : AH} {r : Value} {n : Int32} (h : ∀ A', QM A A' → A'.1 100 1 = nI 1 → A'.1 100 2 = -1 → K (some (.int (-1))) A') : Ct yX13_clashes mX13_clashes 4 dN (GG .null r) [.ref 100, .int n] A K := by
  refine Ct.of [some (.ref 100), some (.int n), none] rfl rfl rfl (Nat.le_of_ble_eq_true rfl) ?_
  refine w_aload_n 1 dX13_clashes_0 rfl rfl ?_
  refine w_iconst 2 dX13_clashes_1 rfl (v := nI 0) rfl ?_
  refine w_puti 5 dX13_clashes_2 rfl faX13_46 rfl rfl rfl rfl ?_
  refine w_aload_n 6 dX13_clashes_5 rfl rfl ?_
  refine w_aload_n 7 dX13_clashes_6 rfl rfl ?_
  refine w_getr 10 dX13_clashes_7 rfl faX13_343 rfl rfl rfl (r := .null) rfl ?_
  refine w_nN 17 dX13_clashes_10 rfl ?_
  refine w_iconst 18 dX13_clashes_17 rfl (v := nI 0) rfl ?_
  refine w_iload_n 19 dX13_clashes_18 rfl rfl ?_
  try rw [show nI 0 = b2i false from rfl]
  refine w_inv2 22 dX13_clashes_19 rfl mlX13_401 rfl rfl (d' := 1) (by decide) (Nat.le_of_ble_eq_true rfl) (c_X13_refusesYearsN (b := false) ?_)
  rw [show tY false _ = 1 from rfl]
  refine w_ist2 23 dX13_clashes_22 rfl (by decide) rfl ?_
  refine w_iload_n 24 dX13_clashes_23 rfl rfl ?_
  refine w_ifleN 33 27 dX13_clashes_24 rfl rfl (by decide) (fun cc => absurd cc (by decide)) (fun _ => ?_)
  refine w_aload_n 28 dX13_clashes_27 rfl rfl ?_
  refine w_iload_n 29 dX13_clashes_28 rfl rfl ?_
  refine w_inv1 32 dX13_clashes_29 rfl mlX13_52 rfl rfl (d' := 0) (by decide) (Nat.le_of_ble_eq_true rfl) (c_X13_refusedN (fun A2 hQ2 ht2 hw2 => ?_))
  refine wr_i dX13_clashes_32 rfl ?_
  exact h A2 ((QM.rf.f (by decide) _).tr hQ2) ht2 hw2

set_option maxRecDepth 4000 in
theorem n_X13_strong {K : Option Value → AH → Prop} {A : AH} {r : Value} {t n : Int32} (h : ∀ A', QM A A' → A'.1 100 1 = nI 1 → A'.1 100 2 = -1 → K (some (.int (-1))) A') : Ct yX13_strong mX13_strong 2 dN (GG .null r) [.ref 100, .int t, .int n] A K := by
  refine Ct.of [some (.ref 100), some (.int t), some (.int n), none] rfl rfl rfl (Nat.le_of_ble_eq_true rfl) ?_
  refine w_aload_n 1 dX13_strong_0 rfl rfl ?_
  refine w_iconst 2 dX13_strong_1 rfl (v := nI 0) rfl ?_
  refine w_puti 5 dX13_strong_2 rfl faX13_46 rfl rfl rfl rfl ?_
  refine w_aload_n 6 dX13_strong_5 rfl rfl ?_
  refine w_aload_n 7 dX13_strong_6 rfl rfl ?_
  refine w_iload_n 8 dX13_strong_7 rfl rfl ?_
  refine w_inv1 11 dX13_strong_8 rfl mlX13_392 rfl rfl (d' := 0) (by decide) (Nat.le_of_ble_eq_true rfl) (c_X13_isThreadN ?_)
  refine w_iload_n 12 dX13_strong_11 rfl rfl ?_
  try rw [show nI 0 = b2i false from rfl]
  refine w_inv2 15 dX13_strong_12 rfl mlX13_401 rfl rfl (d' := 1) (by decide) (Nat.le_of_ble_eq_true rfl) (c_X13_refusesYearsN (b := false) ?_)
  rw [show tY false _ = 1 from rfl]
  refine w_ist3 16 dX13_strong_15 rfl (by decide) rfl ?_
  refine w_iload_n 17 dX13_strong_16 rfl rfl ?_
  refine w_ifleN 26 20 dX13_strong_17 rfl rfl (by decide) (fun cc => absurd cc (by decide)) (fun _ => ?_)
  refine w_aload_n 21 dX13_strong_20 rfl rfl ?_
  refine w_iload_n 22 dX13_strong_21 rfl rfl ?_
  refine w_inv1 25 dX13_strong_22 rfl mlX13_52 rfl rfl (d' := 0) (by decide) (Nat.le_of_ble_eq_true rfl) (c_X13_refusedN (fun A2 hQ2 ht2 hw2 => ?_))
  refine wr_i dX13_strong_25 rfl ?_
  exact h A2 ((QM.rf.f (by decide) _).tr hQ2) ht2 hw2

set_option maxRecDepth 4000 in
theorem n_X13_breaksIn {K : Option Value → AH → Prop} {A : AH} {r : Value} {t : Int32} (h : ∀ A', QM A A' → A'.1 100 1 = nI 1 → A'.1 100 2 = -1 → K (some (.int (-1))) A') : Ct yX13_breaksIn mX13_breaksIn 2 dN (GG .null r) [.ref 100, .int t] A K := by
  refine Ct.of [some (.ref 100), some (.int t), none] rfl rfl rfl (Nat.le_of_ble_eq_true rfl) ?_
  refine w_aload_n 1 dX13_breaksIn_0 rfl rfl ?_
  refine w_iconst 2 dX13_breaksIn_1 rfl (v := nI 0) rfl ?_
  refine w_puti 5 dX13_breaksIn_2 rfl faX13_46 rfl rfl rfl rfl ?_
  refine w_aload_n 6 dX13_breaksIn_5 rfl rfl ?_
  refine w_iload_n 7 dX13_breaksIn_6 rfl rfl ?_
  refine w_inv1 10 dX13_breaksIn_7 rfl mlX13_392 rfl rfl (d' := 0) (by decide) (Nat.le_of_ble_eq_true rfl) (c_X13_isThreadN ?_)
  refine w_ifneB 19 13 dX13_breaksIn_10 rfl rfl (fun cc => by cases cc) (fun _ => ?_)
  refine w_aload_n 14 dX13_breaksIn_13 rfl rfl ?_
  refine w_iconst 15 dX13_breaksIn_14 rfl (v := nI 1) rfl ?_
  refine w_inv1 18 dX13_breaksIn_15 rfl mlX13_52 rfl rfl (d' := 0) (by decide) (Nat.le_of_ble_eq_true rfl) (c_X13_refusedN (fun A2 hQ2 ht2 hw2 => ?_))
  refine wr_i dX13_breaksIn_18 rfl ?_
  exact h A2 ((QM.rf.f (by decide) _).tr hQ2) ht2 hw2

set_option maxRecDepth 4000 in
theorem n_X13_thread {K : Option Value → AH → Prop} {A : AH} {r : Value} {t x : Int32} (h : ∀ A', QM A A' → A'.1 100 1 = nI 1 → A'.1 100 2 = -1 → K (some (.int (-1))) A') : Ct yX13_thread mX13_thread 2 dN (GG .null r) [.ref 100, .int t, .int x] A K := by
  refine Ct.of [some (.ref 100), some (.int t), some (.int x)] rfl rfl rfl (Nat.le_of_ble_eq_true rfl) ?_
  refine w_aload_n 1 dX13_thread_0 rfl rfl ?_
  refine w_iconst 2 dX13_thread_1 rfl (v := nI 0) rfl ?_
  refine w_puti 5 dX13_thread_2 rfl faX13_46 rfl rfl rfl rfl ?_
  refine w_aload_n 6 dX13_thread_5 rfl rfl ?_
  refine w_iload_n 7 dX13_thread_6 rfl rfl ?_
  refine w_inv1 10 dX13_thread_7 rfl mlX13_392 rfl rfl (d' := 0) (by decide) (Nat.le_of_ble_eq_true rfl) (c_X13_isThreadN ?_)
  refine w_ifeqB 23 13 dX13_thread_10 rfl rfl (fun _ => ?_) (fun cc => by cases cc)
  refine w_aload_n 24 dX13_thread_23 rfl rfl ?_
  refine w_iconst 25 dX13_thread_24 rfl (v := nI 1) rfl ?_
  refine w_inv1 28 dX13_thread_25 rfl mlX13_52 rfl rfl (d' := 0) (by decide) (Nat.le_of_ble_eq_true rfl) (c_X13_refusedN (fun A2 hQ2 ht2 hw2 => ?_))
  refine wr_i dX13_thread_28 rfl ?_
  exact h A2 ((QM.rf.f (by decide) _).tr hQ2) ht2 hw2

set_option maxRecDepth 4000 in
theorem n_X13_nail {K : Option Value → AH → Prop} {A : AH} {r : Value} {t x : Int32} (h : ∀ A', QM A A' → A'.1 100 1 = nI 1 → A'.1 100 2 = -1 → K (some (.int (-1))) A') : Ct yX13_nail mX13_nail 4 dN (GG .null r) [.ref 100, .int t, .int x] A K := by
  refine Ct.of [some (.ref 100), some (.int t), some (.int x), none, none, none] rfl rfl rfl (Nat.le_of_ble_eq_true rfl) ?_
  refine w_aload_n 1 dX13_nail_0 rfl rfl ?_
  refine w_iconst 2 dX13_nail_1 rfl (v := nI 0) rfl ?_
  refine w_puti 5 dX13_nail_2 rfl faX13_46 rfl rfl rfl rfl ?_
  refine w_aload_n 6 dX13_nail_5 rfl rfl ?_
  refine w_iload_n 7 dX13_nail_6 rfl rfl ?_
  refine w_inv1 10 dX13_nail_7 rfl mlX13_351 rfl rfl (d' := 0) (by decide) (Nat.le_of_ble_eq_true rfl) (c_X13_isNailN ?_)
  refine w_ifeqB 22 13 dX13_nail_10 rfl rfl (fun _ => ?_) (fun cc => by cases cc)
  refine w_aload_n 23 dX13_nail_22 rfl rfl ?_
  refine w_iconst 24 dX13_nail_23 rfl (v := nI 1) rfl ?_
  refine w_inv1 27 dX13_nail_24 rfl mlX13_52 rfl rfl (d' := 0) (by decide) (Nat.le_of_ble_eq_true rfl) (c_X13_refusedN (fun A2 hQ2 ht2 hw2 => ?_))
  refine wr_i dX13_nail_27 rfl ?_
  exact h A2 ((QM.rf.f (by decide) _).tr hQ2) ht2 hw2

