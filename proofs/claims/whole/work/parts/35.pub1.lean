/-! ===== questions: what is answered, by numbers ===== -/
def cl (x : Int32) : Nat := x.toNatClampNeg
theorem cl_nI {n : Nat} (h : n < 2 ^ 31) : cl (nI n) = n := nI_k h
def BV (w : WT) (s : Nat → Nat) (n m a b : Nat) : Nat := bearV (w.1 1) (e1W w s) (e2W w s) (esW w s n) m a b
def HM (w : WT) (s : Nat → Nat) (n : Nat) : Nat := heldM (esW w s n)
def rBears (w : WT) (s : Nat → Nat) (a b n : Int32) : Int32 := if tY (ok2 w a b) n = 0 then nI (BV w s (cl n) (HM w s (cl n)) (cl a) (cl b)) else -1
def rCut (w : WT) (s : Nat → Nat) (a b n : Int32) : Int32 := if tY (ok2 w a b) n = 0 then nI (cutV (w.1 1) (e1W w s) (e2W w s) (esW w s (cl n)) (cl a) (cl b)) else -1
def rHolding (w : WT) (s : Nat → Nat) (n : Int32) : Int32 := if tY (okW1 w) n = 0 then nI (HM w s (cl n)) else -1
def rApart (w : WT) (s : Nat → Nat) (a b n : Int32) : Int32 := if tY (okR (w.1 1) a && okR (w.1 1) b) n = 0 then enc2 (fst1 (fun k => (rit (e1W w s) (e2W w s) (HM w s (cl n)) (cl a) k).testBit (cl b)) (w.1 1)) else -1
def rParts (w : WT) (s : Nat → Nat) (n : Int32) : Int32 := if tY (okW1 w) n = 0 then nI (pcsT (e1W w s) (e2W w s) (HM w s (cl n)) (w.1 1) (w.1 1)) else -1
def rStrong (w : WT) (s : Nat → Nat) (t n : Int32) : Int32 := if tY (okR (s 1) t) n = 0 then nI (stg s (cl t) (cl n)) else -1
def rBreaksIn (w : WT) (s : Nat → Nat) (t : Int32) : Int32 := if t1 (okR (s 1) t) = 0 then enc2 (fst1 (fun n => decide (stg s (cl t) n = 0)) 61) else -1
def rStrongest (w : WT) (s : Nat → Nat) (n : Int32) : Int32 := if tY (okW1 w) n = 0 then enc2 (hv (fun t => stg s t (cl n)) (s 1)).1 else -1
theorem h32of {nn a b : Nat} (hn : nn ≤ 7) (ha : a < nn) (hb : b < nn) (hab : a ≠ b) : cntTo (sideP a b) (2 ^ nn) ≤ 32 := Nat.le_trans (cntTo_mono _ (p7 hn)) (part32 a (by omega) b (by omega) hab)
set_option maxRecDepth 4000 in
theorem c_X11_bears {K : Option Value → AH → Prop} {A : AH} {w : WT} {s : Nat → Nat} (hC : CI w s A) {a b n : Int32} (h : ∀ A', Qk A A' → A'.1 0 8 = nI (tY (ok2 w a b) n) → K (some (.int (rBears w s a b n))) A') : Ct yX11_bears mX11_bears 5 dC gC [.ref 0, .int a, .int b, .int n] A K := by
  refine Ct.of [some (.ref 0), some (.int a), some (.int b), some (.int n)] rfl rfl rfl (Nat.le_of_ble_eq_true rfl) ?_
  refine w_aload_n 1 dX11_bears_0 rfl rfl ?_
  refine w_aload_n 2 dX11_bears_1 rfl rfl ?_
  refine w_iload_n 3 dX11_bears_2 rfl rfl ?_
  refine w_iload_n 4 dX11_bears_3 rfl rfl ?_
  refine w_inv2 7 dX11_bears_4 rfl mlX11_167 rfl rfl (d' := 4) (by decide) (Nat.le_of_ble_eq_true rfl) (c_X11_needTwoNails hC ?_)
  refine w_iload_n 8 dX11_bears_7 rfl rfl ?_
  refine w_invs1 11 dX11_bears_8 rfl slX11_154 (d' := 1) (by decide) (Nat.le_of_ble_eq_true rfl) (c_X11_needYears ?_)
  refine w_invs2 14 dX11_bears_11 rfl slX11_126 (d' := 0) (by decide) (Nat.le_of_ble_eq_true rfl) (c_X11_firstOfN (Nat.lt_of_le_of_lt (t1_le _) (by decide)) ?_)
  rw [tY_first]
  refine w_inv1 17 dX11_bears_14 rfl mlX11_87 rfl rfl (d' := 0) (by decide) (Nat.le_of_ble_eq_true rfl) (c_X11_refused (Nat.lt_of_le_of_lt (tY_le _ _) (by decide)) ?_)
  refine w_ifeqB 22 20 dX11_bears_17 rfl rfl (fun c17 => ?_) (fun c17 => ?_)
  · skip
    have hz : tY (ok2 w a b) n = 0 := by simpa using c17
    have hC1 := hC.off (hC.ref (nI (tY (ok2 w a b) n)))
    obtain ⟨k1, k2⟩ := tY_0 hz
    have hw7 := hC.2.1.2.2.1.1
    obtain ⟨a, b, rfl, rfl, ha, hb, hab⟩ := ok2_of k1 hw7
    obtain ⟨n, rfl, hn⟩ := tI_of k2
    have h32 := h32of hw7 ha hb hab
    refine w_aload_n 23 dX11_bears_22 rfl rfl ?_
    refine w_iload_n 24 dX11_bears_23 rfl rfl ?_
    refine w_inv1 27 dX11_bears_24 rfl mlX11_145 rfl rfl (d' := 4) (by decide) (Nat.le_of_ble_eq_true rfl) (c_X11_goBehind hC1 hn (fun A2 hR hQ => ?_))
    refine w_aload_n 28 dX11_bears_27 rfl rfl ?_
    refine w_getr 31 dX11_bears_28 rfl faX11_40 rfl rfl rfl (r := .ref 48) rfl ?_
    refine w_iload_n 32 dX11_bears_31 rfl rfl ?_
    refine w_iload_n 33 dX11_bears_32 rfl rfl ?_
    refine w_inv2 36 dX11_bears_33 rfl mlX11_170 rfl rfl (d' := 3) (by decide) (Nat.le_of_ble_eq_true rfl) (c_X0_between hR (by omega) (by omega) hab (fun A3 hq h73 hO3 => ?_))
    have hR3 := hR.off h73 hO3
    have hQ3 := hQ.tr (Qi.sub hQ.2 hO3 (by decide) (by decide) (by decide))
    refine wr_i dX11_bears_36 rfl ?_
    exact kq (h A3 (hC.fin hQ3).1 (hC.fin hQ3).2) (by unfold rBears; rw [if_pos hz, cl_nI (show a < 2 ^ 31 by omega), cl_nI (show b < 2 ^ 31 by omega), cl_nI (show n < 2 ^ 31 by omega)]; rfl)
  · skip
    refine w_iconst 21 dX11_bears_20 rfl (v := (-1)) rfl ?_
    refine wr_i dX11_bears_21 rfl ?_
    exact kq (h _ (hC.ref _) (by dsimp only; rw [upd2_at])) (by unfold rBears; rw [if_neg (of_decide_eq_true c17)])

set_option maxRecDepth 4000 in
theorem c_X11_cut {K : Option Value → AH → Prop} {A : AH} {w : WT} {s : Nat → Nat} (hC : CI w s A) {a b n : Int32} (h : ∀ A', Qk A A' → A'.1 0 8 = nI (tY (ok2 w a b) n) → K (some (.int (rCut w s a b n))) A') : Ct yX11_cut mX11_cut 5 dC gC [.ref 0, .int a, .int b, .int n] A K := by
  refine Ct.of [some (.ref 0), some (.int a), some (.int b), some (.int n)] rfl rfl rfl (Nat.le_of_ble_eq_true rfl) ?_
  refine w_aload_n 1 dX11_cut_0 rfl rfl ?_
  refine w_aload_n 2 dX11_cut_1 rfl rfl ?_
  refine w_iload_n 3 dX11_cut_2 rfl rfl ?_
  refine w_iload_n 4 dX11_cut_3 rfl rfl ?_
  refine w_inv2 7 dX11_cut_4 rfl mlX11_167 rfl rfl (d' := 4) (by decide) (Nat.le_of_ble_eq_true rfl) (c_X11_needTwoNails hC ?_)
  refine w_iload_n 8 dX11_cut_7 rfl rfl ?_
  refine w_invs1 11 dX11_cut_8 rfl slX11_154 (d' := 1) (by decide) (Nat.le_of_ble_eq_true rfl) (c_X11_needYears ?_)
  refine w_invs2 14 dX11_cut_11 rfl slX11_126 (d' := 0) (by decide) (Nat.le_of_ble_eq_true rfl) (c_X11_firstOfN (Nat.lt_of_le_of_lt (t1_le _) (by decide)) ?_)
  rw [tY_first]
  refine w_inv1 17 dX11_cut_14 rfl mlX11_87 rfl rfl (d' := 0) (by decide) (Nat.le_of_ble_eq_true rfl) (c_X11_refused (Nat.lt_of_le_of_lt (tY_le _ _) (by decide)) ?_)
  refine w_ifeqB 22 20 dX11_cut_17 rfl rfl (fun c17 => ?_) (fun c17 => ?_)
  · skip
    have hz : tY (ok2 w a b) n = 0 := by simpa using c17
    have hC1 := hC.off (hC.ref (nI (tY (ok2 w a b) n)))
    obtain ⟨k1, k2⟩ := tY_0 hz
    have hw7 := hC.2.1.2.2.1.1
    obtain ⟨a, b, rfl, rfl, ha, hb, hab⟩ := ok2_of k1 hw7
    obtain ⟨n, rfl, hn⟩ := tI_of k2
    have h32 := h32of hw7 ha hb hab
    refine w_aload_n 23 dX11_cut_22 rfl rfl ?_
    refine w_iload_n 24 dX11_cut_23 rfl rfl ?_
    refine w_inv1 27 dX11_cut_24 rfl mlX11_145 rfl rfl (d' := 4) (by decide) (Nat.le_of_ble_eq_true rfl) (c_X11_goBehind hC1 hn (fun A2 hR hQ => ?_))
    refine w_aload_n 28 dX11_cut_27 rfl rfl ?_
    refine w_getr 31 dX11_cut_28 rfl faX11_40 rfl rfl rfl (r := .ref 48) rfl ?_
    refine w_iload_n 32 dX11_cut_31 rfl rfl ?_
    refine w_iload_n 33 dX11_cut_32 rfl rfl ?_
    refine w_inv2 36 dX11_cut_33 rfl mlX11_173 rfl rfl (d' := 2) (by decide) (Nat.le_of_ble_eq_true rfl) (c_X0_part hR.1 hR.2.1 hR.2.2.1 hR.2.2.2.1 (by omega) (by omega) hab (fun A3 hq h73 hO3 => ?_))
    have hR3 := hR.off h73 hO3
    have hQ3 := hQ.tr (Qi.sub hQ.2 hO3 (by decide) (by decide) (by decide))
    refine w_aload_n 37 dX11_cut_36 rfl rfl ?_
    refine w_getr 40 dX11_cut_37 rfl faX11_40 rfl rfl rfl (r := .ref 48) rfl ?_
    refine w_inv0 43 dX11_cut_40 rfl mlX11_177 rfl rfl (d' := 2) (by decide) (Nat.le_of_ble_eq_true rfl) (c_X0_fewestCut hq hR3 h32 ?_)
    refine wr_i dX11_cut_43 rfl ?_
    exact kq (h A3 (hC.fin hQ3).1 (hC.fin hQ3).2) (by unfold rCut; rw [if_pos hz, cl_nI (show a < 2 ^ 31 by omega), cl_nI (show b < 2 ^ 31 by omega), cl_nI (show n < 2 ^ 31 by omega)])
  · skip
    refine w_iconst 21 dX11_cut_20 rfl (v := (-1)) rfl ?_
    refine wr_i dX11_cut_21 rfl ?_
    exact kq (h _ (hC.ref _) (by dsimp only; rw [upd2_at])) (by unfold rCut; rw [if_neg (of_decide_eq_true c17)])

set_option maxRecDepth 4000 in
theorem c_X11_holding {K : Option Value → AH → Prop} {A : AH} {w : WT} {s : Nat → Nat} (hC : CI w s A) {n : Int32} (h : ∀ A', Qk A A' → A'.1 0 8 = nI (tY (okW1 w) n) → K (some (.int (rHolding w s n))) A') : Ct yX11_holding mX11_holding 5 dC gC [.ref 0, .int n] A K := by
  refine Ct.of [some (.ref 0), some (.int n)] rfl rfl rfl (Nat.le_of_ble_eq_true rfl) ?_
  refine w_aload_n 1 dX11_holding_0 rfl rfl ?_
  refine w_aload_n 2 dX11_holding_1 rfl rfl ?_
  refine w_inv0 5 dX11_holding_2 rfl mlX11_157 rfl rfl (d' := 2) (by decide) (Nat.le_of_ble_eq_true rfl) (c_X11_needWeb hC ?_)
  refine w_iload_n 6 dX11_holding_5 rfl rfl ?_
  refine w_invs1 9 dX11_holding_6 rfl slX11_154 (d' := 1) (by decide) (Nat.le_of_ble_eq_true rfl) (c_X11_needYears ?_)
  refine w_invs2 12 dX11_holding_9 rfl slX11_126 (d' := 0) (by decide) (Nat.le_of_ble_eq_true rfl) (c_X11_firstOfN (Nat.lt_of_le_of_lt (t1_le _) (by decide)) ?_)
  rw [tY_first]
  refine w_inv1 15 dX11_holding_12 rfl mlX11_87 rfl rfl (d' := 0) (by decide) (Nat.le_of_ble_eq_true rfl) (c_X11_refused (Nat.lt_of_le_of_lt (tY_le _ _) (by decide)) ?_)
  refine w_ifeqB 20 18 dX11_holding_15 rfl rfl (fun c15 => ?_) (fun c15 => ?_)
  · skip
    have hz : tY (okW1 w) n = 0 := by simpa using c15
    have hC1 := hC.off (hC.ref (nI (tY (okW1 w) n)))
    obtain ⟨k1, k2⟩ := tY_0 hz
    have hw7 := hC.2.1.2.2.1.1
    obtain ⟨n, rfl, hn⟩ := tI_of k2
    refine w_aload_n 21 dX11_holding_20 rfl rfl ?_
    refine w_iload_n 22 dX11_holding_21 rfl rfl ?_
    refine w_inv1 25 dX11_holding_22 rfl mlX11_145 rfl rfl (d' := 4) (by decide) (Nat.le_of_ble_eq_true rfl) (c_X11_goBehind hC1 hn (fun A2 hR hQ => ?_))
    refine w_aload_n 26 dX11_holding_25 rfl rfl ?_
    refine w_getr 29 dX11_holding_26 rfl faX11_40 rfl rfl rfl (r := .ref 48) rfl ?_
    refine w_inv0 32 dX11_holding_29 rfl mlX11_161 rfl rfl (d' := 0) (by decide) (Nat.le_of_ble_eq_true rfl) (c_X0_held hR.2.2.1 hR.2.2.2.1 ?_)
    refine wr_i dX11_holding_32 rfl ?_
    exact kq (h A2 (hC.fin hQ).1 (hC.fin hQ).2) (by unfold rHolding; rw [if_pos hz, cl_nI (show n < 2 ^ 31 by omega)]; rfl)
  · skip
    refine w_iconst 19 dX11_holding_18 rfl (v := (-1)) rfl ?_
    refine wr_i dX11_holding_19 rfl ?_
    exact kq (h _ (hC.ref _) (by dsimp only; rw [upd2_at])) (by unfold rHolding; rw [if_neg (of_decide_eq_true c15)])

set_option maxRecDepth 4000 in
theorem c_X11_parts {K : Option Value → AH → Prop} {A : AH} {w : WT} {s : Nat → Nat} (hC : CI w s A) {n : Int32} (h : ∀ A', Qk A A' → A'.1 0 8 = nI (tY (okW1 w) n) → K (some (.int (rParts w s n))) A') : Ct yX11_parts mX11_parts 5 dC gC [.ref 0, .int n] A K := by
  refine Ct.of [some (.ref 0), some (.int n)] rfl rfl rfl (Nat.le_of_ble_eq_true rfl) ?_
  refine w_aload_n 1 dX11_parts_0 rfl rfl ?_
  refine w_aload_n 2 dX11_parts_1 rfl rfl ?_
  refine w_inv0 5 dX11_parts_2 rfl mlX11_157 rfl rfl (d' := 2) (by decide) (Nat.le_of_ble_eq_true rfl) (c_X11_needWeb hC ?_)
  refine w_iload_n 6 dX11_parts_5 rfl rfl ?_
  refine w_invs1 9 dX11_parts_6 rfl slX11_154 (d' := 1) (by decide) (Nat.le_of_ble_eq_true rfl) (c_X11_needYears ?_)
  refine w_invs2 12 dX11_parts_9 rfl slX11_126 (d' := 0) (by decide) (Nat.le_of_ble_eq_true rfl) (c_X11_firstOfN (Nat.lt_of_le_of_lt (t1_le _) (by decide)) ?_)
  rw [tY_first]
  refine w_inv1 15 dX11_parts_12 rfl mlX11_87 rfl rfl (d' := 0) (by decide) (Nat.le_of_ble_eq_true rfl) (c_X11_refused (Nat.lt_of_le_of_lt (tY_le _ _) (by decide)) ?_)
  refine w_ifeqB 20 18 dX11_parts_15 rfl rfl (fun c15 => ?_) (fun c15 => ?_)
  · skip
    have hz : tY (okW1 w) n = 0 := by simpa using c15
    have hC1 := hC.off (hC.ref (nI (tY (okW1 w) n)))
    obtain ⟨k1, k2⟩ := tY_0 hz
    have hw7 := hC.2.1.2.2.1.1
    obtain ⟨n, rfl, hn⟩ := tI_of k2
    refine w_aload_n 21 dX11_parts_20 rfl rfl ?_
    refine w_iload_n 22 dX11_parts_21 rfl rfl ?_
    refine w_inv1 25 dX11_parts_22 rfl mlX11_145 rfl rfl (d' := 4) (by decide) (Nat.le_of_ble_eq_true rfl) (c_X11_goBehind hC1 hn (fun A2 hR hQ => ?_))
    refine w_aload_n 26 dX11_parts_25 rfl rfl ?_
    refine w_getr 29 dX11_parts_26 rfl faX11_40 rfl rfl rfl (r := .ref 48) rfl ?_
    refine w_aload_n 30 dX11_parts_29 rfl rfl ?_
    refine w_getr 33 dX11_parts_30 rfl faX11_40 rfl rfl rfl (r := .ref 48) rfl ?_
    refine w_inv0 36 dX11_parts_33 rfl mlX11_161 rfl rfl (d' := 0) (by decide) (Nat.le_of_ble_eq_true rfl) (c_X0_held hR.2.2.1 hR.2.2.2.1 ?_)
    refine w_inv1 39 dX11_parts_36 rfl mlX11_190 rfl rfl (d' := 3) (by decide) (Nat.le_of_ble_eq_true rfl) (c_X0_pieces hR (heldM_lt _) ?_)
    refine wr_i dX11_parts_39 rfl ?_
    exact kq (h A2 (hC.fin hQ).1 (hC.fin hQ).2) (by unfold rParts; rw [if_pos hz, cl_nI (show n < 2 ^ 31 by omega)]; rfl)
  · skip
    refine w_iconst 19 dX11_parts_18 rfl (v := (-1)) rfl ?_
    refine wr_i dX11_parts_19 rfl ?_
    exact kq (h _ (hC.ref _) (by dsimp only; rw [upd2_at])) (by unfold rParts; rw [if_neg (of_decide_eq_true c15)])

theorem first2 (x y : Bool) (n : Int32) : (if (if t1 x = 0 then t1 y else t1 x) = 0 then tI n else (if t1 x = 0 then t1 y else t1 x)) = tY (x && y) n := by cases x <;> cases y <;> simp [t1, tY]
theorem f2_le (x y : Bool) : (if t1 x = 0 then t1 y else t1 x) ≤ 1 := by have := t1_le x; have := t1_le y; split <;> omega
set_option maxRecDepth 4000 in
theorem c_X11_apart {K : Option Value → AH → Prop} {A : AH} {w : WT} {s : Nat → Nat} (hC : CI w s A) {a b n : Int32} (h : ∀ A', Qk A A' → A'.1 0 8 = nI (tY (okR (w.1 1) a && okR (w.1 1) b) n) → K (some (.int (rApart w s a b n))) A') : Ct yX11_apart mX11_apart 5 dC gC [.ref 0, .int a, .int b, .int n] A K := by
  refine Ct.of [some (.ref 0), some (.int a), some (.int b), some (.int n)] rfl rfl rfl (Nat.le_of_ble_eq_true rfl) ?_
  refine w_aload_n 1 dX11_apart_0 rfl rfl ?_
  refine w_aload_n 2 dX11_apart_1 rfl rfl ?_
  refine w_iload_n 3 dX11_apart_2 rfl rfl ?_
  refine w_inv1 6 dX11_apart_3 rfl mlX11_142 rfl rfl (d' := 3) (by decide) (Nat.le_of_ble_eq_true rfl) (c_X11_needNail hC ?_)
  refine w_aload_n 7 dX11_apart_6 rfl rfl ?_
  refine w_iload_n 8 dX11_apart_7 rfl rfl ?_
  refine w_inv1 11 dX11_apart_8 rfl mlX11_142 rfl rfl (d' := 3) (by decide) (Nat.le_of_ble_eq_true rfl) (c_X11_needNail hC ?_)
  refine w_invs2 14 dX11_apart_11 rfl slX11_126 (d' := 0) (by decide) (Nat.le_of_ble_eq_true rfl) (c_X11_firstOfN (Nat.lt_of_le_of_lt (t1_le _) (by decide)) ?_)
  refine w_iload_n 15 dX11_apart_14 rfl rfl ?_
  refine w_invs1 18 dX11_apart_15 rfl slX11_154 (d' := 1) (by decide) (Nat.le_of_ble_eq_true rfl) (c_X11_needYears ?_)
  refine w_invs2 21 dX11_apart_18 rfl slX11_126 (d' := 0) (by decide) (Nat.le_of_ble_eq_true rfl) (c_X11_firstOfN (Nat.lt_of_le_of_lt (f2_le _ _) (by decide)) ?_)
  rw [first2]
  refine w_inv1 24 dX11_apart_21 rfl mlX11_87 rfl rfl (d' := 0) (by decide) (Nat.le_of_ble_eq_true rfl) (c_X11_refused (Nat.lt_of_le_of_lt (tY_le _ _) (by decide)) ?_)
  refine w_ifeqB 29 27 dX11_apart_24 rfl rfl (fun c24 => ?_) (fun c24 => ?_)
  · skip
    have hz : tY (okR (w.1 1) a && okR (w.1 1) b) n = 0 := by simpa using c24
    have hC1 := hC.off (hC.ref (nI (tY (okR (w.1 1) a && okR (w.1 1) b) n)))
    obtain ⟨k1, k2⟩ := tY_0 hz
    have hw7 := hC.2.1.2.2.1.1
    rw [Bool.and_eq_true] at k1
    obtain ⟨a, rfl, ha⟩ := okR_of k1.1 (by omega)
    obtain ⟨b, rfl, hb⟩ := okR_of k1.2 (by omega)
    obtain ⟨n, rfl, hn⟩ := tI_of k2
    refine w_aload_n 30 dX11_apart_29 rfl rfl ?_
    refine w_iload_n 31 dX11_apart_30 rfl rfl ?_
    refine w_inv1 34 dX11_apart_31 rfl mlX11_145 rfl rfl (d' := 4) (by decide) (Nat.le_of_ble_eq_true rfl) (c_X11_goBehind hC1 hn (fun A2 hR hQ => ?_))
    refine w_aload_n 35 dX11_apart_34 rfl rfl ?_
    refine w_getr 38 dX11_apart_35 rfl faX11_40 rfl rfl rfl (r := .ref 48) rfl ?_
    refine w_iload_n 39 dX11_apart_38 rfl rfl ?_
    refine w_iload_n 40 dX11_apart_39 rfl rfl ?_
    refine w_inv2 43 dX11_apart_40 rfl mlX11_187 rfl rfl (d' := 2) (by decide) (Nat.le_of_ble_eq_true rfl) (c_X0_steps hR (by omega) (by omega) ?_)
    refine wr_i dX11_apart_43 rfl ?_
    exact kq (h A2 (hC.fin hQ).1 (hC.fin hQ).2) (by unfold rApart; rw [if_pos hz, cl_nI (show a < 2 ^ 31 by omega), cl_nI (show b < 2 ^ 31 by omega), cl_nI (show n < 2 ^ 31 by omega)]; rfl)
  · skip
    refine w_iconst 28 dX11_apart_27 rfl (v := (-1)) rfl ?_
    refine wr_i dX11_apart_28 rfl ?_
    exact kq (h _ (hC.ref _) (by dsimp only; rw [upd2_at])) (by unfold rApart; rw [if_neg (of_decide_eq_true c24)])

set_option maxRecDepth 4000 in
theorem c_X11_strong {K : Option Value → AH → Prop} {A : AH} {w : WT} {s : Nat → Nat} (hC : CI w s A) {t n : Int32} (h : ∀ A', Qk A A' → A'.1 0 8 = nI (tY (okR (s 1) t) n) → K (some (.int (rStrong w s t n))) A') : Ct yX11_strong mX11_strong 3 dC gC [.ref 0, .int t, .int n] A K := by
  refine Ct.of [some (.ref 0), some (.int t), some (.int n)] rfl rfl rfl (Nat.le_of_ble_eq_true rfl) ?_
  refine w_aload_n 1 dX11_strong_0 rfl rfl ?_
  refine w_aload_n 2 dX11_strong_1 rfl rfl ?_
  refine w_iload_n 3 dX11_strong_2 rfl rfl ?_
  refine w_inv1 6 dX11_strong_3 rfl mlX11_123 rfl rfl (d' := 1) (by decide) (Nat.le_of_ble_eq_true rfl) (c_X11_needThread hC ?_)
  refine w_iload_n 7 dX11_strong_6 rfl rfl ?_
  refine w_invs1 10 dX11_strong_7 rfl slX11_154 (d' := 1) (by decide) (Nat.le_of_ble_eq_true rfl) (c_X11_needYears ?_)
  refine w_invs2 13 dX11_strong_10 rfl slX11_126 (d' := 0) (by decide) (Nat.le_of_ble_eq_true rfl) (c_X11_firstOfN (Nat.lt_of_le_of_lt (t1_le _) (by decide)) ?_)
  rw [tY_first]
  refine w_inv1 16 dX11_strong_13 rfl mlX11_87 rfl rfl (d' := 0) (by decide) (Nat.le_of_ble_eq_true rfl) (c_X11_refused (Nat.lt_of_le_of_lt (tY_le _ _) (by decide)) ?_)
  refine w_ifeqB 21 19 dX11_strong_16 rfl rfl (fun c16 => ?_) (fun c16 => ?_)
  · skip
    have hz : tY (okR (s 1) t) n = 0 := by simpa using c16
    have hC1 := hC.off (hC.ref (nI (tY (okR (s 1) t) n)))
    obtain ⟨k1, k2⟩ := tY_0 hz
    have hs8 := hC.2.2.2.1.2.1
    obtain ⟨t, rfl, ht⟩ := okR_of k1 (by omega)
    obtain ⟨n, rfl, hn⟩ := tI_of k2
    refine w_aload_n 22 dX11_strong_21 rfl rfl ?_
    refine w_getr 25 dX11_strong_22 rfl faX11_26 rfl rfl rfl (r := .ref 43) rfl ?_
    refine w_iload_n 26 dX11_strong_25 rfl rfl ?_
    refine w_iload_n 27 dX11_strong_26 rfl rfl ?_
    refine w_inv2 30 dX11_strong_27 rfl mlX11_130 rfl rfl (d' := 2) (by decide) (Nat.le_of_ble_eq_true rfl) (c_X7_strength hC1.2.2.1 hC1.2.2.2.1 (by omega) hn ?_)
    refine wr_i dX11_strong_30 rfl ?_
    exact kq (h _ (hC.ref _) (by dsimp only; rw [upd2_at])) (by unfold rStrong; rw [if_pos hz, cl_nI (show t < 2 ^ 31 by omega), cl_nI (show n < 2 ^ 31 by omega)])
  · skip
    refine w_iconst 20 dX11_strong_19 rfl (v := (-1)) rfl ?_
    refine wr_i dX11_strong_20 rfl ?_
    exact kq (h _ (hC.ref _) (by dsimp only; rw [upd2_at])) (by unfold rStrong; rw [if_neg (of_decide_eq_true c16)])

set_option maxRecDepth 4000 in
theorem a_X11_breaksIn {K : Option Value → AH → Prop} {A : AH} {s : Nat → Nat} {t : Nat} (hS : RepS s A) (hs : okS s) (ht : t < s 1) (h : K (some (.int (enc2 (fst1 (fun n => decide (stg s t n = 0)) 61)))) A) : WP mX11_breaksIn 3 dC gC 14 [some (.ref 0), some (.int (nI t)), none] [] A K := by
  have lp16 : ∀ (nf : Nat) (i : Nat), i ≤ 61 → fst1 (fun n => decide (stg s t n = 0)) i = none → 61 - i < nf → WP mX11_breaksIn 3 dC gC 16 [some (.ref 0), some (.int (nI t)), some (.int (nI i))] [] A K := by
    intro nf
    induction nf with
    | zero => intros; omega
    | succ nf ih =>
      intro i hi hf hms
      refine w_iload_n 17 dX11_breaksIn_16 rfl rfl ?_
      refine w_bipush 19 dX11_breaksIn_17 rfl (v := nI 60) rfl ?_
      refine w_icgtN 42 22 dX11_breaksIn_19 rfl rfl (by omega) (by omega) (fun c19 => ?_) (fun c19 => ?_)
      · skip
        refine w_bipush 44 dX11_breaksIn_42 rfl (v := (-2)) rfl ?_
        refine wr_i dX11_breaksIn_44 rfl ?_
        have e : i = 61 := by omega
        subst e
        exact kq h (by rw [hf]; rfl)
      · skip
        refine w_aload_n 23 dX11_breaksIn_22 rfl rfl ?_
        refine w_getr 26 dX11_breaksIn_23 rfl faX11_26 rfl rfl rfl (r := .ref 43) rfl ?_
        refine w_iload_n 27 dX11_breaksIn_26 rfl rfl ?_
        refine w_iload_n 28 dX11_breaksIn_27 rfl rfl ?_
        refine w_inv2 31 dX11_breaksIn_28 rfl mlX11_130 rfl rfl (d' := 2) (by decide) (Nat.le_of_ble_eq_true rfl) (c_X7_strength hS hs (by have := hs.2.1; omega) (by omega) ?_)
        refine w_ifneN 36 34 dX11_breaksIn_31 rfl rfl (by have := stg_le hs t i; omega) (fun c31 => ?_) (fun c31 => ?_)
        · skip
          refine w_inc2 39 dX11_breaksIn_36 rfl (by decide) rfl (v := nI (_ + 1)) (nI_1 _) ?_
          refine w_goto 16 dX11_breaksIn_39 rfl ?_
          exact ih (i + 1) (by omega) (by simp [fst1, hf, c31]) (by omega)
        · skip
          refine w_iload_n 35 dX11_breaksIn_34 rfl rfl ?_
          refine wr_i dX11_breaksIn_35 rfl ?_
          exact kq h (by rw [fst1_some hf (decide_eq_true c31) (by omega)]; rfl)
  refine w_iconst 15 dX11_breaksIn_14 rfl (v := nI 0) rfl ?_
  refine w_ist2 16 dX11_breaksIn_15 rfl (by decide) rfl ?_
  exact lp16 _ 0 (Nat.zero_le _) rfl (Nat.lt_succ_self _)

set_option maxRecDepth 4000 in
theorem c_X11_breaksIn {K : Option Value → AH → Prop} {A : AH} {w : WT} {s : Nat → Nat} (hC : CI w s A) {t : Int32} (h : ∀ A', Qk A A' → A'.1 0 8 = nI (t1 (okR (s 1) t)) → K (some (.int (rBreaksIn w s t))) A') : Ct yX11_breaksIn mX11_breaksIn 3 dC gC [.ref 0, .int t] A K := by
  refine Ct.of [some (.ref 0), some (.int t), none] rfl rfl rfl (Nat.le_of_ble_eq_true rfl) ?_
  refine w_aload_n 1 dX11_breaksIn_0 rfl rfl ?_
  refine w_aload_n 2 dX11_breaksIn_1 rfl rfl ?_
  refine w_iload_n 3 dX11_breaksIn_2 rfl rfl ?_
  refine w_inv1 6 dX11_breaksIn_3 rfl mlX11_123 rfl rfl (d' := 1) (by decide) (Nat.le_of_ble_eq_true rfl) (c_X11_needThread hC ?_)
  refine w_inv1 9 dX11_breaksIn_6 rfl mlX11_87 rfl rfl (d' := 0) (by decide) (Nat.le_of_ble_eq_true rfl) (c_X11_refused (Nat.lt_of_le_of_lt (t1_le _) (by decide)) ?_)
  refine w_ifeqB 14 12 dX11_breaksIn_9 rfl rfl (fun c9 => ?_) (fun c9 => ?_)
  · skip
    have hz : t1 (okR (s 1) t) = 0 := by simpa using c9
    have hC1 := hC.off (hC.ref (nI (t1 (okR (s 1) t))))
    have k1 := t1_0 hz
    have hs8 := hC.2.2.2.1.2.1
    obtain ⟨t, rfl, ht⟩ := okR_of k1 (by omega)
    exact a_X11_breaksIn hC1.2.2.1 hC1.2.2.2.1 ht (kq (h _ (hC.ref _) (by dsimp only; rw [upd2_at])) (by unfold rBreaksIn; rw [if_pos hz, cl_nI (show t < 2 ^ 31 by omega)]))
  · skip
    refine w_iconst 13 dX11_breaksIn_12 rfl (v := (-1)) rfl ?_
    refine wr_i dX11_breaksIn_13 rfl ?_
    exact kq (h _ (hC.ref _) (by dsimp only; rw [upd2_at])) (by unfold rBreaksIn; rw [if_neg (of_decide_eq_true c9)])
