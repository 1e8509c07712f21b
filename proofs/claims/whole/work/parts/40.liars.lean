/-! ===== who lied ===== -/
def LN (w : WT) : Nat := if 0 < w.1 1 then 2 ^ w.1 6 else 0
def LR (w : WT) (A : AH) : Prop := RepL (w.1 6) (LN w) (wgt w) A
theorem LR.off {w : WT} {A A' : AH} (h : LR w A) (q : Qk A A') : LR w A' := by
  obtain ⟨h1, h2, h3, h4, h5, h6⟩ := h
  refine ⟨by rw [(q.1 56 (by decide)).1]; exact h1, by rw [(q.1 56 (by decide)).1]; exact h2, h3, h4, h5, fun s hs => ?_⟩
  rw [(q.1 57 (by decide)).2]; exact h6 s hs
theorem sumL {f g : Nat → Nat} {n : Nat} (hn : n ≤ 32) (hf : ∀ s, f s ≤ 1000000000000) (hg : ∀ s, g s ≤ f s) : sumTo g n < 2 ^ 63 := by
  have : sumTo g n ≤ 1000000000000 * n := sumTo_le (fun i _ => Nat.le_trans (hg i) (hf i))
  omega
def fitN (w : WT) : Nat := cntTo (fun s => decide (0 < wgt w s)) (LN w)
theorem b2i_iff {a b : Bool} : b2i a = b2i b ↔ a = b := by cases a <;> cases b <;> simp [b2i] <;> decide
def rFits (w : WT) : Int32 := if t1 (okW1 w) = 0 then nI (fitN w) else -1
def ixF (p : Nat → Bool) (i : Nat) : Nat → Nat
  | 0 => 0
  | n + 1 => if (p n && decide (cntTo p n = i)) = true then n else ixF p i n
theorem ixF_at {p : Nat → Bool} {i s : Nat} (hp : p s = true) (hc : cntTo p s = i) : ∀ {n : Nat}, s < n → ixF p i n = s
  | 0, h => absurd h (Nat.not_lt_zero s)
  | n + 1, h => by
    by_cases e : n = s
    · subst e; simp [ixF, hp, hc]
    · have h1 : s < n := by omega
      have h2 := cntTo_lt h1 hp
      have h3 : ¬ (p n && decide (cntTo p n = i)) = true := by simp; intro _; omega
      rw [ixF, if_neg h3]
      exact ixF_at hp hc h1
def tFit (w : WT) (i : Int32) : Nat := t1 (okW1 w && okR (fitN w) i)
def rFitAt (w : WT) (i : Int32) : Int32 := if tFit w i = 0 then nI (ixF (fun s => decide (0 < wgt w s)) (cl i) (LN w)) else -1
def sh (b : Bool) (p q : Nat) : Int64 := lN (if b then lwr p q else upr p q)
def rOdds (w : WT) (k : Int32) (b : Bool) : Int64 := if t1 (okR (w.1 6) k) = 0 then sh b (sumTo (fun s => if s.testBit (cl k) then wgt w s else 0) (LN w)) (sumTo (wgt w) (LN w)) else -1
def rLikeliest (w : WT) : Int32 := if t1 (okW1 w) = 0 then enc2 (hv (wgt w) (LN w)).1 else -1
def rTest (w : WT) : Int32 := if t1 (okW1 w) = 0 then enc2 (bestV (wgt w) (w.1 6) (LN w)) else -1
def rTestLeaves (w : WT) : Int32 := if t1 (okW1 w) = 0 then enc2 ((bestV (wgt w) (w.1 6) (LN w)).map (leftF (wgt w) (LN w))) else -1
def tBr (s : Nat → Nat) (t u : Int32) : Nat := t1 (okR (s 1) t && okR (s 1) u)
def rBrown (w : WT) (s : Nat → Nat) (t u : Int32) (b : Bool) : Int64 := if tBr s t u = 0 then sh b (sumTo (fun x => if (liedB w (cl t) x || liedB w (cl u) x) then wgt w x else 0) (LN w)) (sumTo (wgt w) (LN w)) else -1
def judB (w : WT) (k : Nat) : Bool := (decide (tbz w 2 (w.2 7 k 0) 0 = 3) || decide (tbz w 2 (w.2 7 k 1) 0 = 3)) != decide (w.2 7 k 2 = 1)
def rJudge (w : WT) : Int32 := if t1 (okW1 w) = 0 then enc2 (fst1 (judB w) (w.1 7)) else -1
theorem Qi.set {A : AH} (h : Z0 A) (x y : Int64) : Qi A (A.1, upd2 (upd2 A.2 59 0 x) 59 1 y) := by
  refine Qi.sub h (l := [59]) (fun n hn => ⟨rfl, ?_⟩) (by decide) (by decide) (by decide)
  have e : n ≠ 59 := fun e => hn (by simp [e])
  funext c
  dsimp only
  rw [upd2_ne e, upd2_ne e]
set_option maxRecDepth 4000 in
theorem c_X11_fits {K : Option Value → AH → Prop} {A : AH} {w : WT} {s : Nat → Nat} (hC : CI w s A) (hL : LR w A) (h : ∀ A', Qk A A' → A'.1 0 8 = nI (t1 (okW1 w)) → K (some (.int (rFits w))) A') : Ct yX11_fits mX11_fits 3 dC gC [.ref 0] A K := by
  refine Ct.of [some (.ref 0)] rfl rfl rfl (Nat.le_of_ble_eq_true rfl) ?_
  refine w_aload_n 1 dX11_fits_0 rfl rfl ?_
  refine w_aload_n 2 dX11_fits_1 rfl rfl ?_
  refine w_inv0 5 dX11_fits_2 rfl mlX11_157 rfl rfl (d' := 2) (by decide) (Nat.le_of_ble_eq_true rfl) (c_X11_needWeb hC ?_)
  refine w_inv1 8 dX11_fits_5 rfl mlX11_87 rfl rfl (d' := 0) (by decide) (Nat.le_of_ble_eq_true rfl) (c_X11_refused (Nat.lt_of_le_of_lt (t1_le _) (by decide)) ?_)
  refine w_ifeqB 13 11 dX11_fits_8 rfl rfl (fun c8 => ?_) (fun c8 => ?_)
  · skip
    have hz : t1 (okW1 w) = 0 := Decidable.not_not.mp (of_decide_eq_false c8)
    have hC1 := hC.off (hC.ref (nI (t1 (okW1 w))))
    have hL1 := hL.off (hC.ref (nI (t1 (okW1 w))))
    refine w_aload_n 14 dX11_fits_13 rfl rfl ?_
    refine w_getr 17 dX11_fits_14 rfl faX11_47 rfl rfl rfl (r := .ref 56) rfl ?_
    refine w_inv0 20 dX11_fits_17 rfl mlX11_232 rfl rfl (d' := 0) (by decide) (Nat.le_of_ble_eq_true rfl) (c_X2_fitting hL1 ?_)
    refine wr_i dX11_fits_20 rfl ?_
    exact kq (h _ (hC.ref _) (by dsimp only; rw [upd2_at])) (by unfold rFits; rw [if_pos hz]; rfl)
  · skip
    refine w_iconst 12 dX11_fits_11 rfl (v := (-1)) rfl ?_
    refine wr_i dX11_fits_12 rfl ?_
    exact kq (h _ (hC.ref _) (by dsimp only; rw [upd2_at])) (by unfold rFits; rw [if_neg (of_decide_eq_true c8)])

set_option maxRecDepth 4000 in
theorem c_X11_likeliest {K : Option Value → AH → Prop} {A : AH} {w : WT} {s : Nat → Nat} (hC : CI w s A) (hL : LR w A) (h : ∀ A', Qk A A' → A'.1 0 8 = nI (t1 (okW1 w)) → K (some (.int (rLikeliest w))) A') : Ct yX11_likeliest mX11_likeliest 3 dC gC [.ref 0] A K := by
  refine Ct.of [some (.ref 0)] rfl rfl rfl (Nat.le_of_ble_eq_true rfl) ?_
  refine w_aload_n 1 dX11_likeliest_0 rfl rfl ?_
  refine w_aload_n 2 dX11_likeliest_1 rfl rfl ?_
  refine w_inv0 5 dX11_likeliest_2 rfl mlX11_157 rfl rfl (d' := 2) (by decide) (Nat.le_of_ble_eq_true rfl) (c_X11_needWeb hC ?_)
  refine w_inv1 8 dX11_likeliest_5 rfl mlX11_87 rfl rfl (d' := 0) (by decide) (Nat.le_of_ble_eq_true rfl) (c_X11_refused (Nat.lt_of_le_of_lt (t1_le _) (by decide)) ?_)
  refine w_ifeqB 13 11 dX11_likeliest_8 rfl rfl (fun c8 => ?_) (fun c8 => ?_)
  · skip
    have hz : t1 (okW1 w) = 0 := Decidable.not_not.mp (of_decide_eq_false c8)
    have hC1 := hC.off (hC.ref (nI (t1 (okW1 w))))
    have hL1 := hL.off (hC.ref (nI (t1 (okW1 w))))
    refine w_aload_n 14 dX11_likeliest_13 rfl rfl ?_
    refine w_getr 17 dX11_likeliest_14 rfl faX11_47 rfl rfl rfl (r := .ref 56) rfl ?_
    refine w_inv0 20 dX11_likeliest_17 rfl mlX11_258 rfl rfl (d' := 0) (by decide) (Nat.le_of_ble_eq_true rfl) (c_X2_heaviest hL1 ?_)
    refine wr_i dX11_likeliest_20 rfl ?_
    exact kq (h _ (hC.ref _) (by dsimp only; rw [upd2_at])) (by unfold rLikeliest; rw [if_pos hz])
  · skip
    refine w_iconst 12 dX11_likeliest_11 rfl (v := (-1)) rfl ?_
    refine wr_i dX11_likeliest_12 rfl ?_
    exact kq (h _ (hC.ref _) (by dsimp only; rw [upd2_at])) (by unfold rLikeliest; rw [if_neg (of_decide_eq_true c8)])

set_option maxRecDepth 4000 in
theorem c_X11_test {K : Option Value → AH → Prop} {A : AH} {w : WT} {s : Nat → Nat} (hC : CI w s A) (hL : LR w A) (h : ∀ A', Qk A A' → A'.1 0 8 = nI (t1 (okW1 w)) → K (some (.int (rTest w))) A') : Ct yX11_test mX11_test 3 dC gC [.ref 0] A K := by
  refine Ct.of [some (.ref 0)] rfl rfl rfl (Nat.le_of_ble_eq_true rfl) ?_
  refine w_aload_n 1 dX11_test_0 rfl rfl ?_
  refine w_aload_n 2 dX11_test_1 rfl rfl ?_
  refine w_inv0 5 dX11_test_2 rfl mlX11_157 rfl rfl (d' := 2) (by decide) (Nat.le_of_ble_eq_true rfl) (c_X11_needWeb hC ?_)
  refine w_inv1 8 dX11_test_5 rfl mlX11_87 rfl rfl (d' := 0) (by decide) (Nat.le_of_ble_eq_true rfl) (c_X11_refused (Nat.lt_of_le_of_lt (t1_le _) (by decide)) ?_)
  refine w_ifeqB 13 11 dX11_test_8 rfl rfl (fun c8 => ?_) (fun c8 => ?_)
  · skip
    have hz : t1 (okW1 w) = 0 := Decidable.not_not.mp (of_decide_eq_false c8)
    have hC1 := hC.off (hC.ref (nI (t1 (okW1 w))))
    have hL1 := hL.off (hC.ref (nI (t1 (okW1 w))))
    refine w_aload_n 14 dX11_test_13 rfl rfl ?_
    refine w_getr 17 dX11_test_14 rfl faX11_47 rfl rfl rfl (r := .ref 56) rfl ?_
    refine w_inv0 20 dX11_test_17 rfl mlX11_261 rfl rfl (d' := 2) (by decide) (Nat.le_of_ble_eq_true rfl) (c_X2_bestAsked hL1 ?_)
    refine wr_i dX11_test_20 rfl ?_
    exact kq (h _ (hC.ref _) (by dsimp only; rw [upd2_at])) (by unfold rTest; rw [if_pos hz])
  · skip
    refine w_iconst 12 dX11_test_11 rfl (v := (-1)) rfl ?_
    refine wr_i dX11_test_12 rfl ?_
    exact kq (h _ (hC.ref _) (by dsimp only; rw [upd2_at])) (by unfold rTest; rw [if_neg (of_decide_eq_true c8)])

set_option maxRecDepth 4000 in
theorem c_X11_odds {K : Option Value → AH → Prop} {A : AH} {w : WT} {s : Nat → Nat} (hC : CI w s A) {k : Int32} {b : Bool} (hL : LR w A) (h : ∀ A', Qk A A' → A'.1 0 8 = nI (t1 (okR (w.1 6) k)) → K (some (.long (rOdds w k b))) A') : Ct yX11_odds mX11_odds 3 dC gC [.ref 0, .int k, .int (b2i b)] A K := by
  refine Ct.of [some (.ref 0), some (.int k), some (.int (b2i b))] rfl rfl rfl (Nat.le_of_ble_eq_true rfl) ?_
  refine w_aload_n 1 dX11_odds_0 rfl rfl ?_
  refine w_aload_n 2 dX11_odds_1 rfl rfl ?_
  refine w_bipush 4 dX11_odds_2 rfl (v := nI 6) rfl ?_
  refine w_iload_n 5 dX11_odds_4 rfl rfl ?_
  refine w_inv2 8 dX11_odds_5 rfl mlX11_238 rfl rfl (d' := 2) (by decide) (Nat.le_of_ble_eq_true rfl) (c_X11_needRow hC (by decide) ?_)
  refine w_inv1 11 dX11_odds_8 rfl mlX11_87 rfl rfl (d' := 0) (by decide) (Nat.le_of_ble_eq_true rfl) (c_X11_refused (Nat.lt_of_le_of_lt (t1_le _) (by decide)) ?_)
  refine w_ifeqB 18 14 dX11_odds_11 rfl rfl (fun c11 => ?_) (fun c11 => ?_)
  · skip
    have hz : t1 (okR (w.1 6) k) = 0 := Decidable.not_not.mp (of_decide_eq_false c11)
    have hC1 := hC.off (hC.ref (nI (t1 (okR (w.1 6) k))))
    have k1 := t1_0 hz
    have hL1 := hL.off (hC.ref (nI (t1 (okR (w.1 6) k))))
    have h5 := hL.2.2.1
    obtain ⟨k, rfl, hk⟩ := okR_of k1 (by omega)
    have h62 := sumL hL.2.2.2.1 hL.2.2.2.2.1 (g := wgt w) (fun _ => Nat.le_refl _)
    have h61 := sumL hL.2.2.2.1 hL.2.2.2.2.1 (g := fun s => if s.testBit k then wgt w s else 0) (fun _ => by split <;> omega)
    refine w_aload_n 19 dX11_odds_18 rfl rfl ?_
    refine w_getr 22 dX11_odds_19 rfl faX11_61 rfl rfl rfl (r := .ref 59) rfl ?_
    refine w_aload_n 23 dX11_odds_22 rfl rfl ?_
    refine w_getr 26 dX11_odds_23 rfl faX11_47 rfl rfl rfl (r := .ref 56) rfl ?_
    refine w_iload_n 27 dX11_odds_26 rfl rfl ?_
    refine w_inv1 30 dX11_odds_27 rfl mlX11_243 rfl rfl (d' := 1) (by decide) (Nat.le_of_ble_eq_true rfl) (c_X2_weightWith hL1 (by omega) ?_)
    refine w_aload_n 31 dX11_odds_30 rfl rfl ?_
    refine w_getr 34 dX11_odds_31 rfl faX11_47 rfl rfl rfl (r := .ref 56) rfl ?_
    refine w_inv0 37 dX11_odds_34 rfl mlX11_247 rfl rfl (d' := 0) (by decide) (Nat.le_of_ble_eq_true rfl) (c_X2_whole hL1 ?_)
    refine w_inv2 40 dX11_odds_37 rfl mlX11_251 rfl rfl (d' := 1) (by decide) (Nat.le_of_ble_eq_true rfl) (c_X6_set h61 h62 ?_)
    refine w_aload_n 41 dX11_odds_40 rfl rfl ?_
    refine w_getr 44 dX11_odds_41 rfl faX11_61 rfl rfl rfl (r := .ref 59) rfl ?_
    refine w_iload_n 45 dX11_odds_44 rfl rfl ?_
    refine w_inv1 48 dX11_odds_45 rfl mlX11_255 rfl rfl (d' := 0) (by decide) (Nat.le_of_ble_eq_true rfl) (c_X6_part (by dsimp only; rw [upd2_off (by decide), upd2_at]) (by dsimp only; rw [upd2_at]) ?_)
    refine wr_l dX11_odds_48 rfl ?_
    have hQ := fun x y => Qi.set hC1.2.2.2.2 x y
    exact kl (h _ (hC.fin (hQ _ _)).1 (hC.fin (hQ _ _)).2) (by unfold rOdds; rw [if_pos hz, cl_nI (show k < 2 ^ 31 by omega)]; rfl)
  · skip
    refine w_ldc2 17 dX11_odds_14 rfl kcX11_241 ?_
    refine wr_l dX11_odds_17 rfl ?_
    exact kl (h _ (hC.ref _) (by dsimp only; rw [upd2_at])) (by unfold rOdds; rw [if_neg (of_decide_eq_true c11)])

set_option maxRecDepth 4000 in
theorem a_X11_fitAt {K : Option Value → AH → Prop} {A : AH} {w : WT} {s : Nat → Nat} {i : Int32} (hC : CI w s A) (hL : LR w A) (h : ∀ A', Qk A A' → A'.1 0 8 = nI (tFit w i) → K (some (.int (rFitAt w i))) A') : WP mX11_fitAt 3 dC gC 25 [some (.ref 0), some (.int i)] [.int (nI (t1 (okR (fitN w) i))), .int (nI (t1 (okW1 w))), .ref 0] A K := by
  refine w_invs2 28 dX11_fitAt_25 rfl slX11_126 (d' := 0) (by decide) (Nat.le_of_ble_eq_true rfl) (c_X11_firstOfN (Nat.lt_of_le_of_lt (t1_le _) (by decide)) ?_)
  rw [t1_and]
  rw [show t1 (okW1 w && okR (fitN w) i) = tFit w i from rfl]
  refine w_inv1 31 dX11_fitAt_28 rfl mlX11_87 rfl rfl (d' := 0) (by decide) (Nat.le_of_ble_eq_true rfl) (c_X11_refused (Nat.lt_of_le_of_lt (t1_le _) (by decide)) ?_)
  refine w_ifeqB 36 34 dX11_fitAt_31 rfl rfl (fun c31 => ?_) (fun c31 => ?_)
  · skip
    have hz : tFit w i = 0 := Decidable.not_not.mp (of_decide_eq_false c31)
    have hL1 := hL.off (hC.ref (nI (tFit w i)))
    have k1 := t1_0 hz
    rw [Bool.and_eq_true] at k1
    have hfl : fitN w ≤ 32 := Nat.le_trans (cntTo_le _ _) hL.2.2.2.1
    obtain ⟨i, rfl, hi⟩ := okR_of k1.2 (by omega)
    refine w_aload_n 37 dX11_fitAt_36 rfl rfl ?_
    refine w_getr 40 dX11_fitAt_37 rfl faX11_47 rfl rfl rfl (r := .ref 56) rfl ?_
    refine w_iload_n 41 dX11_fitAt_40 rfl rfl ?_
    refine w_inv1 44 dX11_fitAt_41 rfl mlX11_235 rfl rfl (d' := 0) (by decide) (Nat.le_of_ble_eq_true rfl) (c_X2_fittingAt hL1 hi (fun x h1 h2 h3 => ?_))
    refine wr_i dX11_fitAt_44 rfl ?_
    exact kq (h _ (hC.ref _) (by dsimp only; rw [upd2_at])) (by unfold rFitAt; rw [if_pos hz, cl_nI (show i < 2 ^ 31 by omega), ixF_at (p := fun s => decide (0 < wgt w s)) (decide_eq_true h2) h3 h1])
  · skip
    refine w_iconst 35 dX11_fitAt_34 rfl (v := (-1)) rfl ?_
    refine wr_i dX11_fitAt_35 rfl ?_
    exact kq (h _ (hC.ref _) (by dsimp only; rw [upd2_at])) (by unfold rFitAt; rw [if_neg (of_decide_eq_true c31)])

set_option maxRecDepth 4000 in
theorem c_X11_fitAt {K : Option Value → AH → Prop} {A : AH} {w : WT} {s : Nat → Nat} {i : Int32} (hC : CI w s A) (hL : LR w A) (h : ∀ A', Qk A A' → A'.1 0 8 = nI (tFit w i) → K (some (.int (rFitAt w i))) A') : Ct yX11_fitAt mX11_fitAt 3 dC gC [.ref 0, .int i] A K := by
  refine Ct.of [some (.ref 0), some (.int i)] rfl rfl rfl (Nat.le_of_ble_eq_true rfl) ?_
  refine w_aload_n 1 dX11_fitAt_0 rfl rfl ?_
  refine w_aload_n 2 dX11_fitAt_1 rfl rfl ?_
  refine w_inv0 5 dX11_fitAt_2 rfl mlX11_157 rfl rfl (d' := 2) (by decide) (Nat.le_of_ble_eq_true rfl) (c_X11_needWeb hC ?_)
  refine w_iload_n 6 dX11_fitAt_5 rfl rfl ?_
  refine w_iflt 24 9 dX11_fitAt_6 rfl rfl (fun c6 => ?_) (fun c6 => ?_)
  · skip
    refine w_iconst 25 dX11_fitAt_24 rfl (v := nI 1) rfl ?_
    refine wp_eq rfl ?_ rfl (a_X11_fitAt hC hL h)
    rw [show t1 (okR (fitN w) i) = 1 from by unfold t1 okR; rw [if_neg]; intro q; exact absurd c6 (Int32.not_lt.mpr (of_decide_eq_true q).1)]
    rfl
  · skip
    refine w_iload_n 10 dX11_fitAt_9 rfl rfl ?_
    refine w_aload_n 11 dX11_fitAt_10 rfl rfl ?_
    refine w_getr 14 dX11_fitAt_11 rfl faX11_47 rfl rfl rfl (r := .ref 56) rfl ?_
    refine w_inv0 17 dX11_fitAt_14 rfl mlX11_232 rfl rfl (d' := 0) (by decide) (Nat.le_of_ble_eq_true rfl) (c_X2_fitting hL ?_)
    refine w_icge 24 20 dX11_fitAt_17 rfl rfl (fun c17 => ?_) (fun c17 => ?_)
    · skip
      refine w_iconst 25 dX11_fitAt_24 rfl (v := nI 1) rfl ?_
      refine wp_eq rfl ?_ rfl (a_X11_fitAt hC hL h)
      rw [show t1 (okR (fitN w) i) = 1 from by unfold t1 okR; rw [if_neg]; intro q; exact absurd (of_decide_eq_true q).2 (Int32.not_lt.mpr c17)]
      rfl
    · skip
      refine w_iconst 21 dX11_fitAt_20 rfl (v := nI 0) rfl ?_
      refine w_goto 25 dX11_fitAt_21 rfl ?_
      refine wp_eq rfl ?_ rfl (a_X11_fitAt hC hL h)
      rw [show t1 (okR (fitN w) i) = 0 from by unfold t1 okR; rw [if_pos]; exact decide_eq_true ⟨Int32.not_lt.mp c6, Int32.not_le.mp c17⟩]
      rfl

set_option maxRecDepth 4000 in
theorem c_X11_testLeaves {K : Option Value → AH → Prop} {A : AH} {w : WT} {s : Nat → Nat} (hC : CI w s A) (hL : LR w A) (h : ∀ A', Qk A A' → A'.1 0 8 = nI (t1 (okW1 w)) → K (some (.int (rTestLeaves w))) A') : Ct yX11_testLeaves mX11_testLeaves 3 dC gC [.ref 0] A K := by
  refine Ct.of [some (.ref 0), none] rfl rfl rfl (Nat.le_of_ble_eq_true rfl) ?_
  refine w_aload_n 1 dX11_testLeaves_0 rfl rfl ?_
  refine w_aload_n 2 dX11_testLeaves_1 rfl rfl ?_
  refine w_inv0 5 dX11_testLeaves_2 rfl mlX11_157 rfl rfl (d' := 2) (by decide) (Nat.le_of_ble_eq_true rfl) (c_X11_needWeb hC ?_)
  refine w_inv1 8 dX11_testLeaves_5 rfl mlX11_87 rfl rfl (d' := 0) (by decide) (Nat.le_of_ble_eq_true rfl) (c_X11_refused (Nat.lt_of_le_of_lt (t1_le _) (by decide)) ?_)
  refine w_ifeqB 13 11 dX11_testLeaves_8 rfl rfl (fun c8 => ?_) (fun c8 => ?_)
  · skip
    have hz : t1 (okW1 w) = 0 := Decidable.not_not.mp (of_decide_eq_false c8)
    have hC1 := hC.off (hC.ref (nI (t1 (okW1 w))))
    have hL1 := hL.off (hC.ref (nI (t1 (okW1 w))))
    refine w_aload_n 14 dX11_testLeaves_13 rfl rfl ?_
    refine w_getr 17 dX11_testLeaves_14 rfl faX11_47 rfl rfl rfl (r := .ref 56) rfl ?_
    refine w_inv0 20 dX11_testLeaves_17 rfl mlX11_261 rfl rfl (d' := 2) (by decide) (Nat.le_of_ble_eq_true rfl) (c_X2_bestAsked hL1 ?_)
    refine w_ist1 21 dX11_testLeaves_20 rfl (by decide) rfl ?_
    refine w_iload_n 22 dX11_testLeaves_21 rfl rfl ?_
    refine w_bipush 24 dX11_testLeaves_22 rfl (v := (-2)) rfl ?_
    refine w_icne 32 27 dX11_testLeaves_24 rfl rfl (fun c24 => ?_) (fun c24 => ?_)
    · skip
      have hm : ∃ o, bestV (wgt w) (w.1 6) (LN w) = some o := by
        cases hm : bestV (wgt w) (w.1 6) (LN w) with
        | none => rw [hm] at c24; exact absurd rfl c24
        | some o => exact ⟨o, rfl⟩
      obtain ⟨o, hm⟩ := hm
      have ho : o < 32 := by
        have h5 := hL.2.2.1
        unfold bestV at hm
        split at hm
        · cases hm
        · have := lv1_lt hm; omega
      rw [hm]
      refine w_aload_n 33 dX11_testLeaves_32 rfl rfl ?_
      refine w_getr 36 dX11_testLeaves_33 rfl faX11_47 rfl rfl rfl (r := .ref 56) rfl ?_
      refine w_iload_n 37 dX11_testLeaves_36 rfl rfl ?_
      refine w_inv1 40 dX11_testLeaves_37 rfl mlX11_264 rfl rfl (d' := 1) (by decide) (Nat.le_of_ble_eq_true rfl) (c_X2_leftAtMost hL1 (by omega) ?_)
      refine wr_i dX11_testLeaves_40 rfl ?_
      exact kq (h _ (hC.ref _) (by dsimp only; rw [upd2_at])) (by unfold rTestLeaves; rw [if_pos hz]; rw [hm]; rfl)
    · skip
      have hm : bestV (wgt w) (w.1 6) (LN w) = none := (enc2_m2 (fun o hm => by
        have h5 := hL.2.2.1
        unfold bestV at hm
        split at hm
        · cases hm
        · have := lv1_lt hm; omega)).mp c24
      refine w_bipush 29 dX11_testLeaves_27 rfl (v := (-2)) rfl ?_
      refine w_goto 40 dX11_testLeaves_29 rfl ?_
      refine wr_i dX11_testLeaves_40 rfl ?_
      exact kq (h _ (hC.ref _) (by dsimp only; rw [upd2_at])) (by unfold rTestLeaves; rw [if_pos hz]; rw [hm]; rfl)
  · skip
    refine w_iconst 12 dX11_testLeaves_11 rfl (v := (-1)) rfl ?_
    refine wr_i dX11_testLeaves_12 rfl ?_
    exact kq (h _ (hC.ref _) (by dsimp only; rw [upd2_at])) (by unfold rTestLeaves; rw [if_neg (of_decide_eq_true c8)])

set_option maxRecDepth 4000 in
theorem c_X11_brown {K : Option Value → AH → Prop} {A : AH} {w : WT} {s : Nat → Nat} (hC : CI w s A) {t u : Int32} {b : Bool} (hL : LR w A) (h : ∀ A', Qk A A' → A'.1 0 8 = nI (tBr s t u) → K (some (.long (rBrown w s t u b))) A') : Ct yX11_brown mX11_brown 5 dC gC [.ref 0, .int t, .int u, .int (b2i b)] A K := by
  refine Ct.of [some (.ref 0), some (.int t), some (.int u), some (.int (b2i b))] rfl rfl rfl (Nat.le_of_ble_eq_true rfl) ?_
  refine w_aload_n 1 dX11_brown_0 rfl rfl ?_
  refine w_aload_n 2 dX11_brown_1 rfl rfl ?_
  refine w_iload_n 3 dX11_brown_2 rfl rfl ?_
  refine w_inv1 6 dX11_brown_3 rfl mlX11_123 rfl rfl (d' := 1) (by decide) (Nat.le_of_ble_eq_true rfl) (c_X11_needThread hC ?_)
  refine w_aload_n 7 dX11_brown_6 rfl rfl ?_
  refine w_iload_n 8 dX11_brown_7 rfl rfl ?_
  refine w_inv1 11 dX11_brown_8 rfl mlX11_123 rfl rfl (d' := 1) (by decide) (Nat.le_of_ble_eq_true rfl) (c_X11_needThread hC ?_)
  refine w_invs2 14 dX11_brown_11 rfl slX11_126 (d' := 0) (by decide) (Nat.le_of_ble_eq_true rfl) (c_X11_firstOfN (Nat.lt_of_le_of_lt (t1_le _) (by decide)) ?_)
  rw [t1_and]
  rw [show t1 (okR (s 1) t && okR (s 1) u) = tBr s t u from rfl]
  refine w_inv1 17 dX11_brown_14 rfl mlX11_87 rfl rfl (d' := 0) (by decide) (Nat.le_of_ble_eq_true rfl) (c_X11_refused (Nat.lt_of_le_of_lt (t1_le _) (by decide)) ?_)
  refine w_ifeqB 24 20 dX11_brown_17 rfl rfl (fun c17 => ?_) (fun c17 => ?_)
  · skip
    have hz : tBr s t u = 0 := Decidable.not_not.mp (of_decide_eq_false c17)
    have hC1 := hC.off (hC.ref (nI (tBr s t u)))
    have k1 := t1_0 hz
    rw [Bool.and_eq_true] at k1
    have hL1 := hL.off (hC.ref (nI (tBr s t u)))
    have hs8 := hC.2.2.2.1.2.1
    obtain ⟨t, rfl, ht⟩ := okR_of k1.1 (by omega)
    obtain ⟨u, rfl, hu⟩ := okR_of k1.2 (by omega)
    have h62 := sumL hL.2.2.2.1 hL.2.2.2.2.1 (g := wgt w) (fun _ => Nat.le_refl _)
    have h61 := sumL hL.2.2.2.1 hL.2.2.2.2.1 (g := fun x => if (liedB w t x || liedB w u x) then wgt w x else 0) (fun _ => by split <;> omega)
    refine w_aload_n 25 dX11_brown_24 rfl rfl ?_
    refine w_getr 28 dX11_brown_25 rfl faX11_61 rfl rfl rfl (r := .ref 59) rfl ?_
    refine w_aload_n 29 dX11_brown_28 rfl rfl ?_
    refine w_getr 32 dX11_brown_29 rfl faX11_47 rfl rfl rfl (r := .ref 56) rfl ?_
    refine w_aload_n 33 dX11_brown_32 rfl rfl ?_
    refine w_getr 36 dX11_brown_33 rfl faX11_19 rfl rfl rfl (r := .ref 26) rfl ?_
    refine w_iload_n 37 dX11_brown_36 rfl rfl ?_
    refine w_iload_n 38 dX11_brown_37 rfl rfl ?_
    refine w_inv3 41 dX11_brown_38 rfl mlX11_267 rfl rfl (d' := 4) (by decide) (Nat.le_of_ble_eq_true rfl) (c_X2_weightOfBrown hL1 hC1.1 hC.2.1.2.2.2.1 (by omega) (by omega) ?_)
    refine w_aload_n 42 dX11_brown_41 rfl rfl ?_
    refine w_getr 45 dX11_brown_42 rfl faX11_47 rfl rfl rfl (r := .ref 56) rfl ?_
    refine w_inv0 48 dX11_brown_45 rfl mlX11_247 rfl rfl (d' := 0) (by decide) (Nat.le_of_ble_eq_true rfl) (c_X2_whole hL1 ?_)
    refine w_inv2 51 dX11_brown_48 rfl mlX11_251 rfl rfl (d' := 1) (by decide) (Nat.le_of_ble_eq_true rfl) (c_X6_set h61 h62 ?_)
    refine w_aload_n 52 dX11_brown_51 rfl rfl ?_
    refine w_getr 55 dX11_brown_52 rfl faX11_61 rfl rfl rfl (r := .ref 59) rfl ?_
    refine w_iload_n 56 dX11_brown_55 rfl rfl ?_
    refine w_inv1 59 dX11_brown_56 rfl mlX11_255 rfl rfl (d' := 0) (by decide) (Nat.le_of_ble_eq_true rfl) (c_X6_part (by dsimp only; rw [upd2_off (by decide), upd2_at]) (by dsimp only; rw [upd2_at]) ?_)
    refine wr_l dX11_brown_59 rfl ?_
    have hQ := fun x y => Qi.set hC1.2.2.2.2 x y
    exact kl (h _ (hC.fin (hQ _ _)).1 (hC.fin (hQ _ _)).2) (by unfold rBrown; rw [if_pos hz, cl_nI (show t < 2 ^ 31 by omega), cl_nI (show u < 2 ^ 31 by omega)]; rfl)
  · skip
    refine w_ldc2 23 dX11_brown_20 rfl kcX11_241 ?_
    refine wr_l dX11_brown_23 rfl ?_
    exact kl (h _ (hC.ref _) (by dsimp only; rw [upd2_at])) (by unfold rBrown; rw [if_neg (of_decide_eq_true c17)])

set_option maxRecDepth 4000 in
theorem a_X11_judgeB {K : Option Value → AH → Prop} {A : AH} {w : WT} {s : Nat → Nat} {i : Nat} {br : Bool} {z : Option Value} (hC : CI w s A) (hi : i < w.1 7) (hbr : br = (decide (tbz w 2 (w.2 7 i 0) 0 = 3) || decide (tbz w 2 (w.2 7 i 1) 0 = 3))) (hk : judB w i = false → WP mX11_judge 3 dC gC 15 [some (.ref 0), some (.int (nI (i + 1))), some (.int (b2i br))] [] A K) (hr : judB w i = true → K (some (.int (nI i))) A) : WP mX11_judge 3 dC gC 75 [some (.ref 0), some (.int (nI i)), z] [.int (b2i br)] A K := by
  have hsm := hC.2.1.1
  have h76 := hC.2.1.2.2.2.1.2.2.2
  refine w_ist2 76 dX11_judge_75 rfl (by decide) rfl ?_
  refine w_iload_n 77 dX11_judge_76 rfl rfl ?_
  refine w_aload_n 78 dX11_judge_77 rfl rfl ?_
  refine w_getr 81 dX11_judge_78 rfl faX11_19 rfl rfl rfl (r := .ref 26) rfl ?_
  refine w_iload_n 82 dX11_judge_81 rfl rfl ?_
  refine w_inv1 85 dX11_judge_82 rfl mlX11_274 rfl rfl (d' := 1) (by decide) (Nat.le_of_ble_eq_true rfl) (c_X10_isToldBrown_26 hC.1 hsm (by omega) ?_)
  rw [tbz_in hi]
  refine w_iceq 90 88 dX11_judge_85 rfl rfl (fun c85 => ?_) (fun c85 => ?_)
  · skip
    have hj : judB w i = false := by rw [judB, ← hbr, b2i_iff.mp c85]; simp
    refine w_inc1 93 dX11_judge_90 rfl (by decide) rfl (v := nI (_ + 1)) (nI_1 _) ?_
    refine w_goto 15 dX11_judge_93 rfl ?_
    exact hk hj
  · skip
    have hj : judB w i = true := by rw [judB, ← hbr]; simpa using (fun e => c85 (b2i_iff.mpr e))
    refine w_iload_n 89 dX11_judge_88 rfl rfl ?_
    refine wr_i dX11_judge_89 rfl ?_
    exact hr hj

set_option maxRecDepth 4000 in
theorem a_X11_judge {K : Option Value → AH → Prop} {A : AH} {w : WT} {s : Nat → Nat} (hC : CI w s A) (h : K (some (.int (enc2 (fst1 (judB w) (w.1 7))))) A) : WP mX11_judge 3 dC gC 13 [some (.ref 0), none, none] [] A K := by
  have hsm := hC.2.1.1
  have h76 := hC.2.1.2.2.2.1.2.2.2
  have lp15 : ∀ (nf : Nat) (i : Nat) (z : Option Value), i ≤ w.1 7 → fst1 (judB w) i = none → w.1 7 - i < nf → WP mX11_judge 3 dC gC 15 [some (.ref 0), some (.int (nI i)), z] [] A K := by
    intro nf
    induction nf with
    | zero => intros; omega
    | succ nf ih =>
      intro i z hi hf hms
      refine w_iload_n 16 dX11_judge_15 rfl rfl ?_
      refine w_aload_n 17 dX11_judge_16 rfl rfl ?_
      refine w_getr 20 dX11_judge_17 rfl faX11_19 rfl rfl rfl (r := .ref 26) rfl ?_
      refine w_bipush 22 dX11_judge_20 rfl (v := nI 7) rfl ?_
      refine w_inv1 25 dX11_judge_22 rfl mlX11_113 rfl rfl (d' := 1) (by decide) (Nat.le_of_ble_eq_true rfl) (c_X10_howMany_26 hC.1 (by decide) ?_)
      refine w_icgeN 96 28 dX11_judge_25 rfl rfl (by omega) (by omega) (fun c25 => ?_) (fun c25 => ?_)
      · skip
        have e : i = w.1 7 := by omega
        refine w_bipush 98 dX11_judge_96 rfl (v := (-2)) rfl ?_
        refine wr_i dX11_judge_98 rfl ?_
        exact kq h (by rw [← e, hf]; rfl)
      · skip
        refine w_aload_n 29 dX11_judge_28 rfl rfl ?_
        refine w_getr 32 dX11_judge_29 rfl faX11_19 rfl rfl rfl (r := .ref 26) rfl ?_
        refine w_aload_n 33 dX11_judge_32 rfl rfl ?_
        refine w_getr 36 dX11_judge_33 rfl faX11_19 rfl rfl rfl (r := .ref 26) rfl ?_
        refine w_bipush 38 dX11_judge_36 rfl (v := nI 7) rfl ?_
        refine w_iload_n 39 dX11_judge_38 rfl rfl ?_
        refine w_iconst 40 dX11_judge_39 rfl (v := nI 0) rfl ?_
        refine w_inv3 43 dX11_judge_40 rfl mlX11_206 rfl rfl (d' := 1) (by decide) (Nat.le_of_ble_eq_true rfl) (c_X10_cell_26 hC.1 (by decide) (by omega) (by decide) ?_)
        rw [tbz_in c25]
        have h70 := hsm 7 i 0 (by decide) c25 (by decide)
        have h71 := hsm 7 i 1 (by decide) c25 (by decide)
        refine w_inv1 46 dX11_judge_43 rfl mlX11_271 rfl rfl (d' := 1) (by decide) (Nat.le_of_ble_eq_true rfl) (c_X10_isLied_26 hC.1 hsm (by omega) ?_)
        refine w_ifneB 70 49 dX11_judge_46 rfl rfl (fun c46 => ?_) (fun c46 => ?_)
        · skip
          refine w_iconst 71 dX11_judge_70 rfl (v := nI 1) rfl ?_
          refine w_goto 75 dX11_judge_71 rfl ?_
          refine a_X11_judgeB (br := true) hC c25 (by simp [of_decide_eq_true c46]) (fun hj => ih (i + 1) _ (by omega) (by simp [fst1, hf, hj]) (by omega)) (fun hj => kq h (by rw [fst1_some hf hj c25]; rfl))
        · skip
          refine w_aload_n 50 dX11_judge_49 rfl rfl ?_
          refine w_getr 53 dX11_judge_50 rfl faX11_19 rfl rfl rfl (r := .ref 26) rfl ?_
          refine w_aload_n 54 dX11_judge_53 rfl rfl ?_
          refine w_getr 57 dX11_judge_54 rfl faX11_19 rfl rfl rfl (r := .ref 26) rfl ?_
          refine w_bipush 59 dX11_judge_57 rfl (v := nI 7) rfl ?_
          refine w_iload_n 60 dX11_judge_59 rfl rfl ?_
          refine w_iconst 61 dX11_judge_60 rfl (v := nI 1) rfl ?_
          refine w_inv3 64 dX11_judge_61 rfl mlX11_206 rfl rfl (d' := 1) (by decide) (Nat.le_of_ble_eq_true rfl) (c_X10_cell_26 hC.1 (by decide) (by omega) (by decide) ?_)
          rw [tbz_in c25]
          refine w_inv1 67 dX11_judge_64 rfl mlX11_271 rfl rfl (d' := 1) (by decide) (Nat.le_of_ble_eq_true rfl) (c_X10_isLied_26 hC.1 hsm (by omega) ?_)
          refine w_ifeqB 74 70 dX11_judge_67 rfl rfl (fun c67 => ?_) (fun c67 => ?_)
          · skip
            refine w_iconst 75 dX11_judge_74 rfl (v := nI 0) rfl ?_
            refine a_X11_judgeB (br := false) hC c25 (by simp [of_decide_eq_false c46, of_decide_eq_false c67]) (fun hj => ih (i + 1) _ (by omega) (by simp [fst1, hf, hj]) (by omega)) (fun hj => kq h (by rw [fst1_some hf hj c25]; rfl))
          · skip
            refine w_iconst 71 dX11_judge_70 rfl (v := nI 1) rfl ?_
            refine w_goto 75 dX11_judge_71 rfl ?_
            refine a_X11_judgeB (br := true) hC c25 (by simp [of_decide_eq_true c67]) (fun hj => ih (i + 1) _ (by omega) (by simp [fst1, hf, hj]) (by omega)) (fun hj => kq h (by rw [fst1_some hf hj c25]; rfl))
  refine w_iconst 14 dX11_judge_13 rfl (v := nI 0) rfl ?_
  refine w_ist1 15 dX11_judge_14 rfl (by decide) rfl ?_
  exact lp15 _ 0 none (Nat.zero_le _) rfl (Nat.lt_succ_self _)

set_option maxRecDepth 4000 in
theorem c_X11_judge {K : Option Value → AH → Prop} {A : AH} {w : WT} {s : Nat → Nat} (hC : CI w s A)  (h : ∀ A', Qk A A' → A'.1 0 8 = nI (t1 (okW1 w)) → K (some (.int (rJudge w))) A') : Ct yX11_judge mX11_judge 3 dC gC [.ref 0] A K := by
  refine Ct.of [some (.ref 0), none, none] rfl rfl rfl (Nat.le_of_ble_eq_true rfl) ?_
  refine w_aload_n 1 dX11_judge_0 rfl rfl ?_
  refine w_aload_n 2 dX11_judge_1 rfl rfl ?_
  refine w_inv0 5 dX11_judge_2 rfl mlX11_157 rfl rfl (d' := 2) (by decide) (Nat.le_of_ble_eq_true rfl) (c_X11_needWeb hC ?_)
  refine w_inv1 8 dX11_judge_5 rfl mlX11_87 rfl rfl (d' := 0) (by decide) (Nat.le_of_ble_eq_true rfl) (c_X11_refused (Nat.lt_of_le_of_lt (t1_le _) (by decide)) ?_)
  refine w_ifeqB 13 11 dX11_judge_8 rfl rfl (fun c8 => ?_) (fun c8 => ?_)
  · skip
    have hz : t1 (okW1 w) = 0 := Decidable.not_not.mp (of_decide_eq_false c8)
    have hC1 := hC.off (hC.ref (nI (t1 (okW1 w))))
    skip
    exact a_X11_judge hC1 (kq (h _ (hC.ref _) (by dsimp only; rw [upd2_at])) (by unfold rJudge; rw [if_pos hz]))
  · skip
    refine w_iconst 12 dX11_judge_11 rfl (v := (-1)) rfl ?_
    refine wr_i dX11_judge_12 rfl ?_
    exact kq (h _ (hC.ref _) (by dsimp only; rw [upd2_at])) (by unfold rJudge; rw [if_neg (of_decide_eq_true c8)])
