/-! ===== thread, nail, weakest ===== -/
def ok6 (x : Int32) : Bool := decide (0 ≤ x ∧ x ≤ nI 6)
def thV (w : WT) (s : Nat → Nat) (t c : Nat) : Nat := if c = 3 then stg s t 0 else if c = 5 then (if (s 2).testBit t then 1 else 0) else if c = 6 then foesTo w t (w.1 3) else cz s t c
def rThread (w : WT) (s : Nat → Nat) (t x : Int32) : Int32 := if t1 (okR (s 1) t && ok6 x) = 0 then nI (thV w s (cl t) (cl x)) else -1
theorem t1_and (a b : Bool) : (if t1 a = 0 then t1 b else t1 a) = t1 (a && b) := by cases a <;> cases b <;> simp [t1]
theorem ok6_of {x : Int32} (h : ok6 x = true) : ∃ c : Nat, x = nI c ∧ c ≤ 6 := by
  obtain ⟨h1, h2⟩ := of_decide_eq_true h
  obtain ⟨c, hc, rfl⟩ := nI_of (Int32.not_lt.mpr h1)
  exact ⟨c, rfl, (nI_leI hc (by decide)).mp h2⟩
set_option maxRecDepth 4000 in
theorem a_X11_thread {K : Option Value → AH → Prop} {A : AH} {w : WT} {s : Nat → Nat} {t x : Int32} (hC : CI w s A) (h : ∀ A', Qk A A' → A'.1 0 8 = nI (t1 (okR (s 1) t && ok6 x)) → K (some (.int (rThread w s t x))) A') : WP mX11_thread 3 dC gC 21 [some (.ref 0), some (.int t), some (.int x)] [.int (nI (t1 (ok6 x))), .int (nI (t1 (okR (s 1) t))), .ref 0] A K := by
  refine w_invs2 24 dX11_thread_21 rfl slX11_126 (d' := 0) (by decide) (Nat.le_of_ble_eq_true rfl) (c_X11_firstOfN (Nat.lt_of_le_of_lt (t1_le _) (by decide)) ?_)
  rw [t1_and]
  refine w_inv1 27 dX11_thread_24 rfl mlX11_87 rfl rfl (d' := 0) (by decide) (Nat.le_of_ble_eq_true rfl) (c_X11_refused (Nat.lt_of_le_of_lt (t1_le _) (by decide)) ?_)
  refine w_ifeqB 32 30 dX11_thread_27 rfl rfl (fun c27 => ?_) (fun c27 => ?_)
  · skip
    have hz : t1 (okR (s 1) t && ok6 x) = 0 := by simpa using c27
    have hC1 := hC.off (hC.ref (nI (t1 (okR (s 1) t && ok6 x))))
    have k1 := t1_0 hz
    rw [Bool.and_eq_true] at k1
    have hs8 := hC.2.2.2.1.2.1
    obtain ⟨t, rfl, ht⟩ := okR_of k1.1 (by omega)
    obtain ⟨c, rfl, hc6⟩ := ok6_of k1.2
    refine w_iload_n 33 dX11_thread_32 rfl rfl ?_
    rcases c with _ | _ | _ | _ | _ | _ | _ | c
    rotate_left 7
    · omega
    · skip
      skip
      refine w_tabOut 100 dX11_thread_33 (by decide) rfl ?_
      refine w_aload_n 101 dX11_thread_100 rfl rfl ?_
      refine w_getr 104 dX11_thread_101 rfl faX11_26 rfl rfl rfl (r := .ref 43) rfl ?_
      refine w_iload_n 105 dX11_thread_104 rfl rfl ?_
      refine w_iload_n 106 dX11_thread_105 rfl rfl ?_
      refine w_inv2 109 dX11_thread_106 rfl mlX11_139 rfl rfl (d' := 1) (by decide) (Nat.le_of_ble_eq_true rfl) (c_X7_cellN hC1.2.2.1 hs8 (by omega) (by decide) ?_)
      refine wr_i dX11_thread_109 rfl ?_
      exact kq (h _ (hC.ref _) (by dsimp only; rw [upd2_at])) (by unfold rThread; rw [if_pos hz, cl_nI (show t < 2 ^ 31 by omega), cl_nI (by decide)]; simp [thV])
    · skip
      skip
      refine w_tabOut 100 dX11_thread_33 (by decide) rfl ?_
      refine w_aload_n 101 dX11_thread_100 rfl rfl ?_
      refine w_getr 104 dX11_thread_101 rfl faX11_26 rfl rfl rfl (r := .ref 43) rfl ?_
      refine w_iload_n 105 dX11_thread_104 rfl rfl ?_
      refine w_iload_n 106 dX11_thread_105 rfl rfl ?_
      refine w_inv2 109 dX11_thread_106 rfl mlX11_139 rfl rfl (d' := 1) (by decide) (Nat.le_of_ble_eq_true rfl) (c_X7_cellN hC1.2.2.1 hs8 (by omega) (by decide) ?_)
      refine wr_i dX11_thread_109 rfl ?_
      exact kq (h _ (hC.ref _) (by dsimp only; rw [upd2_at])) (by unfold rThread; rw [if_pos hz, cl_nI (show t < 2 ^ 31 by omega), cl_nI (by decide)]; simp [thV])
    · skip
      skip
      refine w_tabOut 100 dX11_thread_33 (by decide) rfl ?_
      refine w_aload_n 101 dX11_thread_100 rfl rfl ?_
      refine w_getr 104 dX11_thread_101 rfl faX11_26 rfl rfl rfl (r := .ref 43) rfl ?_
      refine w_iload_n 105 dX11_thread_104 rfl rfl ?_
      refine w_iload_n 106 dX11_thread_105 rfl rfl ?_
      refine w_inv2 109 dX11_thread_106 rfl mlX11_139 rfl rfl (d' := 1) (by decide) (Nat.le_of_ble_eq_true rfl) (c_X7_cellN hC1.2.2.1 hs8 (by omega) (by decide) ?_)
      refine wr_i dX11_thread_109 rfl ?_
      exact kq (h _ (hC.ref _) (by dsimp only; rw [upd2_at])) (by unfold rThread; rw [if_pos hz, cl_nI (show t < 2 ^ 31 by omega), cl_nI (by decide)]; simp [thV])
    · skip
      skip
      refine w_tabIn 64 dX11_thread_33 (by decide) (by decide) rfl rfl ?_
      refine w_aload_n 65 dX11_thread_64 rfl rfl ?_
      refine w_getr 68 dX11_thread_65 rfl faX11_26 rfl rfl rfl (r := .ref 43) rfl ?_
      refine w_iload_n 69 dX11_thread_68 rfl rfl ?_
      refine w_iconst 70 dX11_thread_69 rfl (v := nI 0) rfl ?_
      refine w_inv2 73 dX11_thread_70 rfl mlX11_130 rfl rfl (d' := 2) (by decide) (Nat.le_of_ble_eq_true rfl) (c_X7_strength hC1.2.2.1 hC1.2.2.2.1 (by omega) (by decide) ?_)
      refine wr_i dX11_thread_73 rfl ?_
      exact kq (h _ (hC.ref _) (by dsimp only; rw [upd2_at])) (by unfold rThread; rw [if_pos hz, cl_nI (show t < 2 ^ 31 by omega), cl_nI (by decide)]; simp [thV])
    · skip
      skip
      refine w_tabIn 100 dX11_thread_33 (by decide) (by decide) rfl rfl ?_
      refine w_aload_n 101 dX11_thread_100 rfl rfl ?_
      refine w_getr 104 dX11_thread_101 rfl faX11_26 rfl rfl rfl (r := .ref 43) rfl ?_
      refine w_iload_n 105 dX11_thread_104 rfl rfl ?_
      refine w_iload_n 106 dX11_thread_105 rfl rfl ?_
      refine w_inv2 109 dX11_thread_106 rfl mlX11_139 rfl rfl (d' := 1) (by decide) (Nat.le_of_ble_eq_true rfl) (c_X7_cellN hC1.2.2.1 hs8 (by omega) (by decide) ?_)
      refine wr_i dX11_thread_109 rfl ?_
      exact kq (h _ (hC.ref _) (by dsimp only; rw [upd2_at])) (by unfold rThread; rw [if_pos hz, cl_nI (show t < 2 ^ 31 by omega), cl_nI (by decide)]; simp [thV])
    · skip
      skip
      refine w_tabIn 74 dX11_thread_33 (by decide) (by decide) rfl rfl ?_
      refine w_aload_n 75 dX11_thread_74 rfl rfl ?_
      refine w_getr 78 dX11_thread_75 rfl faX11_26 rfl rfl rfl (r := .ref 43) rfl ?_
      refine w_iload_n 79 dX11_thread_78 rfl rfl ?_
      refine w_inv1 82 dX11_thread_79 rfl mlX11_133 rfl rfl (d' := 1) (by decide) (Nat.le_of_ble_eq_true rfl) (c_X7_isSnapped hC1.2.2.1 ?_)
      rw [hasB_nI (by have := hC.2.2.2.1.2.2.1; omega) (by omega)]
      refine w_ifeqB 89 85 dX11_thread_82 rfl rfl (fun c82 => ?_) (fun c82 => ?_)
      · skip
        refine w_iconst 90 dX11_thread_89 rfl (v := nI 0) rfl ?_
        refine wr_i dX11_thread_90 rfl ?_
        exact kq (h _ (hC.ref _) (by dsimp only; rw [upd2_at])) (by unfold rThread; rw [if_pos hz, cl_nI (show t < 2 ^ 31 by omega), cl_nI (by decide)]; simp [thV, c82])
      · skip
        refine w_iconst 86 dX11_thread_85 rfl (v := nI 1) rfl ?_
        refine w_goto 90 dX11_thread_86 rfl ?_
        refine wr_i dX11_thread_90 rfl ?_
        exact kq (h _ (hC.ref _) (by dsimp only; rw [upd2_at])) (by unfold rThread; rw [if_pos hz, cl_nI (show t < 2 ^ 31 by omega), cl_nI (by decide)]; simp [thV, c82])
    · skip
      skip
      refine w_tabIn 91 dX11_thread_33 (by decide) (by decide) rfl rfl ?_
      refine w_aload_n 92 dX11_thread_91 rfl rfl ?_
      refine w_getr 95 dX11_thread_92 rfl faX11_19 rfl rfl rfl (r := .ref 26) rfl ?_
      refine w_iload_n 96 dX11_thread_95 rfl rfl ?_
      refine w_inv1 99 dX11_thread_96 rfl mlX11_136 rfl rfl (d' := 1) (by decide) (Nat.le_of_ble_eq_true rfl) (c_X10_clashingWith_26 hC1.1 hC1.2.1.2.1 (by omega) ?_)
      refine wr_i dX11_thread_99 rfl ?_
      exact kq (h _ (hC.ref _) (by dsimp only; rw [upd2_at])) (by unfold rThread; rw [if_pos hz, cl_nI (show t < 2 ^ 31 by omega), cl_nI (by decide)]; simp [thV])
  · skip
    refine w_iconst 31 dX11_thread_30 rfl (v := (-1)) rfl ?_
    refine wr_i dX11_thread_31 rfl ?_
    exact kq (h _ (hC.ref _) (by dsimp only; rw [upd2_at])) (by unfold rThread; rw [if_neg (of_decide_eq_true c27)])

set_option maxRecDepth 4000 in
theorem c_X11_thread {K : Option Value → AH → Prop} {A : AH} {w : WT} {s : Nat → Nat} {t x : Int32} (hC : CI w s A) (h : ∀ A', Qk A A' → A'.1 0 8 = nI (t1 (okR (s 1) t && ok6 x)) → K (some (.int (rThread w s t x))) A') : Ct yX11_thread mX11_thread 3 dC gC [.ref 0, .int t, .int x] A K := by
  refine Ct.of [some (.ref 0), some (.int t), some (.int x)] rfl rfl rfl (Nat.le_of_ble_eq_true rfl) ?_
  refine w_aload_n 1 dX11_thread_0 rfl rfl ?_
  refine w_aload_n 2 dX11_thread_1 rfl rfl ?_
  refine w_iload_n 3 dX11_thread_2 rfl rfl ?_
  refine w_inv1 6 dX11_thread_3 rfl mlX11_123 rfl rfl (d' := 1) (by decide) (Nat.le_of_ble_eq_true rfl) (c_X11_needThread hC ?_)
  refine w_iload_n 7 dX11_thread_6 rfl rfl ?_
  refine w_iflt 20 10 dX11_thread_7 rfl rfl (fun c7 => ?_) (fun c7 => ?_)
  · skip
    refine w_iconst 21 dX11_thread_20 rfl (v := nI 1) rfl ?_
    refine wp_eq rfl ?_ rfl (a_X11_thread hC h)
    rw [show t1 (ok6 x) = 1 from by unfold t1 ok6; rw [if_neg]; intro q; exact absurd c7 (Int32.not_lt.mpr (of_decide_eq_true q).1)]
    rfl
  · skip
    refine w_iload_n 11 dX11_thread_10 rfl rfl ?_
    refine w_bipush 13 dX11_thread_11 rfl (v := nI 6) rfl ?_
    refine w_icgt 20 16 dX11_thread_13 rfl rfl (fun c13 => ?_) (fun c13 => ?_)
    · skip
      refine w_iconst 21 dX11_thread_20 rfl (v := nI 1) rfl ?_
      refine wp_eq rfl ?_ rfl (a_X11_thread hC h)
      rw [show t1 (ok6 x) = 1 from by unfold t1 ok6; rw [if_neg]; intro q; exact absurd c13 (Int32.not_lt.mpr (of_decide_eq_true q).2)]
      rfl
    · skip
      refine w_iconst 17 dX11_thread_16 rfl (v := nI 0) rfl ?_
      refine w_goto 21 dX11_thread_17 rfl ?_
      refine wp_eq rfl ?_ rfl (a_X11_thread hC h)
      rw [show t1 (ok6 x) = 0 from by unfold t1 ok6; rw [if_pos]; exact decide_eq_true ⟨Int32.not_lt.mp c7, Int32.not_lt.mp c13⟩]
      rfl

def ok01 (x : Int32) : Bool := decide (x = nI 0 ∨ x = nI 1)
def natB (w : WT) (s : Nat → Nat) (a t : Nat) : Bool := decide (e1W w s t = a ∨ e2W w s t = a) && decide (0 < esW w s 0 t)
def rNail (w : WT) (s : Nat → Nat) (a x : Int32) : Int32 := if t1 (okR (w.1 1) a && ok01 x) = 0 then nI (if x = nI 0 then maskTo (natB w s (cl a)) 8 else sumB (esW w s 0) (maskTo (natB w s (cl a)) 8) 13) else -1
set_option maxRecDepth 4000 in
theorem a_X11_nail {K : Option Value → AH → Prop} {A : AH} {w : WT} {s : Nat → Nat} {a x : Int32} (hC : CI w s A) (h : ∀ A', Qk A A' → A'.1 0 8 = nI (t1 (okR (w.1 1) a && ok01 x)) → K (some (.int (rNail w s a x))) A') : WP mX11_nail 5 dC gC 20 [some (.ref 0), some (.int a), some (.int x), none] [.int (nI (t1 (ok01 x))), .int (nI (t1 (okR (w.1 1) a))), .ref 0] A K := by
  refine w_invs2 23 dX11_nail_20 rfl slX11_126 (d' := 0) (by decide) (Nat.le_of_ble_eq_true rfl) (c_X11_firstOfN (Nat.lt_of_le_of_lt (t1_le _) (by decide)) ?_)
  rw [t1_and]
  refine w_inv1 26 dX11_nail_23 rfl mlX11_87 rfl rfl (d' := 0) (by decide) (Nat.le_of_ble_eq_true rfl) (c_X11_refused (Nat.lt_of_le_of_lt (t1_le _) (by decide)) ?_)
  refine w_ifeqB 31 29 dX11_nail_26 rfl rfl (fun c26 => ?_) (fun c26 => ?_)
  · skip
    have hz : t1 (okR (w.1 1) a && ok01 x) = 0 := by simpa using c26
    have hC1 := hC.off (hC.ref (nI (t1 (okR (w.1 1) a && ok01 x))))
    have k1 := t1_0 hz
    rw [Bool.and_eq_true] at k1
    have hw7 := hC.2.1.2.2.1.1
    obtain ⟨a, rfl, ha⟩ := okR_of k1.1 (by omega)
    refine w_aload_n 32 dX11_nail_31 rfl rfl ?_
    refine w_iconst 33 dX11_nail_32 rfl (v := nI 0) rfl ?_
    refine w_inv1 36 dX11_nail_33 rfl mlX11_145 rfl rfl (d' := 4) (by decide) (Nat.le_of_ble_eq_true rfl) (c_X11_goBehind hC1 (by decide) (fun A2 hR hQ => ?_))
    refine w_aload_n 37 dX11_nail_36 rfl rfl ?_
    refine w_getr 40 dX11_nail_37 rfl faX11_40 rfl rfl rfl (r := .ref 48) rfl ?_
    refine w_iload_n 41 dX11_nail_40 rfl rfl ?_
    refine w_inv1 44 dX11_nail_41 rfl mlX11_148 rfl rfl (d' := 0) (by decide) (Nat.le_of_ble_eq_true rfl) (c_X0_heldAt hR.2.2.1 hR.2.2.2.1 (by omega) ?_)
    refine w_ist3 45 dX11_nail_44 rfl (by decide) rfl ?_
    refine w_iload_n 46 dX11_nail_45 rfl rfl ?_
    refine w_ifne 53 49 dX11_nail_46 rfl rfl (fun c46 => ?_) (fun c46 => ?_)
    · skip
      refine w_aload_n 54 dX11_nail_53 rfl rfl ?_
      refine w_getr 57 dX11_nail_54 rfl faX11_40 rfl rfl rfl (r := .ref 48) rfl ?_
      refine w_iload_n 58 dX11_nail_57 rfl rfl ?_
      refine w_inv1 61 dX11_nail_58 rfl mlX11_151 rfl rfl (d' := 0) (by decide) (Nat.le_of_ble_eq_true rfl) (c_X0_sumOf hR.2.2.2.2 (Nat.lt_trans (maskTo_lt _ 8) (by decide)) ?_)
      refine wr_i dX11_nail_61 rfl ?_
      exact kq (h A2 (hC.fin hQ).1 (hC.fin hQ).2) (by unfold rNail; rw [if_pos hz, cl_nI (show a < 2 ^ 31 by omega), if_neg (show ¬ x = nI 0 from c46)]; rfl)
    · skip
      refine w_iload_n 50 dX11_nail_49 rfl rfl ?_
      refine w_goto 61 dX11_nail_50 rfl ?_
      refine wr_i dX11_nail_61 rfl ?_
      exact kq (h A2 (hC.fin hQ).1 (hC.fin hQ).2) (by unfold rNail; rw [if_pos hz, cl_nI (show a < 2 ^ 31 by omega), if_pos (show x = nI 0 from c46)]; rfl)
  · skip
    refine w_iconst 30 dX11_nail_29 rfl (v := (-1)) rfl ?_
    refine wr_i dX11_nail_30 rfl ?_
    exact kq (h _ (hC.ref _) (by dsimp only; rw [upd2_at])) (by unfold rNail; rw [if_neg (of_decide_eq_true c26)])

set_option maxRecDepth 4000 in
theorem c_X11_nail {K : Option Value → AH → Prop} {A : AH} {w : WT} {s : Nat → Nat} {a x : Int32} (hC : CI w s A) (h : ∀ A', Qk A A' → A'.1 0 8 = nI (t1 (okR (w.1 1) a && ok01 x)) → K (some (.int (rNail w s a x))) A') : Ct yX11_nail mX11_nail 5 dC gC [.ref 0, .int a, .int x] A K := by
  refine Ct.of [some (.ref 0), some (.int a), some (.int x), none] rfl rfl rfl (Nat.le_of_ble_eq_true rfl) ?_
  refine w_aload_n 1 dX11_nail_0 rfl rfl ?_
  refine w_aload_n 2 dX11_nail_1 rfl rfl ?_
  refine w_iload_n 3 dX11_nail_2 rfl rfl ?_
  refine w_inv1 6 dX11_nail_3 rfl mlX11_142 rfl rfl (d' := 3) (by decide) (Nat.le_of_ble_eq_true rfl) (c_X11_needNail hC ?_)
  refine w_iload_n 7 dX11_nail_6 rfl rfl ?_
  refine w_ifeq 15 10 dX11_nail_7 rfl rfl (fun c7 => ?_) (fun c7 => ?_)
  · skip
    refine w_iconst 16 dX11_nail_15 rfl (v := nI 0) rfl ?_
    refine w_goto 20 dX11_nail_16 rfl ?_
    refine wp_eq rfl ?_ rfl (a_X11_nail hC h)
    rw [show t1 (ok01 x) = 0 from by unfold t1 ok01; rw [if_pos]; exact decide_eq_true (Or.inl c7)]
    rfl
  · skip
    refine w_iload_n 11 dX11_nail_10 rfl rfl ?_
    refine w_iconst 12 dX11_nail_11 rfl (v := nI 1) rfl ?_
    refine w_icne 19 15 dX11_nail_12 rfl rfl (fun c12 => ?_) (fun c12 => ?_)
    · skip
      refine w_iconst 20 dX11_nail_19 rfl (v := nI 1) rfl ?_
      refine wp_eq rfl ?_ rfl (a_X11_nail hC h)
      rw [show t1 (ok01 x) = 1 from by unfold t1 ok01; rw [if_neg]; intro q; exact (of_decide_eq_true q).elim c7 c12]
      rfl
    · skip
      refine w_iconst 16 dX11_nail_15 rfl (v := nI 0) rfl ?_
      refine w_goto 20 dX11_nail_16 rfl ?_
      refine wp_eq rfl ?_ rfl (a_X11_nail hC h)
      rw [show t1 (ok01 x) = 0 from by unfold t1 ok01; rw [if_pos]; exact decide_eq_true (Or.inr c12)]
      rfl

/-- the weakest two nails -/
def wkI (f : Nat → Nat → Nat) (a : Nat) (x : Option Nat × Nat) : Nat → Option Nat × Nat
  | 0 => x
  | k + 1 => if (wkI f a x k).1 = none ∨ f a (a + 1 + k) < (wkI f a x k).2 then (some (10 * a + (a + 1 + k)), f a (a + 1 + k)) else wkI f a x k
def wkO (f : Nat → Nat → Nat) (nn : Nat) : Nat → Option Nat × Nat
  | 0 => (none, 0)
  | a + 1 => wkI f a (wkO f nn a) (nn - (a + 1))
theorem wkI_ok {f : Nat → Nat → Nat} {a : Nat} {x : Option Nat × Nat} {c : Nat} (hf : ∀ a b, f a b ≤ c) (h1 : ∀ v, x.1 = some v → v < 1000) (h2 : x.2 ≤ c) (ha : a ≤ 20) : ∀ {k : Nat}, k ≤ 20 → (∀ v, (wkI f a x k).1 = some v → v < 1000) ∧ (wkI f a x k).2 ≤ c
  | 0, _ => ⟨h1, h2⟩
  | k + 1, hk => by
    have ih := wkI_ok hf h1 h2 ha (k := k) (by omega)
    simp only [wkI]
    split
    · exact ⟨fun v hv => by cases hv; omega, hf _ _⟩
    · exact ih
theorem wkO_ok {f : Nat → Nat → Nat} {nn c : Nat} (hf : ∀ a b, f a b ≤ c) (hn : nn ≤ 20) : ∀ {a : Nat}, a ≤ 20 → (∀ v, (wkO f nn a).1 = some v → v < 1000) ∧ (wkO f nn a).2 ≤ c
  | 0, _ => ⟨fun v hv => (by simp [wkO] at hv), Nat.zero_le _⟩
  | a + 1, ha => by
    have ih := wkO_ok hf hn (a := a) (by omega)
    exact wkI_ok hf ih.1 ih.2 (by omega) (by omega)
def wkF (w : WT) (s : Nat → Nat) (n a b : Nat) : Nat := BV w s n (HM w s n) a b
def rWeakest (w : WT) (s : Nat → Nat) (n : Int32) : Int32 := if tY (okW1 w) n = 0 then enc2 (wkO (wkF w s (cl n)) (w.1 1) (w.1 1)).1 else -1
set_option maxRecDepth 4000 in
theorem a_X11_weakest {K : Option Value → AH → Prop} {A : AH} {w : WT} {s : Nat → Nat} {n : Nat} (hR0 : BR (w.1 1) (e1W w s) (e2W w s) (esW w s n) A) (hC : CI w s A) (h : ∀ A', Qi A A' → K (some (.int (enc2 (wkO (wkF w s n) (w.1 1) (w.1 1)).1))) A') : WP mX11_weakest 5 dC gC 34 [some (.ref 0), some (.int (nI n)), some (.int (nI (w.1 1))), none, none, none, none, none] [] A K := by
  have hw7 := hC.2.1.2.2.1.1
  have lp55 : ∀ (nf : Nat) (a k : Nat) (A' : AH), a + 1 + k ≤ w.1 1 → BR (w.1 1) (e1W w s) (e2W w s) (esW w s n) A' → Qi A A' → (∀ A'', BR (w.1 1) (e1W w s) (e2W w s) (esW w s n) A'' → Qi A A'' → WP mX11_weakest 5 dC gC 106 [some (.ref 0), some (.int (nI n)), some (.int (nI (w.1 1))), some (.int (enc2 (wkO (wkF w s n) (w.1 1) (a + 1)).1)), some (.int (nI (wkO (wkF w s n) (w.1 1) (a + 1)).2)), some (.int (nI a)), none, none] [] A'' K) → w.1 1 - k < nf → WP mX11_weakest 5 dC gC 55 [some (.ref 0), some (.int (nI n)), some (.int (nI (w.1 1))), some (.int (enc2 (wkI (wkF w s n) a (wkO (wkF w s n) (w.1 1) a) k).1)), some (.int (nI (wkI (wkF w s n) a (wkO (wkF w s n) (w.1 1) a) k).2)), some (.int (nI a)), some (.int (nI (a + 1 + k))), none] [] A' K := by
    intro nf
    induction nf with
    | zero => intros; omega
    | succ nf ih =>
      intro a k A' hk0 hR hQ hk hms
      have hbv : ∀ a b, wkF w s n a b ≤ 1287 := fun a b => BV_le hC.2.2.2.1 hC.2.1.2.2.1 _ _ _ _
      obtain ⟨q1, q2⟩ := wkI_ok (f := wkF w s n) (a := a) (x := (wkO (wkF w s n) (w.1 1) a)) hbv (wkO_ok hbv (by omega) (by omega)).1 (wkO_ok hbv (by omega) (by omega)).2 (by omega) (k := k) (by omega)
      have hbk := hbv a (a + 1 + k)
      refine w_iload 57 dX11_weakest_55 rfl rfl ?_
      refine w_iload_n 58 dX11_weakest_57 rfl rfl ?_
      refine w_icgeN 106 61 dX11_weakest_58 rfl rfl (by omega) (by omega) (fun c58 => ?_) (fun c58 => ?_)
      · skip
        have e : k = w.1 1 - (a + 1) := by omega
        subst e
        refine wp_to ?_ rfl rfl (hk A' hR hQ)
        simp [lle, wkO]
      · skip
        refine w_aload_n 62 dX11_weakest_61 rfl rfl ?_
        refine w_getr 65 dX11_weakest_62 rfl faX11_40 rfl rfl rfl (r := .ref 48) rfl ?_
        refine w_iload 67 dX11_weakest_65 rfl rfl ?_
        refine w_iload 69 dX11_weakest_67 rfl rfl ?_
        refine w_inv2 72 dX11_weakest_69 rfl mlX11_170 rfl rfl (d' := 3) (by decide) (Nat.le_of_ble_eq_true rfl) (c_X0_between hR (by omega) (by omega) (by omega) (fun A3 hq3 h73 hO3 => ?_))
        have hR3 := hR.off h73 hO3
        have hQ3 := hQ.tr (Qi.sub hQ.2 hO3 (by decide) (by decide) (by decide))
        refine w_ist7 74 dX11_weakest_72 rfl (by decide) rfl ?_
        refine w_iload_n 75 dX11_weakest_74 rfl rfl ?_
        refine w_bipush 77 dX11_weakest_75 rfl (v := (-2)) rfl ?_
        refine w_iceq 87 80 dX11_weakest_77 rfl rfl (fun c77 => ?_) (fun c77 => ?_)
        · skip
          refine w_iload 89 dX11_weakest_87 rfl rfl ?_
          refine w_ist4 91 dX11_weakest_89 rfl (by decide) rfl ?_
          refine w_bipush 93 dX11_weakest_91 rfl (v := nI 10) rfl ?_
          refine w_iload 95 dX11_weakest_93 rfl rfl ?_
          refine w_imulN 96 dX11_weakest_95 rfl ?_
          refine w_iload 98 dX11_weakest_96 rfl rfl ?_
          refine w_iaddN 99 dX11_weakest_98 rfl ?_
          refine w_ist3 100 dX11_weakest_99 rfl (by decide) rfl ?_
          refine w_inc6 103 dX11_weakest_100 rfl (by decide) rfl (v := nI (_ + 1)) (nI_1 _) ?_
          refine w_goto 55 dX11_weakest_103 rfl ?_
          refine wp_to ?_ rfl rfl (ih a (k + 1) A3 (by omega) hR3 hQ3 hk (by omega))
          have c77 := (enc2_m2 (fun k hk => by have := q1 k hk; omega)).mp c77
          simp [lle, wkI, c77, enc2, wkF, BV, HM, Nat.add_assoc]
          rfl
        · skip
          refine w_iload 82 dX11_weakest_80 rfl rfl ?_
          refine w_iload 84 dX11_weakest_82 rfl rfl ?_
          refine w_icgeN 100 87 dX11_weakest_84 rfl rfl (show wkF w s n a (a + 1 + k) < 2 ^ 31 by omega) (by omega) (fun c84 => ?_) (fun c84 => ?_)
          · skip
            refine w_inc6 103 dX11_weakest_100 rfl (by decide) rfl (v := nI (_ + 1)) (nI_1 _) ?_
            refine w_goto 55 dX11_weakest_103 rfl ?_
            refine wp_to ?_ rfl rfl (ih a (k + 1) A3 (by omega) hR3 hQ3 hk (by omega))
            have c77 := fun e => c77 ((enc2_m2 (fun k hk => by have := q1 k hk; omega)).mpr e)
            have c84 : ¬ wkF w s n a (a + 1 + k) < (wkI (wkF w s n) a (wkO (wkF w s n) (w.1 1) a) k).2 := Nat.not_lt.mpr c84
            have e9 : wkI (wkF w s n) a (wkO (wkF w s n) (w.1 1) a) (k + 1) = (wkI (wkF w s n) a (wkO (wkF w s n) (w.1 1) a) k) := by simp only [wkI]; rw [if_neg (fun q => q.elim c77 c84)]
            simp [lle, e9, Nat.add_assoc]
          · skip
            refine w_iload 89 dX11_weakest_87 rfl rfl ?_
            refine w_ist4 91 dX11_weakest_89 rfl (by decide) rfl ?_
            refine w_bipush 93 dX11_weakest_91 rfl (v := nI 10) rfl ?_
            refine w_iload 95 dX11_weakest_93 rfl rfl ?_
            refine w_imulN 96 dX11_weakest_95 rfl ?_
            refine w_iload 98 dX11_weakest_96 rfl rfl ?_
            refine w_iaddN 99 dX11_weakest_98 rfl ?_
            refine w_ist3 100 dX11_weakest_99 rfl (by decide) rfl ?_
            refine w_inc6 103 dX11_weakest_100 rfl (by decide) rfl (v := nI (_ + 1)) (nI_1 _) ?_
            refine w_goto 55 dX11_weakest_103 rfl ?_
            refine wp_to ?_ rfl rfl (ih a (k + 1) A3 (by omega) hR3 hQ3 hk (by omega))
            have c84 : wkF w s n a (a + 1 + k) < (wkI (wkF w s n) a (wkO (wkF w s n) (w.1 1) a) k).2 := c84
            have e9 : wkI (wkF w s n) a (wkO (wkF w s n) (w.1 1) a) (k + 1) = (some (10 * a + (a + 1 + k)), wkF w s n a (a + 1 + k)) := by simp only [wkI]; rw [if_pos (Or.inr c84)]
            rw [e9]
            exact ⟨Or.inr rfl, Or.inr rfl, Or.inr rfl, Or.inr rfl, Or.inr rfl, Or.inr rfl, Or.inr rfl, Or.inl rfl, trivial⟩
  have lp43 : ∀ (nf : Nat) (a : Nat) (A' : AH), a ≤ w.1 1 → BR (w.1 1) (e1W w s) (e2W w s) (esW w s n) A' → Qi A A' → w.1 1 - a < nf → WP mX11_weakest 5 dC gC 43 [some (.ref 0), some (.int (nI n)), some (.int (nI (w.1 1))), some (.int (enc2 (wkO (wkF w s n) (w.1 1) a).1)), some (.int (nI (wkO (wkF w s n) (w.1 1) a).2)), some (.int (nI a)), none, none] [] A' K := by
    intro nf
    induction nf with
    | zero => intros; omega
    | succ nf ih =>
      intro a A' ha hR hQ hms
      have hw7 := hC.2.1.2.2.1.1
      refine w_iload 45 dX11_weakest_43 rfl rfl ?_
      refine w_iload_n 46 dX11_weakest_45 rfl rfl ?_
      refine w_icgeN 112 49 dX11_weakest_46 rfl rfl (by omega) (by omega) (fun c46 => ?_) (fun c46 => ?_)
      · skip
        have e : a = w.1 1 := by omega
        subst e
        refine w_iload_n 113 dX11_weakest_112 rfl rfl ?_
        refine wr_i dX11_weakest_113 rfl ?_
        exact h A' hQ
      · skip
        refine w_iload 51 dX11_weakest_49 rfl rfl ?_
        refine w_iconst 52 dX11_weakest_51 rfl (v := nI 1) rfl ?_
        refine w_iaddN 53 dX11_weakest_52 rfl ?_
        refine w_ist6 55 dX11_weakest_53 rfl (by decide) rfl ?_
        refine lp55 _ a 0 A' (by omega) hR hQ (fun A'' hR hQ => ?_) (Nat.lt_succ_self _)
        refine w_inc5 109 dX11_weakest_106 rfl (by decide) rfl (v := nI (_ + 1)) (nI_1 _) ?_
        refine w_goto 43 dX11_weakest_109 rfl ?_
        exact ih (a + 1) A'' (by omega) hR hQ (by omega)
  refine w_bipush 36 dX11_weakest_34 rfl (v := (-2)) rfl ?_
  refine w_ist3 37 dX11_weakest_36 rfl (by decide) rfl ?_
  refine w_iconst 38 dX11_weakest_37 rfl (v := nI 0) rfl ?_
  refine w_ist4 40 dX11_weakest_38 rfl (by decide) rfl ?_
  refine w_iconst 41 dX11_weakest_40 rfl (v := nI 0) rfl ?_
  refine w_ist5 43 dX11_weakest_41 rfl (by decide) rfl ?_
  exact lp43 _ 0 A (Nat.zero_le _) hR0 ⟨OffL.rf, hC.2.2.2.2⟩ (Nat.lt_succ_self _)

set_option maxRecDepth 4000 in
theorem c_X11_weakest {K : Option Value → AH → Prop} {A : AH} {w : WT} {s : Nat → Nat} (hC : CI w s A) {n : Int32} (h : ∀ A', Qk A A' → A'.1 0 8 = nI (tY (okW1 w) n) → K (some (.int (rWeakest w s n))) A') : Ct yX11_weakest mX11_weakest 5 dC gC [.ref 0, .int n] A K := by
  refine Ct.of [some (.ref 0), some (.int n), none, none, none, none, none, none] rfl rfl rfl (Nat.le_of_ble_eq_true rfl) ?_
  refine w_aload_n 1 dX11_weakest_0 rfl rfl ?_
  refine w_aload_n 2 dX11_weakest_1 rfl rfl ?_
  refine w_inv0 5 dX11_weakest_2 rfl mlX11_157 rfl rfl (d' := 2) (by decide) (Nat.le_of_ble_eq_true rfl) (c_X11_needWeb hC ?_)
  refine w_iload_n 6 dX11_weakest_5 rfl rfl ?_
  refine w_invs1 9 dX11_weakest_6 rfl slX11_154 (d' := 1) (by decide) (Nat.le_of_ble_eq_true rfl) (c_X11_needYears ?_)
  refine w_invs2 12 dX11_weakest_9 rfl slX11_126 (d' := 0) (by decide) (Nat.le_of_ble_eq_true rfl) (c_X11_firstOfN (Nat.lt_of_le_of_lt (t1_le _) (by decide)) ?_)
  rw [tY_first]
  refine w_inv1 15 dX11_weakest_12 rfl mlX11_87 rfl rfl (d' := 0) (by decide) (Nat.le_of_ble_eq_true rfl) (c_X11_refused (Nat.lt_of_le_of_lt (tY_le _ _) (by decide)) ?_)
  refine w_ifeqB 20 18 dX11_weakest_15 rfl rfl (fun c15 => ?_) (fun c15 => ?_)
  · skip
    have hz : tY (okW1 w) n = 0 := by simpa using c15
    have hC1 := hC.off (hC.ref (nI (tY (okW1 w) n)))
    obtain ⟨k1, k2⟩ := tY_0 hz
    have hw7 := hC.2.1.2.2.1.1
    obtain ⟨n, rfl, hn⟩ := tI_of k2
    refine w_aload_n 21 dX11_weakest_20 rfl rfl ?_
    refine w_iload_n 22 dX11_weakest_21 rfl rfl ?_
    refine w_inv1 25 dX11_weakest_22 rfl mlX11_145 rfl rfl (d' := 4) (by decide) (Nat.le_of_ble_eq_true rfl) (c_X11_goBehind hC1 hn (fun A2 hR hQ => ?_))
    refine w_aload_n 26 dX11_weakest_25 rfl rfl ?_
    refine w_getr 29 dX11_weakest_26 rfl faX11_19 rfl rfl rfl (r := .ref 26) rfl ?_
    refine w_iconst 30 dX11_weakest_29 rfl (v := nI 1) rfl ?_
    refine w_inv1 33 dX11_weakest_30 rfl mlX11_113 rfl rfl (d' := 1) (by decide) (Nat.le_of_ble_eq_true rfl) (c_X10_howMany_26 (hC1.off hQ.q).1 (by decide) ?_)
    refine w_ist2 34 dX11_weakest_33 rfl (by decide) rfl ?_
    exact a_X11_weakest hR (hC1.off hQ.q) (fun A3 hQ3 => kq (h A3 (hC.fin (hQ.tr hQ3)).1 (hC.fin (hQ.tr hQ3)).2) (by unfold rWeakest; rw [if_pos hz, cl_nI (show n < 2 ^ 31 by omega)]))
  · skip
    refine w_iconst 19 dX11_weakest_18 rfl (v := (-1)) rfl ?_
    refine wr_i dX11_weakest_19 rfl ?_
    exact kq (h _ (hC.ref _) (by dsimp only; rw [upd2_at])) (by unfold rWeakest; rw [if_neg (of_decide_eq_true c15)])
