/-! ===== the reference: thread, nail, ways, loads, offers ===== -/
theorem foesTo_0 {w : WT} {t : Nat} : ∀ {n : Nat}, (∀ i, i < n → w.2 3 i 0 ≠ t ∧ w.2 3 i 1 ≠ t) → foesTo w t n = 0
  | 0, _ => rfl
  | n + 1, h => by
    have ih := foesTo_0 (t := t) (n := n) (fun i hi => h i (by omega))
    obtain ⟨h0, h1⟩ := h n (by omega)
    simp only [foesTo, ih, if_neg h0, if_neg h1, Nat.or_zero]
theorem ok01_in (x : Int32) : decide (nI 0 ≤ x ∧ x ≤ nI 1) = ok01 x := by
  unfold ok01
  apply decide_eq_decide.mpr
  constructor
  · rintro ⟨h1, h2⟩
    obtain ⟨k, hk, rfl⟩ := nI_of (Int32.not_lt.mpr (show 0 ≤ x from h1))
    rw [nI_leI hk (by decide)] at h2
    rcases Nat.lt_or_ge k 1 with q | q
    · exact Or.inl (by rw [show k = 0 by omega])
    · exact Or.inr (by rw [show k = 1 by omega])
  · rintro (rfl | rfl)
    · exact ⟨by decide, by decide⟩
    · exact ⟨by decide, by decide⟩
def nqS (w : WT) (s : Nat → Nat) (a n : Nat) : Nat := sumTo (fun e => if natB w s a e then esW w s 0 e else 0) n
def qNail (w : WT) (s : Nat → Nat) (a x : Int32) : Int32 := if t1 (okR (w.1 1) a && ok01 x) = 0 then nI (if x = nI 0 then maskTo (natB w s (cl a)) (s 1) else nqS w s (cl a) (s 1)) else -1
/-! ways -/
def nxT (f1 f2 : Nat → Nat) (ok : Nat → Bool) (sd : Nat) : Nat → Nat
  | 0 => sd
  | e + 1 => if ok e && crB f1 f2 sd e then nxT f1 f2 ok sd e ||| (2 ^ f1 e ||| 2 ^ f2 e) else nxT f1 f2 ok sd e
def nxI (f1 f2 : Nat → Nat) (ok : Nat → Bool) (ne a : Nat) : Nat → Nat
  | 0 => 2 ^ a
  | k + 1 => nxT f1 f2 ok (nxI f1 f2 ok ne a k) ne
theorem nxT_lt {f1 f2 : Nat → Nat} {ok : Nat → Bool} {s0 : Nat} (h0 : s0 < 2 ^ 7) : ∀ {e : Nat}, (∀ i, i < e → f1 i < 7 ∧ f2 i < 7) → nxT f1 f2 ok s0 e < 2 ^ 7
  | 0, _ => h0
  | e + 1, h => by
    have ih := nxT_lt (ok := ok) h0 (e := e) (fun i hi => h i (by omega))
    simp only [nxT]
    split
    · exact Nat.or_lt_two_pow ih (Nat.or_lt_two_pow (pw7 (h e (by omega)).1) (pw7 (h e (by omega)).2))
    · exact ih
theorem nxI_lt {f1 f2 : Nat → Nat} {ok : Nat → Bool} {ne a : Nat} (ha : a < 7) (h : ∀ i, i < ne → f1 i < 7 ∧ f2 i < 7) : ∀ n, nxI f1 f2 ok ne a n < 2 ^ 7
  | 0 => pw7 ha
  | n + 1 => nxT_lt (nxI_lt ha h n) h
def nxW (w : WT) (s : Nat → Nat) (n a k : Nat) : Nat := nxI (e1W w s) (e2W w s) (fun e => decide (0 < esW w s n e)) (s 1) a k
def qApart (w : WT) (s : Nat → Nat) (a b n : Int32) : Int32 := if tY (okR (w.1 1) a && okR (w.1 1) b) n = 0 then enc2 (fst1 (fun k => (nxW w s (cl n) (cl a) k).testBit (cl b)) 7) else -1
/-! the weakest two -/
def wqI (f : Nat → Nat → Nat) (a : Nat) (x : Option Nat × Nat) : Nat → Option Nat × Nat
  | 0 => x
  | k + 1 => if f a (a + 1 + k) < (wqI f a x k).2 then (some (10 * a + (a + 1 + k)), f a (a + 1 + k)) else wqI f a x k
def wqO (f : Nat → Nat → Nat) (nn : Nat) : Nat → Option Nat × Nat
  | 0 => (none, 99999)
  | a + 1 => wqI f a (wqO f nn a) (nn - (a + 1))
theorem wqI_le {f : Nat → Nat → Nat} {a : Nat} {x : Option Nat × Nat} (h2 : x.2 ≤ 99999) : ∀ k : Nat, (wqI f a x k).2 ≤ 99999
  | 0 => h2
  | k + 1 => by
    have ih := wqI_le (f := f) (a := a) h2 k
    simp only [wqI]
    split
    · dsimp only; omega
    · exact ih
theorem wqO_le {f : Nat → Nat → Nat} {nn : Nat} : ∀ a : Nat, (wqO f nn a).2 ≤ 99999
  | 0 => Nat.le_refl _
  | a + 1 => wqI_le (wqO_le a) _
def qWeakest (w : WT) (s : Nat → Nat) (n : Int32) : Int32 := if tY (okW1 w) n = 0 then enc2 (wqO (LB w s (cl n) 0) (w.1 1) (w.1 1)).1 else -1
/-! loads -/
def ldQ (w : WT) (ne : Nat) (f1 f2 fs : Nat → Nat) (k : Nat) : Nat := leastF (fun sd => crs f1 f2 fs sd 0 ne) (sideP (w.2 4 k 0) (w.2 4 k 1)) (2 ^ w.1 1)
def ldN (w : WT) (ne : Nat) (f1 f2 fs : Nat → Nat) : Nat := maskTo (fun k => decide (w.2 4 k 2 ≤ ldQ w ne f1 f2 fs k)) (w.1 4)
def ldW (w : WT) (s : Nat → Nat) (n : Nat) : Nat := ldN w (s 1) (e1W w s) (e2W w s) (esW w s n)
def qBorne (w : WT) (s : Nat → Nat) (n : Int32) : Int32 := if tY (okW1 w) n = 0 then nI (ldW w s (cl n)) else -1
def qFallsIn (w : WT) (s : Nat → Nat) (k : Int32) : Int32 := if t1 (okR (w.1 4) k) = 0 then enc2 (fst1 (fun n => !(ldW w s n).testBit (cl k)) 61) else -1
def qSpare (w : WT) (s : Nat → Nat) (k : Int32) : Int32 := if t1 (okR (w.1 4) k) = 0 then nI (LB w s 0 0 (w.2 4 (cl k) 0) (w.2 4 (cl k) 1)) - nI (w.2 4 (cl k) 2) else -1000
theorem ldN_lt {w : WT} {ne : Nat} {f1 f2 fs : Nat → Nat} (h : w.1 4 ≤ 4) : ldN w ne f1 f2 fs < 16 := Nat.lt_of_lt_of_le (maskTo_lt _ _) (show 2 ^ w.1 4 ≤ 2 ^ 4 from Nat.pow_le_pow_right (by decide) h)
/-! offers laid behind -/
abbrev EY : Type := Nat × (Nat → Nat) × (Nat → Nat) × (Nat → Nat)
def ofY (w : WT) (o : Nat) (y : EY) : Nat → EY
  | 0 => y
  | k + 1 => if o.testBit k then ((ofY w o y k).1 + 1, updN (ofY w o y k).2.1 (ofY w o y k).1 (w.2 5 k 0), updN (ofY w o y k).2.2.1 (ofY w o y k).1 (w.2 5 k 1), updN (ofY w o y k).2.2.2 (ofY w o y k).1 (w.2 5 k 2)) else ofY w o y k
theorem ofY_le {w : WT} {o : Nat} {y : EY} : ∀ k, (ofY w o y k).1 ≤ y.1 + k
  | 0 => Nat.le_refl _
  | k + 1 => by
    have ih := ofY_le (w := w) (o := o) (y := y) k
    simp only [ofY]
    split
    · dsimp only; omega
    · omega
def yW (w : WT) (s : Nat → Nat) (o : Nat) : EY := ofY w o (s 1, e1W w s, e2W w s, esW w s 0) (w.1 5)
def ldO (w : WT) (s : Nat → Nat) (o : Nat) : Nat := ldN w (yW w s o).1 (yW w s o).2.1 (yW w s o).2.2.1 (yW w s o).2.2.2
def lsO (f : Nat → Nat) (o : Nat) : Option Nat → Bool
  | none => true
  | some b => decide (f o < f b)
def mqB (w : WT) (s : Nat → Nat) : Nat → Option Nat
  | 0 => none
  | o + 1 => if (lsO (costF w) o (mqB w s o) && decide (popc (ldO w s o) = w.1 4)) = true then some o else mqB w s o
def qMend (w : WT) (s : Nat → Nat) : Int32 := if t1 (okW1 w) = 0 then enc2 (mqB w s (2 ^ w.1 5)) else -1
def qMendCost (w : WT) (s : Nat → Nat) : Int32 := if t1 (okW1 w) = 0 then enc2 ((mqB w s (2 ^ w.1 5)).map (costF w)) else -1
def qBestOffer (w : WT) (s : Nat → Nat) : Int32 := if t1 (okW1 w) = 0 then enc2 (hvF (fun k => popc (ldO w s (2 ^ k))) (popc (ldW w s 0)) (w.1 5)).1 else -1
theorem mqB_lt {w : WT} {s : Nat → Nat} {b : Nat} : ∀ {n : Nat}, mqB w s n = some b → b < n
  | 0, h => by simp [mqB] at h
  | n + 1, h => by
    simp only [mqB] at h
    split at h
    · cases h; omega
    · have := mqB_lt h; omega
theorem c_X13_foesOf {K : Option Value → AH → Prop} {A : AH} {r : Value} {w : WT} {s : Nat → Nat} {t : Nat} (hC : MC w s A) (hX : XR w s A) (ht : t < s 1) (h : K (some (.int (nI (foesTo w t (w.1 3))))) A) : Ct yX13_foesOf mX13_foesOf 0 dM (GG (.ref 111) r) [.ref 100, .int (nI t)] A K := by
  have h8 := hX.2.2.1
  have hr := hC.rooms
  obtain ⟨v1, v2, v3⟩ := hX.1.2.2.2 t ht
  rcases v3 with ⟨hv, h2, hc⟩ | ⟨k, hk, hv, h2, c0, c1, c2, c3, c4⟩
  · exact t_X13_foesOf (by omega) hv (kq h (by rw [hC.1.2.2.2.1 t (by omega)]))
  · refine o_X13_foesOf (by omega) (by omega) hv (kq h ?_)
    rw [foesTo_0 (fun i hi => ?_)]
    have he := hC.ent (J := 3) (by decide) hi
    simp only [eOK] at he
    omega
set_option maxRecDepth 4000 in
theorem c_X13_thread {K : Option Value → AH → Prop} {A : AH} {r : Value} {w : WT} {s : Nat → Nat} (hC : MC w s A) {t x : Int32} (h : ∀ A', QM A A' → A'.1 100 1 = nI (t1 (okR (s 1) t && ok6 x)) → A'.1 100 2 = -1 → K (some (.int (rThread w s t x))) A') : Ct yX13_thread mX13_thread 2 dM (GG (.ref 111) r) [.ref 100, .int t, .int x] A K := by
  refine Ct.of [some (.ref 100), some (.int t), some (.int x)] rfl rfl rfl (Nat.le_of_ble_eq_true rfl) ?_
  refine w_aload_n 1 dX13_thread_0 rfl rfl ?_
  refine w_iconst 2 dX13_thread_1 rfl (v := nI 0) rfl ?_
  refine w_puti 5 dX13_thread_2 rfl faX13_46 rfl rfl rfl rfl ?_
  have hQ1 : QM A (upd2 A.1 100 0 (nI 0), A.2) := QM.rf.f (by decide) _
  have hC1 := hC.q hQ1
  refine w_aload_n 6 dX13_thread_5 rfl rfl ?_
  refine w_iload_n 7 dX13_thread_6 rfl rfl ?_
  refine w_inv1 10 dX13_thread_7 rfl mlX13_392 rfl rfl (d' := 0) (by decide) (Nat.le_of_ble_eq_true rfl) (c_X13_isThread hC1 ?_)
  refine w_ifeqB 23 13 dX13_thread_10 rfl rfl (fun c10 => ?_) (fun c10 => ?_)
  · skip
    refine w_aload_n 24 dX13_thread_23 rfl rfl ?_
    refine w_iconst 25 dX13_thread_24 rfl (v := nI 1) rfl ?_
    refine w_inv1 28 dX13_thread_25 rfl mlX13_52 rfl rfl (d' := 0) (by decide) (Nat.le_of_ble_eq_true rfl) (c_X13_refused (fun A2 hQ2 ht2 hw2 => ?_))
    refine wr_i dX13_thread_28 rfl ?_
    exact kq (h A2 (hQ1.tr hQ2) (by rw [ht2, c10]; rfl) hw2) (by unfold rThread; rw [c10]; rfl)
  · skip
    refine w_iload_n 14 dX13_thread_13 rfl rfl ?_
    refine w_iconst 15 dX13_thread_14 rfl (v := nI 0) rfl ?_
    refine w_bipush 17 dX13_thread_15 rfl (v := nI 6) rfl ?_
    refine w_invs3 20 dX13_thread_17 rfl slX13_121 (d' := 0) (by decide) (Nat.le_of_ble_eq_true rfl) (c_X13_in ?_)
    refine w_ifneB 29 23 dX13_thread_20 rfl rfl (fun c20 => ?_) (fun c20 => ?_)
    · skip
      have c20 : ok6 x = true := c20
      have hz : t1 (okR (s 1) t && ok6 x) = 0 := by rw [c10, c20]; rfl
      have hs8 := hC.2.2.2.1.2.1
      have hr := hC.rooms
      have hs2 := hC.2.2.2.1.2.2.1
      obtain ⟨t, rfl, ht⟩ := okR_of c10 (by omega)
      obtain ⟨c, rfl, hc6⟩ := ok6_of c20
      refine w_aload_n 30 dX13_thread_29 rfl rfl ?_
      refine w_inv0 33 dX13_thread_30 rfl mlX13_376 rfl rfl (d' := 0) (by decide) (Nat.le_of_ble_eq_true rfl) (c_X13_worksR hC1 (fun A3 hX hQ3 => ?_))
      have hC3 := hC1.q hQ3
      have hM3 := hC3.1
      have hrr : w.1 2 ≤ 7 ∧ w.1 5 ≤ 5 := ⟨hr.2.2.1, hr.2.2.2.2.2.1⟩
      refine w_iload_n 34 dX13_thread_33 rfl rfl ?_
      rcases c with _ | _ | _ | _ | _ | _ | _ | c
      rotate_left 7
      · omega
      · skip
        skip
        refine w_tabIn 72 dX13_thread_34 (by decide) (by decide) rfl rfl ?_
        refine w_aload_n 73 dX13_thread_72 rfl rfl ?_
        refine w_aload_n 74 dX13_thread_73 rfl rfl ?_
        refine w_iload_n 75 dX13_thread_74 rfl rfl ?_
        refine w_inv1 78 dX13_thread_75 rfl mlX13_357 rfl rfl (d' := 0) (by decide) (Nat.le_of_ble_eq_true rfl) (c_X13_kindOf hM3 hX hrr ht ?_)
        refine w_inv1 81 dX13_thread_78 rfl mlX13_56 rfl rfl (d' := 0) (by decide) (Nat.le_of_ble_eq_true rfl) (c_X13_good (fun A9 hQ9 ht9 hw9 => ?_))
        refine wr_i dX13_thread_81 rfl ?_
        exact kq (h A9 ((hQ1.tr hQ3).tr hQ9) (by rw [hz]; exact ht9) hw9) (by unfold rThread; rw [if_pos hz, cl_nI (show t < 2 ^ 31 by omega), cl_nI (by decide)]; rfl)
      · skip
        skip
        refine w_tabIn 82 dX13_thread_34 (by decide) (by decide) rfl rfl ?_
        refine w_aload_n 83 dX13_thread_82 rfl rfl ?_
        refine w_aload_n 84 dX13_thread_83 rfl rfl ?_
        refine w_iload_n 85 dX13_thread_84 rfl rfl ?_
        refine w_inv1 88 dX13_thread_85 rfl mlX13_363 rfl rfl (d' := 0) (by decide) (Nat.le_of_ble_eq_true rfl) (c_X13_oneOf hM3 hX hrr ht ?_)
        refine w_inv1 91 dX13_thread_88 rfl mlX13_56 rfl rfl (d' := 0) (by decide) (Nat.le_of_ble_eq_true rfl) (c_X13_good (fun A9 hQ9 ht9 hw9 => ?_))
        refine wr_i dX13_thread_91 rfl ?_
        exact kq (h A9 ((hQ1.tr hQ3).tr hQ9) (by rw [hz]; exact ht9) hw9) (by unfold rThread; rw [if_pos hz, cl_nI (show t < 2 ^ 31 by omega), cl_nI (by decide)]; rfl)
      · skip
        skip
        refine w_tabIn 92 dX13_thread_34 (by decide) (by decide) rfl rfl ?_
        refine w_aload_n 93 dX13_thread_92 rfl rfl ?_
        refine w_aload_n 94 dX13_thread_93 rfl rfl ?_
        refine w_iload_n 95 dX13_thread_94 rfl rfl ?_
        refine w_inv1 98 dX13_thread_95 rfl mlX13_366 rfl rfl (d' := 0) (by decide) (Nat.le_of_ble_eq_true rfl) (c_X13_twoOf hM3 hX hrr ht ?_)
        refine w_inv1 101 dX13_thread_98 rfl mlX13_56 rfl rfl (d' := 0) (by decide) (Nat.le_of_ble_eq_true rfl) (c_X13_good (fun A9 hQ9 ht9 hw9 => ?_))
        refine wr_i dX13_thread_101 rfl ?_
        exact kq (h A9 ((hQ1.tr hQ3).tr hQ9) (by rw [hz]; exact ht9) hw9) (by unfold rThread; rw [if_pos hz, cl_nI (show t < 2 ^ 31 by omega), cl_nI (by decide)]; rfl)
      · skip
        skip
        refine w_tabIn 102 dX13_thread_34 (by decide) (by decide) rfl rfl ?_
        refine w_aload_n 103 dX13_thread_102 rfl rfl ?_
        refine w_aload_n 104 dX13_thread_103 rfl rfl ?_
        refine w_iload_n 105 dX13_thread_104 rfl rfl ?_
        refine w_iconst 106 dX13_thread_105 rfl (v := nI 0) rfl ?_
        refine w_inv2 109 dX13_thread_106 rfl mlX13_369 rfl rfl (d' := 1) (by decide) (Nat.le_of_ble_eq_true rfl) (c_X13_strongOf hM3 hX hrr ht (by decide) ?_)
        refine w_inv1 112 dX13_thread_109 rfl mlX13_56 rfl rfl (d' := 0) (by decide) (Nat.le_of_ble_eq_true rfl) (c_X13_good (fun A9 hQ9 ht9 hw9 => ?_))
        refine wr_i dX13_thread_112 rfl ?_
        exact kq (h A9 ((hQ1.tr hQ3).tr hQ9) (by rw [hz]; exact ht9) hw9) (by unfold rThread; rw [if_pos hz, cl_nI (show t < 2 ^ 31 by omega), cl_nI (by decide)]; rfl)
      · skip
        skip
        refine w_tabIn 113 dX13_thread_34 (by decide) (by decide) rfl rfl ?_
        refine w_aload_n 114 dX13_thread_113 rfl rfl ?_
        refine w_aload_n 115 dX13_thread_114 rfl rfl ?_
        refine w_iload_n 116 dX13_thread_115 rfl rfl ?_
        refine w_inv1 119 dX13_thread_116 rfl mlX13_354 rfl rfl (d' := 0) (by decide) (Nat.le_of_ble_eq_true rfl) (c_X13_stepOf hM3 hX hrr ht ?_)
        refine w_inv1 122 dX13_thread_119 rfl mlX13_56 rfl rfl (d' := 0) (by decide) (Nat.le_of_ble_eq_true rfl) (c_X13_good (fun A9 hQ9 ht9 hw9 => ?_))
        refine wr_i dX13_thread_122 rfl ?_
        exact kq (h A9 ((hQ1.tr hQ3).tr hQ9) (by rw [hz]; exact ht9) hw9) (by unfold rThread; rw [if_pos hz, cl_nI (show t < 2 ^ 31 by omega), cl_nI (by decide)]; rfl)
      · skip
        skip
        refine w_tabIn 123 dX13_thread_34 (by decide) (by decide) rfl rfl ?_
        refine w_aload_n 124 dX13_thread_123 rfl rfl ?_
        refine w_aload_n 125 dX13_thread_124 rfl rfl ?_
        refine w_getr 128 dX13_thread_125 rfl faX13_17 rfl rfl rfl (r := .ref 102) rfl ?_
        refine w_bipush 130 dX13_thread_128 rfl (v := nI 16) rfl ?_
        refine w_iload_n 131 dX13_thread_130 rfl rfl ?_
        refine w_iaddN 132 dX13_thread_131 rfl ?_
        refine w_ialdv 133 dX13_thread_132 rfl rfl rfl (by decide) (by omega) (v := b2i ((s 2).testBit t)) (hC3.2.1.2.2.2 t ht).2.1 ?_
        refine w_inv1 136 dX13_thread_133 rfl mlX13_56 rfl rfl (d' := 0) (by decide) (Nat.le_of_ble_eq_true rfl) (c_X13_good (fun A9 hQ9 ht9 hw9 => ?_))
        refine wr_i dX13_thread_136 rfl ?_
        exact kq (h A9 ((hQ1.tr hQ3).tr hQ9) (by rw [hz]; exact ht9) hw9) (by unfold rThread; rw [if_pos hz, cl_nI (show t < 2 ^ 31 by omega), cl_nI (by decide)]; unfold thV; rw [if_neg (by decide), if_pos rfl]; cases (s 2).testBit t <;> rfl)
      · skip
        skip
        refine w_tabOut 137 dX13_thread_34 (by decide) rfl ?_
        refine w_aload_n 138 dX13_thread_137 rfl rfl ?_
        refine w_aload_n 139 dX13_thread_138 rfl rfl ?_
        refine w_iload_n 140 dX13_thread_139 rfl rfl ?_
        refine w_inv1 143 dX13_thread_140 rfl mlX13_395 rfl rfl (d' := 0) (by decide) (Nat.le_of_ble_eq_true rfl) (c_X13_foesOf hC3 hX ht ?_)
        refine w_inv1 146 dX13_thread_143 rfl mlX13_56 rfl rfl (d' := 0) (by decide) (Nat.le_of_ble_eq_true rfl) (c_X13_good (fun A9 hQ9 ht9 hw9 => ?_))
        refine wr_i dX13_thread_146 rfl ?_
        exact kq (h A9 ((hQ1.tr hQ3).tr hQ9) (by rw [hz]; exact ht9) hw9) (by unfold rThread; rw [if_pos hz, cl_nI (show t < 2 ^ 31 by omega), cl_nI (by decide)]; rfl)
    · skip
      refine w_aload_n 24 dX13_thread_23 rfl rfl ?_
      refine w_iconst 25 dX13_thread_24 rfl (v := nI 1) rfl ?_
      refine w_inv1 28 dX13_thread_25 rfl mlX13_52 rfl rfl (d' := 0) (by decide) (Nat.le_of_ble_eq_true rfl) (c_X13_refused (fun A2 hQ2 ht2 hw2 => ?_))
      refine wr_i dX13_thread_28 rfl ?_
      have c20 : ok6 x = false := c20
      exact kq (h A2 (hQ1.tr hQ2) (by rw [ht2, c10, c20]; rfl) hw2) (by unfold rThread; rw [c10, c20]; rfl)

set_option maxRecDepth 4000 in
theorem a_X13_nail {K : Option Value → AH → Prop} {A : AH} {r : Value} {w : WT} {s : Nat → Nat} {a : Nat} {x : Int32} (hY : RY (s 1) (e1W w s) (e2W w s) (esW w s 0) A) (h8 : s 1 ≤ 8) (ha : a < 7) (h : ∀ A', QM A A' → A'.1 100 1 = nI 0 → A'.1 100 2 = -1 → K (some (.int (nI (if x = nI 0 then maskTo (natB w s a) (s 1) else nqS w s a (s 1))))) A') : WP mX13_nail 4 dM (GG (.ref 111) r) 33 [some (.ref 100), some (.int (nI a)), some (.int x), none, none, none] [] A K := by
  have lp41 : ∀ (nf : Nat) (i : Nat), i ≤ s 1 → s 1 - i < nf → WP mX13_nail 4 dM (GG (.ref 111) r) 41 [some (.ref 100), some (.int (nI a)), some (.int x), some (.int (nI (maskTo (natB w s a) i))), some (.int (nI (nqS w s a i))), some (.int (nI i))] [] A K := by
    intro nf
    induction nf with
    | zero => intros; omega
    | succ nf ih =>
      intro i hi hms
      refine w_iload 43 dX13_nail_41 rfl rfl ?_
      refine w_aload_n 44 dX13_nail_43 rfl rfl ?_
      refine w_getiv 47 dX13_nail_44 rfl faX13_360 rfl rfl rfl hY.1 ?_
      refine w_icgeN 110 50 dX13_nail_47 rfl rfl (by omega) (by omega) (fun c47 => ?_) (fun c47 => ?_)
      · skip
        have e : i = s 1 := by omega
        subst e
        refine w_aload_n 111 dX13_nail_110 rfl rfl ?_
        refine w_iload_n 112 dX13_nail_111 rfl rfl ?_
        refine w_ifne 119 115 dX13_nail_112 rfl rfl (fun c112 => ?_) (fun c112 => ?_)
        · skip
          refine w_iload 121 dX13_nail_119 rfl rfl ?_
          refine w_inv1 124 dX13_nail_121 rfl mlX13_56 rfl rfl (d' := 0) (by decide) (Nat.le_of_ble_eq_true rfl) (c_X13_good (fun A9 hQ9 ht9 hw9 => ?_))
          refine wr_i dX13_nail_124 rfl ?_
          exact kq (h A9 hQ9 ht9 hw9) (by rw [if_neg (show ¬ x = nI 0 from c112)])
        · skip
          refine w_iload_n 116 dX13_nail_115 rfl rfl ?_
          refine w_goto 121 dX13_nail_116 rfl ?_
          refine w_inv1 124 dX13_nail_121 rfl mlX13_56 rfl rfl (d' := 0) (by decide) (Nat.le_of_ble_eq_true rfl) (c_X13_good (fun A9 hQ9 ht9 hw9 => ?_))
          refine wr_i dX13_nail_124 rfl ?_
          exact kq (h A9 hQ9 ht9 hw9) (by rw [if_pos (show x = nI 0 from c112)])
      · skip
        obtain ⟨y1, y2, y3, y4, y5, y6⟩ := hY.2.2 i (by omega)
        refine w_aload_n 51 dX13_nail_50 rfl rfl ?_
        refine w_getr 54 dX13_nail_51 rfl faX13_30 rfl rfl rfl (r := .ref 106) rfl ?_
        refine w_iload 56 dX13_nail_54 rfl rfl ?_
        refine w_ialdv 57 dX13_nail_56 rfl rfl rfl (by decide) (by omega) y1 ?_
        refine w_iload_n 58 dX13_nail_57 rfl rfl ?_
        refine w_iceqN 72 61 dX13_nail_58 rfl rfl (by omega) (by omega) (fun c58 => ?_) (fun c58 => ?_)
        · skip
          refine w_aload_n 73 dX13_nail_72 rfl rfl ?_
          refine w_getr 76 dX13_nail_73 rfl faX13_36 rfl rfl rfl (r := .ref 108) rfl ?_
          refine w_iload 78 dX13_nail_76 rfl rfl ?_
          refine w_ialdv 79 dX13_nail_78 rfl rfl rfl (by decide) (by omega) y3 ?_
          refine w_ifneN 85 82 dX13_nail_79 rfl rfl (by omega) (fun c79 => ?_) (fun c79 => ?_)
          · skip
            refine w_iload_n 86 dX13_nail_85 rfl rfl ?_
            refine w_iconst 87 dX13_nail_86 rfl (v := nI 1) rfl ?_
            refine w_iload 89 dX13_nail_87 rfl rfl ?_
            refine w_shl1 90 dX13_nail_89 rfl (by omega) ?_
            refine w_ior 91 dX13_nail_90 rfl ?_
            refine w_top (mask_or _ _) ?_
            refine w_ist3 92 dX13_nail_91 rfl (by decide) rfl ?_
            refine w_iload 94 dX13_nail_92 rfl rfl ?_
            refine w_aload_n 95 dX13_nail_94 rfl rfl ?_
            refine w_getr 98 dX13_nail_95 rfl faX13_36 rfl rfl rfl (r := .ref 108) rfl ?_
            refine w_iload 100 dX13_nail_98 rfl rfl ?_
            refine w_ialdv 101 dX13_nail_100 rfl rfl rfl (by decide) (by omega) y3 ?_
            refine w_iaddN 102 dX13_nail_101 rfl ?_
            refine w_ist4 104 dX13_nail_102 rfl (by decide) rfl ?_
            refine w_inc5 107 dX13_nail_104 rfl (by decide) rfl (v := nI (_ + 1)) (nI_1 _) ?_
            refine w_goto 41 dX13_nail_107 rfl ?_
            refine wp_eq ?_ rfl rfl (ih (i + 1) (by omega) (by omega))
            simp [maskTo, nqS, sumTo, natB, c58, show 0 < esW w s 0 i by omega]
          · skip
            refine w_goto 104 dX13_nail_82 rfl ?_
            refine w_inc5 107 dX13_nail_104 rfl (by decide) rfl (v := nI (_ + 1)) (nI_1 _) ?_
            refine w_goto 41 dX13_nail_107 rfl ?_
            refine wp_eq ?_ rfl rfl (ih (i + 1) (by omega) (by omega))
            simp [maskTo, nqS, sumTo, natB, c58, c79]
        · skip
          refine w_aload_n 62 dX13_nail_61 rfl rfl ?_
          refine w_getr 65 dX13_nail_62 rfl faX13_33 rfl rfl rfl (r := .ref 107) rfl ?_
          refine w_iload 67 dX13_nail_65 rfl rfl ?_
          refine w_ialdv 68 dX13_nail_67 rfl rfl rfl (by decide) (by omega) y2 ?_
          refine w_iload_n 69 dX13_nail_68 rfl rfl ?_
          refine w_icneN 104 72 dX13_nail_69 rfl rfl (by omega) (by omega) (fun c69 => ?_) (fun c69 => ?_)
          · skip
            refine w_inc5 107 dX13_nail_104 rfl (by decide) rfl (v := nI (_ + 1)) (nI_1 _) ?_
            refine w_goto 41 dX13_nail_107 rfl ?_
            refine wp_eq ?_ rfl rfl (ih (i + 1) (by omega) (by omega))
            simp [maskTo, nqS, sumTo, natB, c58, c69]
          · skip
            refine w_aload_n 73 dX13_nail_72 rfl rfl ?_
            refine w_getr 76 dX13_nail_73 rfl faX13_36 rfl rfl rfl (r := .ref 108) rfl ?_
            refine w_iload 78 dX13_nail_76 rfl rfl ?_
            refine w_ialdv 79 dX13_nail_78 rfl rfl rfl (by decide) (by omega) y3 ?_
            refine w_ifneN 85 82 dX13_nail_79 rfl rfl (by omega) (fun c79 => ?_) (fun c79 => ?_)
            · skip
              refine w_iload_n 86 dX13_nail_85 rfl rfl ?_
              refine w_iconst 87 dX13_nail_86 rfl (v := nI 1) rfl ?_
              refine w_iload 89 dX13_nail_87 rfl rfl ?_
              refine w_shl1 90 dX13_nail_89 rfl (by omega) ?_
              refine w_ior 91 dX13_nail_90 rfl ?_
              refine w_top (mask_or _ _) ?_
              refine w_ist3 92 dX13_nail_91 rfl (by decide) rfl ?_
              refine w_iload 94 dX13_nail_92 rfl rfl ?_
              refine w_aload_n 95 dX13_nail_94 rfl rfl ?_
              refine w_getr 98 dX13_nail_95 rfl faX13_36 rfl rfl rfl (r := .ref 108) rfl ?_
              refine w_iload 100 dX13_nail_98 rfl rfl ?_
              refine w_ialdv 101 dX13_nail_100 rfl rfl rfl (by decide) (by omega) y3 ?_
              refine w_iaddN 102 dX13_nail_101 rfl ?_
              refine w_ist4 104 dX13_nail_102 rfl (by decide) rfl ?_
              refine w_inc5 107 dX13_nail_104 rfl (by decide) rfl (v := nI (_ + 1)) (nI_1 _) ?_
              refine w_goto 41 dX13_nail_107 rfl ?_
              refine wp_eq ?_ rfl rfl (ih (i + 1) (by omega) (by omega))
              simp [maskTo, nqS, sumTo, natB, c58, c69, show 0 < esW w s 0 i by omega]
            · skip
              refine w_goto 104 dX13_nail_82 rfl ?_
              refine w_inc5 107 dX13_nail_104 rfl (by decide) rfl (v := nI (_ + 1)) (nI_1 _) ?_
              refine w_goto 41 dX13_nail_107 rfl ?_
              refine wp_eq ?_ rfl rfl (ih (i + 1) (by omega) (by omega))
              simp [maskTo, nqS, sumTo, natB, c58, c69, c79]
  refine w_iconst 34 dX13_nail_33 rfl (v := nI 0) rfl ?_
  refine w_ist3 35 dX13_nail_34 rfl (by decide) rfl ?_
  refine w_iconst 36 dX13_nail_35 rfl (v := nI 0) rfl ?_
  refine w_ist4 38 dX13_nail_36 rfl (by decide) rfl ?_
  refine w_iconst 39 dX13_nail_38 rfl (v := nI 0) rfl ?_
  refine w_ist5 41 dX13_nail_39 rfl (by decide) rfl ?_
  exact lp41 _ 0 (Nat.zero_le _) (Nat.lt_succ_self _)

set_option maxRecDepth 4000 in
theorem c_X13_nail {K : Option Value → AH → Prop} {A : AH} {r : Value} {w : WT} {s : Nat → Nat} (hC : MC w s A) {a x : Int32} (h : ∀ A', QM A A' → A'.1 100 1 = nI (t1 (okR (w.1 1) a && ok01 x)) → A'.1 100 2 = -1 → K (some (.int (qNail w s a x))) A') : Ct yX13_nail mX13_nail 4 dM (GG (.ref 111) r) [.ref 100, .int a, .int x] A K := by
  refine Ct.of [some (.ref 100), some (.int a), some (.int x), none, none, none] rfl rfl rfl (Nat.le_of_ble_eq_true rfl) ?_
  refine w_aload_n 1 dX13_nail_0 rfl rfl ?_
  refine w_iconst 2 dX13_nail_1 rfl (v := nI 0) rfl ?_
  refine w_puti 5 dX13_nail_2 rfl faX13_46 rfl rfl rfl rfl ?_
  have hQ1 : QM A (upd2 A.1 100 0 (nI 0), A.2) := QM.rf.f (by decide) _
  have hC1 := hC.q hQ1
  refine w_aload_n 6 dX13_nail_5 rfl rfl ?_
  refine w_iload_n 7 dX13_nail_6 rfl rfl ?_
  refine w_inv1 10 dX13_nail_7 rfl mlX13_351 rfl rfl (d' := 0) (by decide) (Nat.le_of_ble_eq_true rfl) (c_X13_isNail hC1 ?_)
  refine w_ifeqB 22 13 dX13_nail_10 rfl rfl (fun c10 => ?_) (fun c10 => ?_)
  · skip
    refine w_aload_n 23 dX13_nail_22 rfl rfl ?_
    refine w_iconst 24 dX13_nail_23 rfl (v := nI 1) rfl ?_
    refine w_inv1 27 dX13_nail_24 rfl mlX13_52 rfl rfl (d' := 0) (by decide) (Nat.le_of_ble_eq_true rfl) (c_X13_refused (fun A2 hQ2 ht2 hw2 => ?_))
    refine wr_i dX13_nail_27 rfl ?_
    exact kq (h A2 (hQ1.tr hQ2) (by rw [ht2, c10]; rfl) hw2) (by unfold qNail; rw [c10]; rfl)
  · skip
    refine w_iload_n 14 dX13_nail_13 rfl rfl ?_
    refine w_iconst 15 dX13_nail_14 rfl (v := nI 0) rfl ?_
    refine w_iconst 16 dX13_nail_15 rfl (v := nI 1) rfl ?_
    refine w_invs3 19 dX13_nail_16 rfl slX13_121 (d' := 0) (by decide) (Nat.le_of_ble_eq_true rfl) (c_X13_in ?_)
    rw [ok01_in]
    refine w_ifneB 28 22 dX13_nail_19 rfl rfl (fun c19 => ?_) (fun c19 => ?_)
    · skip
      have hz : t1 (okR (w.1 1) a && ok01 x) = 0 := by rw [c10, c19]; rfl
      have hr := hC.rooms
      have h8 := hC.2.2.2.1.2.1
      obtain ⟨a, rfl, ha⟩ := okR_of c10 (by omega)
      refine w_aload_n 29 dX13_nail_28 rfl rfl ?_
      refine w_iconst 30 dX13_nail_29 rfl (v := nI 0) rfl ?_
      refine w_inv1 33 dX13_nail_30 rfl mlX13_398 rfl rfl (d' := 3) (by decide) (Nat.le_of_ble_eq_true rfl) (c_X13_lays hC1 (by decide) (fun A3 hY hX hQ3 => ?_))
      exact a_X13_nail hY h8 (by omega) (fun A9 hQ9 ht9 hw9 => kq (h A9 ((hQ1.tr hQ3).tr hQ9) (by rw [hz]; exact ht9) hw9) (by unfold qNail; rw [if_pos hz, cl_nI (show a < 2 ^ 31 by omega)]))
    · skip
      refine w_aload_n 23 dX13_nail_22 rfl rfl ?_
      refine w_iconst 24 dX13_nail_23 rfl (v := nI 1) rfl ?_
      refine w_inv1 27 dX13_nail_24 rfl mlX13_52 rfl rfl (d' := 0) (by decide) (Nat.le_of_ble_eq_true rfl) (c_X13_refused (fun A2 hQ2 ht2 hw2 => ?_))
      refine wr_i dX13_nail_27 rfl ?_
      exact kq (h A2 (hQ1.tr hQ2) (by rw [ht2, c10, c19]; rfl) hw2) (by unfold qNail; rw [c10, c19]; rfl)

set_option maxRecDepth 4000 in
theorem a_X13_apart {K : Option Value → AH → Prop} {A : AH} {r : Value} {w : WT} {s : Nat → Nat} {a b n : Nat} {z : Int32} (hY : RY (s 1) (e1W w s) (e2W w s) (esW w s n) A) (h8 : s 1 ≤ 8) (ha : a < 7) (hb : b < 7) (h : ∀ A', QM A A' → A'.1 100 1 = nI 0 → A'.1 100 2 = -1 → K (some (.int (enc2 (fst1 (fun k => (nxW w s n a k).testBit b) 7)))) A') : WP mX13_apart 4 dM (GG (.ref 111) r) 50 [some (.ref 100), some (.int (nI a)), some (.int (nI b)), some (.int (nI n)), some (.int z), none, none, none, none] [] A K := by
  have hf : ∀ i, i < s 1 → e1W w s i < 7 ∧ e2W w s i < 7 := fun i hi => ⟨(hY.2.2 i hi).2.2.2.1, (hY.2.2 i hi).2.2.2.2.1⟩
  have lp88 : ∀ (nf : Nat) (k i : Nat), k ≤ 7 → i ≤ s 1 → (∀ y, WP mX13_apart 4 dM (GG (.ref 111) r) 152 [some (.ref 100), some (.int (nI a)), some (.int (nI b)), some (.int (nI n)), some (.int z), some (.int (nI (nxW w s n a (k + 1)))), some (.int (nI k)), y, none] [] A K) → s 1 - i < nf → WP mX13_apart 4 dM (GG (.ref 111) r) 88 [some (.ref 100), some (.int (nI a)), some (.int (nI b)), some (.int (nI n)), some (.int z), some (.int (nI (nxW w s n a k))), some (.int (nI k)), some (.int (nI (nxT (e1W w s) (e2W w s) (fun e => decide (0 < esW w s n e)) (nxW w s n a k) i))), some (.int (nI i))] [] A K := by
    intro nf
    induction nf with
    | zero => intros; omega
    | succ nf ih =>
      intro k i hk7 hi hk hms
      have hlt : nxW w s n a k < 2 ^ 7 := nxI_lt ha hf k
      refine w_iload 90 dX13_apart_88 rfl rfl ?_
      refine w_aload_n 91 dX13_apart_90 rfl rfl ?_
      refine w_getiv 94 dX13_apart_91 rfl faX13_360 rfl rfl rfl hY.1 ?_
      refine w_icgeN 148 97 dX13_apart_94 rfl rfl (by omega) (by omega) (fun c94 => ?_) (fun c94 => ?_)
      · skip
        refine w_iload 150 dX13_apart_148 rfl rfl ?_
        refine w_ist5 152 dX13_apart_150 rfl (by decide) rfl ?_
        have e : i = s 1 := by omega
        subst e
        refine wp_to ?_ rfl rfl (hk none)
        simp [lle]
        rfl
      · skip
        refine w_aload_n 98 dX13_apart_97 rfl rfl ?_
        refine w_getr 101 dX13_apart_98 rfl faX13_36 rfl rfl rfl (r := .ref 108) rfl ?_
        refine w_iload 103 dX13_apart_101 rfl rfl ?_
        refine w_ialdv 104 dX13_apart_103 rfl rfl rfl (by decide) (by omega) (hY.2.2 i (by omega)).2.2.1 ?_
        refine w_ifleN 142 107 dX13_apart_104 rfl rfl (by have := (hY.2.2 i (by omega)).2.2.2.2.2; omega) (fun c104 => ?_) (fun c104 => ?_)
        · skip
          refine w_inc8 145 dX13_apart_142 rfl (by decide) rfl (v := nI (_ + 1)) (nI_1 _) ?_
          refine w_goto 88 dX13_apart_145 rfl ?_
          refine wp_eq ?_ rfl rfl (ih k (i + 1) (by omega) (by omega) hk (by omega))
          simp [nxT, c104]
        · skip
          refine w_aload_n 108 dX13_apart_107 rfl rfl ?_
          refine w_iload 110 dX13_apart_108 rfl rfl ?_
          refine w_iload 112 dX13_apart_110 rfl rfl ?_
          refine w_inv2 115 dX13_apart_112 rfl mlX13_382 rfl rfl (d' := 1) (by decide) (Nat.le_of_ble_eq_true rfl) (c_X13_isCrossing hY (by omega) c94 ?_)
          obtain ⟨y4, y5⟩ := hf i c94
          refine w_ifeqB 142 118 dX13_apart_115 rfl rfl (fun c115 => ?_) (fun c115 => ?_)
          · skip
            refine w_inc8 145 dX13_apart_142 rfl (by decide) rfl (v := nI (_ + 1)) (nI_1 _) ?_
            refine w_goto 88 dX13_apart_145 rfl ?_
            refine wp_eq ?_ rfl rfl (ih k (i + 1) (by omega) (by omega) hk (by omega))
            simp [nxT, c104, c115]
          · skip
            refine w_iload 120 dX13_apart_118 rfl rfl ?_
            refine w_iconst 121 dX13_apart_120 rfl (v := nI 1) rfl ?_
            refine w_aload_n 122 dX13_apart_121 rfl rfl ?_
            refine w_getr 125 dX13_apart_122 rfl faX13_30 rfl rfl rfl (r := .ref 106) rfl ?_
            refine w_iload 127 dX13_apart_125 rfl rfl ?_
            refine w_ialdv 128 dX13_apart_127 rfl rfl rfl (by decide) (by omega) (hY.2.2 i (by omega)).1 ?_
            refine w_shl1 129 dX13_apart_128 rfl (by omega) ?_
            refine w_iconst 130 dX13_apart_129 rfl (v := nI 1) rfl ?_
            refine w_aload_n 131 dX13_apart_130 rfl rfl ?_
            refine w_getr 134 dX13_apart_131 rfl faX13_33 rfl rfl rfl (r := .ref 107) rfl ?_
            refine w_iload 136 dX13_apart_134 rfl rfl ?_
            refine w_ialdv 137 dX13_apart_136 rfl rfl rfl (by decide) (by omega) (hY.2.2 i (by omega)).2.1 ?_
            refine w_shl1 138 dX13_apart_137 rfl (by omega) ?_
            refine w_ior 139 dX13_apart_138 rfl ?_
            refine w_top (nI_or _ _) ?_
            refine w_ior 140 dX13_apart_139 rfl ?_
            refine w_top (nI_or _ _) ?_
            refine w_ist7 142 dX13_apart_140 rfl (by decide) rfl ?_
            refine w_inc8 145 dX13_apart_142 rfl (by decide) rfl (v := nI (_ + 1)) (nI_1 _) ?_
            refine w_goto 88 dX13_apart_145 rfl ?_
            refine wp_eq ?_ rfl rfl (ih k (i + 1) (by omega) (by omega) hk (by omega))
            simp [nxT, c104, c115]
  have lp58 : ∀ (nf : Nat) (k : Nat) (y : Option Value), k ≤ 7 → fst1 (fun k => (nxW w s n a k).testBit b) k = none → 7 - k < nf → WP mX13_apart 4 dM (GG (.ref 111) r) 58 [some (.ref 100), some (.int (nI a)), some (.int (nI b)), some (.int (nI n)), some (.int z), some (.int (nI (nxW w s n a k))), some (.int (nI k)), y, none] [] A K := by
    intro nf
    induction nf with
    | zero => intros; omega
    | succ nf ih =>
      intro k y hk hf2 hms
      have hlt : nxW w s n a k < 2 ^ 7 := nxI_lt ha hf k
      refine w_iload 60 dX13_apart_58 rfl rfl ?_
      refine w_bipush 62 dX13_apart_60 rfl (v := nI 7) rfl ?_
      refine w_icgeN 158 65 dX13_apart_62 rfl rfl (by omega) (by omega) (fun c62 => ?_) (fun c62 => ?_)
      · skip
        refine w_aload_n 159 dX13_apart_158 rfl rfl ?_
        refine w_bipush 161 dX13_apart_159 rfl (v := (-2)) rfl ?_
        refine w_inv1 164 dX13_apart_161 rfl mlX13_56 rfl rfl (d' := 0) (by decide) (Nat.le_of_ble_eq_true rfl) (c_X13_good (fun A9 hQ9 ht9 hw9 => ?_))
        refine wr_i dX13_apart_164 rfl ?_
        have e : k = 7 := by omega
        subst e
        exact kq (h A9 hQ9 ht9 hw9) (by rw [hf2]; rfl)
      · skip
        refine w_iload 67 dX13_apart_65 rfl rfl ?_
        refine w_iload_n 68 dX13_apart_67 rfl rfl ?_
        refine w_invs2 71 dX13_apart_68 rfl slX13_277 (d' := 0) (by decide) (Nat.le_of_ble_eq_true rfl) (c_X13_bit ?_)
        rw [hasB_nI (by omega) (by omega)]
        refine w_ifeqB 81 74 dX13_apart_71 rfl rfl (fun c71 => ?_) (fun c71 => ?_)
        · skip
          refine w_iload 83 dX13_apart_81 rfl rfl ?_
          refine w_ist7 85 dX13_apart_83 rfl (by decide) rfl ?_
          refine w_iconst 86 dX13_apart_85 rfl (v := nI 0) rfl ?_
          refine w_ist8 88 dX13_apart_86 rfl (by decide) rfl ?_
          refine lp88 _ k 0 (by omega) (Nat.zero_le _) (fun y => ?_) (Nat.lt_succ_self _)
          refine w_inc6 155 dX13_apart_152 rfl (by decide) rfl (v := nI (_ + 1)) (nI_1 _) ?_
          refine w_goto 58 dX13_apart_155 rfl ?_
          refine wp_to ?_ rfl rfl (ih (k + 1) none (by omega) (by simp [fst1, hf2, c71]) (by omega))
          simp [lle]
        · skip
          refine w_aload_n 75 dX13_apart_74 rfl rfl ?_
          refine w_iload 77 dX13_apart_75 rfl rfl ?_
          refine w_inv1 80 dX13_apart_77 rfl mlX13_56 rfl rfl (d' := 0) (by decide) (Nat.le_of_ble_eq_true rfl) (c_X13_good (fun A9 hQ9 ht9 hw9 => ?_))
          refine wr_i dX13_apart_80 rfl ?_
          exact kq (h A9 hQ9 ht9 hw9) (by rw [fst1_some hf2 c71 c62]; rfl)
  refine w_iconst 51 dX13_apart_50 rfl (v := nI 1) rfl ?_
  refine w_iload_n 52 dX13_apart_51 rfl rfl ?_
  refine w_shl1 53 dX13_apart_52 rfl (by omega) ?_
  refine w_ist5 55 dX13_apart_53 rfl (by decide) rfl ?_
  refine w_iconst 56 dX13_apart_55 rfl (v := nI 0) rfl ?_
  refine w_ist6 58 dX13_apart_56 rfl (by decide) rfl ?_
  exact lp58 _ 0 none (Nat.zero_le _) rfl (Nat.lt_succ_self _)

set_option maxRecDepth 4000 in
theorem a_X13_apartB {K : Option Value → AH → Prop} {A : AH} {r : Value} {w : WT} {s : Nat → Nat} {a b n : Int32} {A0 : AH} (hC1 : MC w s A) (hQ1 : QM A0 A) (h : ∀ A', QM A0 A' → A'.1 100 1 = nI (tY (okR (w.1 1) a && okR (w.1 1) b) n) → A'.1 100 2 = -1 → K (some (.int (qApart w s a b n))) A') : WP mX13_apart 4 dM (GG (.ref 111) r) 27 [some (.ref 100), some (.int a), some (.int b), some (.int n), none, none, none, none, none] [.int (b2i (okR (w.1 1) a && okR (w.1 1) b)), .ref 100] A K := by
  refine w_iload_n 28 dX13_apart_27 rfl rfl ?_
  refine w_inv2 31 dX13_apart_28 rfl mlX13_401 rfl rfl (d' := 1) (by decide) (Nat.le_of_ble_eq_true rfl) (c_X13_refusesYears (b := okR (w.1 1) a && okR (w.1 1) b) ?_)
  refine w_ist4 33 dX13_apart_31 rfl (by decide) rfl ?_
  refine w_iload 35 dX13_apart_33 rfl rfl ?_
  refine w_ifleN 45 38 dX13_apart_35 rfl rfl (by have := tY_le (okR (w.1 1) a && okR (w.1 1) b) n; omega) (fun c35 => ?_) (fun c35 => ?_)
  · skip
    have hz := c35
    obtain ⟨k1, k2⟩ := tY_0 hz
    have hr := hC1.rooms
    have h8 := hC1.2.2.2.1.2.1
    rw [Bool.and_eq_true] at k1
    obtain ⟨a, rfl, ha⟩ := okR_of k1.1 (by omega)
    obtain ⟨b, rfl, hb⟩ := okR_of k1.2 (by omega)
    obtain ⟨n, rfl, hn⟩ := tI_of k2
    refine w_aload_n 46 dX13_apart_45 rfl rfl ?_
    refine w_iload_n 47 dX13_apart_46 rfl rfl ?_
    refine w_inv1 50 dX13_apart_47 rfl mlX13_398 rfl rfl (d' := 3) (by decide) (Nat.le_of_ble_eq_true rfl) (c_X13_lays hC1 hn (fun A3 hY hX hQ3 => ?_))
    exact a_X13_apart hY h8 (by omega) (by omega) (fun A9 hQ9 ht9 hw9 => kq (h A9 ((hQ1.tr hQ3).tr hQ9) (by rw [hz]; exact ht9) hw9) (by unfold qApart; rw [if_pos hz, cl_nI (show a < 2 ^ 31 by omega), cl_nI (show b < 2 ^ 31 by omega), cl_nI (show n < 2 ^ 31 by omega)]))
  · skip
    refine w_aload_n 39 dX13_apart_38 rfl rfl ?_
    refine w_iload 41 dX13_apart_39 rfl rfl ?_
    refine w_inv1 44 dX13_apart_41 rfl mlX13_52 rfl rfl (d' := 0) (by decide) (Nat.le_of_ble_eq_true rfl) (c_X13_refused (fun A2 hQ2 ht2 hw2 => ?_))
    refine wr_i dX13_apart_44 rfl ?_
    exact kq (h A2 (hQ1.tr hQ2) ht2 hw2) (by unfold qApart; rw [if_neg (Nat.ne_of_gt c35)])

set_option maxRecDepth 4000 in
theorem c_X13_apart {K : Option Value → AH → Prop} {A : AH} {r : Value} {w : WT} {s : Nat → Nat} (hC : MC w s A) {a b n : Int32} (h : ∀ A', QM A A' → A'.1 100 1 = nI (tY (okR (w.1 1) a && okR (w.1 1) b) n) → A'.1 100 2 = -1 → K (some (.int (qApart w s a b n))) A') : Ct yX13_apart mX13_apart 4 dM (GG (.ref 111) r) [.ref 100, .int a, .int b, .int n] A K := by
  refine Ct.of [some (.ref 100), some (.int a), some (.int b), some (.int n), none, none, none, none, none] rfl rfl rfl (Nat.le_of_ble_eq_true rfl) ?_
  refine w_aload_n 1 dX13_apart_0 rfl rfl ?_
  refine w_iconst 2 dX13_apart_1 rfl (v := nI 0) rfl ?_
  refine w_puti 5 dX13_apart_2 rfl faX13_46 rfl rfl rfl rfl ?_
  have hQ1 : QM A (upd2 A.1 100 0 (nI 0), A.2) := QM.rf.f (by decide) _
  have hC1 := hC.q hQ1
  refine w_aload_n 6 dX13_apart_5 rfl rfl ?_
  refine w_aload_n 7 dX13_apart_6 rfl rfl ?_
  refine w_iload_n 8 dX13_apart_7 rfl rfl ?_
  refine w_inv1 11 dX13_apart_8 rfl mlX13_351 rfl rfl (d' := 0) (by decide) (Nat.le_of_ble_eq_true rfl) (c_X13_isNail hC1 ?_)
  refine w_ifeqB 26 14 dX13_apart_11 rfl rfl (fun c11 => ?_) (fun c11 => ?_)
  · skip
    refine w_iconst 27 dX13_apart_26 rfl (v := nI 0) rfl ?_
    refine wp_eq rfl ?_ rfl (a_X13_apartB hC1 hQ1 h)
    rw [c11]
    rfl
  · skip
    refine w_aload_n 15 dX13_apart_14 rfl rfl ?_
    refine w_iload_n 16 dX13_apart_15 rfl rfl ?_
    refine w_inv1 19 dX13_apart_16 rfl mlX13_351 rfl rfl (d' := 0) (by decide) (Nat.le_of_ble_eq_true rfl) (c_X13_isNail hC1 ?_)
    refine w_ifeqB 26 22 dX13_apart_19 rfl rfl (fun c19 => ?_) (fun c19 => ?_)
    · skip
      refine w_iconst 27 dX13_apart_26 rfl (v := nI 0) rfl ?_
      refine wp_eq rfl ?_ rfl (a_X13_apartB hC1 hQ1 h)
      rw [c11, c19]
      rfl
    · skip
      refine w_iconst 23 dX13_apart_22 rfl (v := nI 1) rfl ?_
      refine w_goto 27 dX13_apart_23 rfl ?_
      refine wp_eq rfl ?_ rfl (a_X13_apartB hC1 hQ1 h)
      rw [c11, c19]
      rfl

set_option maxRecDepth 4000 in
theorem a_X13_weakest {K : Option Value → AH → Prop} {A : AH} {r : Value} {w : WT} {s : Nat → Nat} {n : Nat} {z : Int32} (hY : RY (s 1) (e1W w s) (e2W w s) (esW w s n) A) (hN : A.1 111 2 = nI (w.1 1)) (h7 : w.1 1 ≤ 7) (h : ∀ A', QM A A' → A'.1 100 1 = nI 0 → A'.1 100 2 = -1 → K (some (.int (enc2 (wqO (LB w s n 0) (w.1 1) (w.1 1)).1))) A') : WP mX13_weakest 4 dM (GG (.ref 111) r) 38 [some (.ref 100), some (.int (nI n)), some (.int z), none, none, none, none, none] [] A K := by
  have lp67 : ∀ (nf : Nat) (a k : Nat) (y : Option Value), a + 1 + k ≤ w.1 1 → (∀ y, WP mX13_weakest 4 dM (GG (.ref 111) r) 119 [some (.ref 100), some (.int (nI n)), some (.int z), some (.int (enc2 (wqO (LB w s n 0) (w.1 1) (a + 1)).1)), some (.int (nI (wqO (LB w s n 0) (w.1 1) (a + 1)).2)), some (.int (nI a)), none, y] [] A K) → w.1 1 - k < nf → WP mX13_weakest 4 dM (GG (.ref 111) r) 67 [some (.ref 100), some (.int (nI n)), some (.int z), some (.int (enc2 (wqI (LB w s n 0) a (wqO (LB w s n 0) (w.1 1) a) k).1)), some (.int (nI (wqI (LB w s n 0) a (wqO (LB w s n 0) (w.1 1) a) k).2)), some (.int (nI a)), some (.int (nI (a + 1 + k))), y] [] A K := by
    intro nf
    induction nf with
    | zero => intros; omega
    | succ nf ih =>
      intro a k y hk0 hk hms
      have hl : (wqI (LB w s n 0) a (wqO (LB w s n 0) (w.1 1) a) k).2 ≤ 99999 := wqI_le (wqO_le a) k
      have hl2 := LB_le w s n 0 a (a + 1 + k)
      refine w_iload 69 dX13_weakest_67 rfl rfl ?_
      refine w_aload_n 70 dX13_weakest_69 rfl rfl ?_
      refine w_getr 73 dX13_weakest_70 rfl faX13_343 rfl rfl rfl (r := .ref 111) rfl ?_
      refine w_getiv 76 dX13_weakest_73 rfl faX13_194 rfl rfl rfl hN ?_
      refine w_icgeN 119 79 dX13_weakest_76 rfl rfl (by omega) (by omega) (fun c76 => ?_) (fun c76 => ?_)
      · skip
        have e : k = w.1 1 - (a + 1) := by omega
        subst e
        refine wp_to ?_ rfl rfl (hk y)
        simp [lle, wqO]
      · skip
        refine w_aload_n 80 dX13_weakest_79 rfl rfl ?_
        refine w_iload 82 dX13_weakest_80 rfl rfl ?_
        refine w_iload 84 dX13_weakest_82 rfl rfl ?_
        refine w_iconst 85 dX13_weakest_84 rfl (v := nI 0) rfl ?_
        refine w_inv3 88 dX13_weakest_85 rfl mlX13_411 rfl rfl (d' := 3) (by decide) (Nat.le_of_ble_eq_true rfl) (c_X13_borneBetween hY hN h7 (by omega) (by omega) (by decide) ?_)
        refine w_ist7 90 dX13_weakest_88 rfl (by decide) rfl ?_
        refine w_iload 92 dX13_weakest_90 rfl rfl ?_
        refine w_iload 94 dX13_weakest_92 rfl rfl ?_
        refine w_icltN 100 97 dX13_weakest_94 rfl rfl (show LB w s n 0 a (a + 1 + k) < 2 ^ 31 by omega) (by omega) (fun c94 => ?_) (fun c94 => ?_)
        · skip
          have c94 : LB w s n 0 a (a + 1 + k) < (wqI (LB w s n 0) a (wqO (LB w s n 0) (w.1 1) a) k).2 := c94
          refine w_iload 102 dX13_weakest_100 rfl rfl ?_
          refine w_ist4 104 dX13_weakest_102 rfl (by decide) rfl ?_
          refine w_bipush 106 dX13_weakest_104 rfl (v := nI 10) rfl ?_
          refine w_iload 108 dX13_weakest_106 rfl rfl ?_
          refine w_imulN 109 dX13_weakest_108 rfl ?_
          refine w_iload 111 dX13_weakest_109 rfl rfl ?_
          refine w_iaddN 112 dX13_weakest_111 rfl ?_
          refine w_ist3 113 dX13_weakest_112 rfl (by decide) rfl ?_
          refine w_inc6 116 dX13_weakest_113 rfl (by decide) rfl (v := nI (_ + 1)) (nI_1 _) ?_
          refine w_goto 67 dX13_weakest_116 rfl ?_
          refine wp_to ?_ rfl rfl (ih a (k + 1) none (by omega) hk (by omega))
          have e9 : wqI (LB w s n 0) a (wqO (LB w s n 0) (w.1 1) a) (k + 1) = (some (10 * a + (a + 1 + k)), LB w s n 0 a (a + 1 + k)) := by simp only [wqI]; rw [if_pos c94]
          rw [e9]
          exact ⟨Or.inr rfl, Or.inr rfl, Or.inr rfl, Or.inr rfl, Or.inr rfl, Or.inr rfl, Or.inr rfl, Or.inl rfl, trivial⟩
        · skip
          have c94 : ¬ LB w s n 0 a (a + 1 + k) < (wqI (LB w s n 0) a (wqO (LB w s n 0) (w.1 1) a) k).2 := Nat.not_lt.mpr c94
          refine w_goto 113 dX13_weakest_97 rfl ?_
          refine w_inc6 116 dX13_weakest_113 rfl (by decide) rfl (v := nI (_ + 1)) (nI_1 _) ?_
          refine w_goto 67 dX13_weakest_116 rfl ?_
          refine wp_to ?_ rfl rfl (ih a (k + 1) none (by omega) hk (by omega))
          have e9 : wqI (LB w s n 0) a (wqO (LB w s n 0) (w.1 1) a) (k + 1) = (wqI (LB w s n 0) a (wqO (LB w s n 0) (w.1 1) a) k) := by simp only [wqI]; rw [if_neg c94]
          simp [lle, e9, Nat.add_assoc]
  have lp49 : ∀ (nf : Nat) (a : Nat) (y : Option Value), a ≤ w.1 1 → w.1 1 - a < nf → WP mX13_weakest 4 dM (GG (.ref 111) r) 49 [some (.ref 100), some (.int (nI n)), some (.int z), some (.int (enc2 (wqO (LB w s n 0) (w.1 1) a).1)), some (.int (nI (wqO (LB w s n 0) (w.1 1) a).2)), some (.int (nI a)), none, y] [] A K := by
    intro nf
    induction nf with
    | zero => intros; omega
    | succ nf ih =>
      intro a y ha hms
      refine w_iload 51 dX13_weakest_49 rfl rfl ?_
      refine w_aload_n 52 dX13_weakest_51 rfl rfl ?_
      refine w_getr 55 dX13_weakest_52 rfl faX13_343 rfl rfl rfl (r := .ref 111) rfl ?_
      refine w_getiv 58 dX13_weakest_55 rfl faX13_194 rfl rfl rfl hN ?_
      refine w_icgeN 125 61 dX13_weakest_58 rfl rfl (by omega) (by omega) (fun c58 => ?_) (fun c58 => ?_)
      · skip
        refine w_aload_n 126 dX13_weakest_125 rfl rfl ?_
        refine w_iload_n 127 dX13_weakest_126 rfl rfl ?_
        have e : a = w.1 1 := by omega
        subst e
        refine w_inv1 130 dX13_weakest_127 rfl mlX13_56 rfl rfl (d' := 0) (by decide) (Nat.le_of_ble_eq_true rfl) (c_X13_good (fun A9 hQ9 ht9 hw9 => ?_))
        refine wr_i dX13_weakest_130 rfl ?_
        exact h A9 hQ9 ht9 hw9
      · skip
        refine w_iload 63 dX13_weakest_61 rfl rfl ?_
        refine w_iconst 64 dX13_weakest_63 rfl (v := nI 1) rfl ?_
        refine w_iaddN 65 dX13_weakest_64 rfl ?_
        refine w_ist6 67 dX13_weakest_65 rfl (by decide) rfl ?_
        refine lp67 _ a 0 y (by omega) (fun y => ?_) (Nat.lt_succ_self _)
        refine w_inc5 122 dX13_weakest_119 rfl (by decide) rfl (v := nI (_ + 1)) (nI_1 _) ?_
        refine w_goto 49 dX13_weakest_122 rfl ?_
        exact ih (a + 1) y (by omega) (by omega)
  refine w_bipush 40 dX13_weakest_38 rfl (v := (-2)) rfl ?_
  refine w_ist3 41 dX13_weakest_40 rfl (by decide) rfl ?_
  refine w_ldcw 44 dX13_weakest_41 rfl kcX13_385 ?_
  refine w_top (show _ = nI 99999 from rfl) ?_
  refine w_ist4 46 dX13_weakest_44 rfl (by decide) rfl ?_
  refine w_iconst 47 dX13_weakest_46 rfl (v := nI 0) rfl ?_
  refine w_ist5 49 dX13_weakest_47 rfl (by decide) rfl ?_
  exact lp49 _ 0 none (Nat.zero_le _) (Nat.lt_succ_self _)

set_option maxRecDepth 4000 in
theorem c_X13_weakest {K : Option Value → AH → Prop} {A : AH} {r : Value} {w : WT} {s : Nat → Nat} (hC : MC w s A) {n : Int32} (h : ∀ A', QM A A' → A'.1 100 1 = nI (tY (okW1 w) n) → A'.1 100 2 = -1 → K (some (.int (qWeakest w s n))) A') : Ct yX13_weakest mX13_weakest 4 dM (GG (.ref 111) r) [.ref 100, .int n] A K := by
  refine Ct.of [some (.ref 100), some (.int n), none, none, none, none, none, none] rfl rfl rfl (Nat.le_of_ble_eq_true rfl) ?_
  refine w_aload_n 1 dX13_weakest_0 rfl rfl ?_
  refine w_iconst 2 dX13_weakest_1 rfl (v := nI 0) rfl ?_
  refine w_puti 5 dX13_weakest_2 rfl faX13_46 rfl rfl rfl rfl ?_
  have hQ1 : QM A (upd2 A.1 100 0 (nI 0), A.2) := QM.rf.f (by decide) _
  have hC1 := hC.q hQ1
  refine w_aload_n 6 dX13_weakest_5 rfl rfl ?_
  refine w_aload_n 7 dX13_weakest_6 rfl rfl ?_
  refine w_getr 10 dX13_weakest_7 rfl faX13_343 rfl rfl rfl (r := .ref 111) rfl ?_
  refine w_nR 13 dX13_weakest_10 rfl ?_
  refine w_iconst 14 dX13_weakest_13 rfl (v := nI 1) rfl ?_
  refine w_goto 18 dX13_weakest_14 rfl ?_
  refine w_iload_n 19 dX13_weakest_18 rfl rfl ?_
  rw [show nI 1 = b2i (okW1 w) from by rw [okW1_t hC]; rfl]
  refine w_inv2 22 dX13_weakest_19 rfl mlX13_401 rfl rfl (d' := 1) (by decide) (Nat.le_of_ble_eq_true rfl) (c_X13_refusesYears (b := okW1 w) ?_)
  refine w_ist2 23 dX13_weakest_22 rfl (by decide) rfl ?_
  refine w_iload_n 24 dX13_weakest_23 rfl rfl ?_
  refine w_ifleN 33 27 dX13_weakest_24 rfl rfl (by have := tY_le (okW1 w) n; omega) (fun c24 => ?_) (fun c24 => ?_)
  · skip
    have hz : tY (okW1 w) n = 0 := c24
    obtain ⟨k1, k2⟩ := tY_0 hz
    have hr := hC.rooms
    have hsS := hC.2.2.2.1
    obtain ⟨n, rfl, hn⟩ := tI_of k2
    refine w_aload_n 34 dX13_weakest_33 rfl rfl ?_
    refine w_iload_n 35 dX13_weakest_34 rfl rfl ?_
    refine w_inv1 38 dX13_weakest_35 rfl mlX13_398 rfl rfl (d' := 3) (by decide) (Nat.le_of_ble_eq_true rfl) (c_X13_lays hC1 hn (fun A3 hY hX hQ3 => ?_))
    have hC3 := hC1.q hQ3
    have hN := hC3.1.2.1 1 (by decide) (by decide)
    have h8 := hC.2.2.2.1.2.1
    exact a_X13_weakest hY hN hr.2.1 (fun A9 hQ9 ht9 hw9 => kq (h A9 ((hQ1.tr hQ3).tr hQ9) (by rw [hz]; exact ht9) hw9) (by unfold qWeakest; rw [if_pos hz, cl_nI (show n < 2 ^ 31 by omega)]))
  · skip
    refine w_aload_n 28 dX13_weakest_27 rfl rfl ?_
    refine w_iload_n 29 dX13_weakest_28 rfl rfl ?_
    refine w_inv1 32 dX13_weakest_29 rfl mlX13_52 rfl rfl (d' := 0) (by decide) (Nat.le_of_ble_eq_true rfl) (c_X13_refused (fun A2 hQ2 ht2 hw2 => ?_))
    refine wr_i dX13_weakest_32 rfl ?_
    exact kq (h A2 (hQ1.tr hQ2) ht2 hw2) (by unfold qWeakest; rw [if_neg (Nat.ne_of_gt c24)])

set_option maxRecDepth 4000 in
theorem c_X13_borneAll {K : Option Value → AH → Prop} {A : AH} {r : Value} {w : WT} {s : Nat → Nat} {ne : Nat} {f1 f2 fs : Nat → Nat} (hC : MC w s A) (hY : RY ne f1 f2 fs A) (h : K (some (.int (nI (ldN w ne f1 f2 fs)))) A) : Ct yX13_borneAll mX13_borneAll 4 dM (GG (.ref 111) r) [.ref 100] A K := by
  refine Ct.of [some (.ref 100), none, none] rfl rfl rfl (Nat.le_of_ble_eq_true rfl) ?_
  have hr := hC.rooms
  have hN := hC.1.2.1 1 (by decide) (by decide)
  have lp4 : ∀ (nf : Nat) (i : Nat), i ≤ w.1 4 → w.1 4 - i < nf → WP mX13_borneAll 4 dM (GG (.ref 111) r) 4 [some (.ref 100), some (.int (nI (maskTo (fun k => decide (w.2 4 k 2 ≤ ldQ w ne f1 f2 fs k)) i))), some (.int (nI i))] [] A K := by
    intro nf
    induction nf with
    | zero => intros; omega
    | succ nf ih =>
      intro i hi hms
      refine w_iload_n 5 dX13_borneAll_4 rfl rfl ?_
      refine w_aload_n 6 dX13_borneAll_5 rfl rfl ?_
      refine w_getr 9 dX13_borneAll_6 rfl faX13_343 rfl rfl rfl (r := .ref 111) rfl ?_
      refine w_getiv 12 dX13_borneAll_9 rfl faX13_287 rfl rfl rfl (hC.1.2.1 4 (by decide) (by decide)) ?_
      refine w_icgeN 66 15 dX13_borneAll_12 rfl rfl (by omega) (by omega) (fun c12 => ?_) (fun c12 => ?_)
      · skip
        have e : i = w.1 4 := by omega
        subst e
        refine w_iload_n 67 dX13_borneAll_66 rfl rfl ?_
        refine wr_i dX13_borneAll_67 rfl ?_
        exact h
      · skip
        have he := hC.ent (J := 4) (by decide) c12
        simp only [eOK] at he
        obtain ⟨q0, q1, q2⟩ := hC.1.2.2.2.2.1 i c12
        have hl : ldQ w ne f1 f2 fs i ≤ 99999 := leastF_le _ _ _
        refine w_iload_n 16 dX13_borneAll_15 rfl rfl ?_
        refine w_aload_n 17 dX13_borneAll_16 rfl rfl ?_
        refine w_aload_n 18 dX13_borneAll_17 rfl rfl ?_
        refine w_getr 21 dX13_borneAll_18 rfl faX13_343 rfl rfl rfl (r := .ref 111) rfl ?_
        refine w_getr 24 dX13_borneAll_21 rfl faX13_290 rfl rfl rfl (r := .ref 118) rfl ?_
        refine w_iload_n 25 dX13_borneAll_24 rfl rfl ?_
        refine w_ialdv 26 dX13_borneAll_25 rfl rfl rfl (by decide) (by omega) q0 ?_
        refine w_aload_n 27 dX13_borneAll_26 rfl rfl ?_
        refine w_getr 30 dX13_borneAll_27 rfl faX13_343 rfl rfl rfl (r := .ref 111) rfl ?_
        refine w_getr 33 dX13_borneAll_30 rfl faX13_293 rfl rfl rfl (r := .ref 119) rfl ?_
        refine w_iload_n 34 dX13_borneAll_33 rfl rfl ?_
        refine w_ialdv 35 dX13_borneAll_34 rfl rfl rfl (by decide) (by omega) q1 ?_
        refine w_iconst 36 dX13_borneAll_35 rfl (v := nI 0) rfl ?_
        refine w_inv3 39 dX13_borneAll_36 rfl mlX13_411 rfl rfl (d' := 3) (by decide) (Nat.le_of_ble_eq_true rfl) (c_X13_borneBetween hY hN hr.2.1 (by omega) (by omega) (by decide) ?_)
        refine w_aload_n 40 dX13_borneAll_39 rfl rfl ?_
        refine w_getr 43 dX13_borneAll_40 rfl faX13_343 rfl rfl rfl (r := .ref 111) rfl ?_
        refine w_getr 46 dX13_borneAll_43 rfl faX13_296 rfl rfl rfl (r := .ref 120) rfl ?_
        refine w_iload_n 47 dX13_borneAll_46 rfl rfl ?_
        refine w_ialdv 48 dX13_borneAll_47 rfl rfl rfl (by decide) (by omega) q2 ?_
        refine w_icltN 57 51 dX13_borneAll_48 rfl rfl (show ldQ w ne f1 f2 fs i < 2 ^ 31 by omega) (by omega) (fun c48 => ?_) (fun c48 => ?_)
        · skip
          refine w_iconst 58 dX13_borneAll_57 rfl (v := nI 0) rfl ?_
          refine w_ior 59 dX13_borneAll_58 rfl ?_
          refine w_top (mask_or0 _ _) ?_
          refine w_ist1 60 dX13_borneAll_59 rfl (by decide) rfl ?_
          refine w_inc2 63 dX13_borneAll_60 rfl (by decide) rfl (v := nI (_ + 1)) (nI_1 _) ?_
          refine w_goto 4 dX13_borneAll_63 rfl ?_
          have c48 : ¬ w.2 4 i 2 ≤ ldQ w ne f1 f2 fs i := Nat.not_le.mpr c48
          refine wp_eq ?_ rfl rfl (ih (i + 1) (by omega) (by omega))
          simp [maskTo, c48]
        · skip
          refine w_iconst 52 dX13_borneAll_51 rfl (v := nI 1) rfl ?_
          refine w_iload_n 53 dX13_borneAll_52 rfl rfl ?_
          refine w_shl1 54 dX13_borneAll_53 rfl (by omega) ?_
          refine w_goto 58 dX13_borneAll_54 rfl ?_
          refine w_ior 59 dX13_borneAll_58 rfl ?_
          refine w_top (mask_or _ _) ?_
          refine w_ist1 60 dX13_borneAll_59 rfl (by decide) rfl ?_
          refine w_inc2 63 dX13_borneAll_60 rfl (by decide) rfl (v := nI (_ + 1)) (nI_1 _) ?_
          refine w_goto 4 dX13_borneAll_63 rfl ?_
          have c48 : w.2 4 i 2 ≤ ldQ w ne f1 f2 fs i := c48
          refine wp_eq ?_ rfl rfl (ih (i + 1) (by omega) (by omega))
          simp [maskTo, c48]
  refine w_iconst 1 dX13_borneAll_0 rfl (v := nI 0) rfl ?_
  refine w_ist1 2 dX13_borneAll_1 rfl (by decide) rfl ?_
  refine w_iconst 3 dX13_borneAll_2 rfl (v := nI 0) rfl ?_
  refine w_ist2 4 dX13_borneAll_3 rfl (by decide) rfl ?_
  exact lp4 _ 0 (Nat.zero_le _) (Nat.lt_succ_self _)

set_option maxRecDepth 4000 in
theorem c_X13_borne {K : Option Value → AH → Prop} {A : AH} {r : Value} {w : WT} {s : Nat → Nat} (hC : MC w s A) {n : Int32} (h : ∀ A', QM A A' → A'.1 100 1 = nI (tY (okW1 w) n) → A'.1 100 2 = -1 → K (some (.int (qBorne w s n))) A') : Ct yX13_borne mX13_borne 5 dM (GG (.ref 111) r) [.ref 100, .int n] A K := by
  refine Ct.of [some (.ref 100), some (.int n), none] rfl rfl rfl (Nat.le_of_ble_eq_true rfl) ?_
  refine w_aload_n 1 dX13_borne_0 rfl rfl ?_
  refine w_iconst 2 dX13_borne_1 rfl (v := nI 0) rfl ?_
  refine w_puti 5 dX13_borne_2 rfl faX13_46 rfl rfl rfl rfl ?_
  have hQ1 : QM A (upd2 A.1 100 0 (nI 0), A.2) := QM.rf.f (by decide) _
  have hC1 := hC.q hQ1
  refine w_aload_n 6 dX13_borne_5 rfl rfl ?_
  refine w_aload_n 7 dX13_borne_6 rfl rfl ?_
  refine w_getr 10 dX13_borne_7 rfl faX13_343 rfl rfl rfl (r := .ref 111) rfl ?_
  refine w_nR 13 dX13_borne_10 rfl ?_
  refine w_iconst 14 dX13_borne_13 rfl (v := nI 1) rfl ?_
  refine w_goto 18 dX13_borne_14 rfl ?_
  refine w_iload_n 19 dX13_borne_18 rfl rfl ?_
  rw [show nI 1 = b2i (okW1 w) from by rw [okW1_t hC]; rfl]
  refine w_inv2 22 dX13_borne_19 rfl mlX13_401 rfl rfl (d' := 1) (by decide) (Nat.le_of_ble_eq_true rfl) (c_X13_refusesYears (b := okW1 w) ?_)
  refine w_ist2 23 dX13_borne_22 rfl (by decide) rfl ?_
  refine w_iload_n 24 dX13_borne_23 rfl rfl ?_
  refine w_ifleN 33 27 dX13_borne_24 rfl rfl (by have := tY_le (okW1 w) n; omega) (fun c24 => ?_) (fun c24 => ?_)
  · skip
    have hz : tY (okW1 w) n = 0 := c24
    obtain ⟨k1, k2⟩ := tY_0 hz
    have hr := hC.rooms
    have hsS := hC.2.2.2.1
    obtain ⟨n, rfl, hn⟩ := tI_of k2
    refine w_aload_n 34 dX13_borne_33 rfl rfl ?_
    refine w_iload_n 35 dX13_borne_34 rfl rfl ?_
    refine w_inv1 38 dX13_borne_35 rfl mlX13_398 rfl rfl (d' := 3) (by decide) (Nat.le_of_ble_eq_true rfl) (c_X13_lays hC1 hn (fun A3 hY hX hQ3 => ?_))
    have hC3 := hC1.q hQ3
    have hN := hC3.1.2.1 1 (by decide) (by decide)
    have h8 := hC.2.2.2.1.2.1
    refine w_aload_n 39 dX13_borne_38 rfl rfl ?_
    refine w_aload_n 40 dX13_borne_39 rfl rfl ?_
    refine w_inv0 43 dX13_borne_40 rfl mlX13_421 rfl rfl (d' := 4) (by decide) (Nat.le_of_ble_eq_true rfl) (c_X13_borneAll hC3 hY ?_)
    refine w_inv1 46 dX13_borne_43 rfl mlX13_56 rfl rfl (d' := 0) (by decide) (Nat.le_of_ble_eq_true rfl) (c_X13_good (fun A9 hQ9 ht9 hw9 => ?_))
    refine wr_i dX13_borne_46 rfl ?_
    exact kq (h A9 ((hQ1.tr hQ3).tr hQ9) (by rw [hz]; exact ht9) hw9) (by unfold qBorne; rw [if_pos hz, cl_nI (show n < 2 ^ 31 by omega)]; rfl)
  · skip
    refine w_aload_n 28 dX13_borne_27 rfl rfl ?_
    refine w_iload_n 29 dX13_borne_28 rfl rfl ?_
    refine w_inv1 32 dX13_borne_29 rfl mlX13_52 rfl rfl (d' := 0) (by decide) (Nat.le_of_ble_eq_true rfl) (c_X13_refused (fun A2 hQ2 ht2 hw2 => ?_))
    refine wr_i dX13_borne_32 rfl ?_
    exact kq (h A2 (hQ1.tr hQ2) ht2 hw2) (by unfold qBorne; rw [if_neg (Nat.ne_of_gt c24)])

set_option maxRecDepth 4000 in
theorem a_X13_fallsIn {K : Option Value → AH → Prop} {A : AH} {r : Value} {w : WT} {s : Nat → Nat} {k : Nat} (hC : MC w s A) (hk : k < w.1 4) (h : ∀ A', QM A A' → A'.1 100 1 = nI 0 → A'.1 100 2 = -1 → K (some (.int (enc2 (fst1 (fun n => !(ldW w s n).testBit k) 61)))) A') : WP mX13_fallsIn 5 dM (GG (.ref 111) r) 19 [some (.ref 100), some (.int (nI k)), none] [] A K := by
  have lp21 : ∀ (nf : Nat) (i : Nat) (A' : AH), i ≤ 61 → fst1 (fun n => !(ldW w s n).testBit k) i = none → QM A A' → 61 - i < nf → WP mX13_fallsIn 5 dM (GG (.ref 111) r) 21 [some (.ref 100), some (.int (nI k)), some (.int (nI i))] [] A' K := by
    intro nf
    induction nf with
    | zero => intros; omega
    | succ nf ih =>
      intro i A' hi hf hQ hms
      have hC2 := hC.q hQ
      refine w_iload_n 22 dX13_fallsIn_21 rfl rfl ?_
      refine w_bipush 24 dX13_fallsIn_22 rfl (v := nI 60) rfl ?_
      refine w_icgtN 55 27 dX13_fallsIn_24 rfl rfl (by omega) (by omega) (fun c24 => ?_) (fun c24 => ?_)
      · skip
        refine w_aload_n 56 dX13_fallsIn_55 rfl rfl ?_
        refine w_bipush 58 dX13_fallsIn_56 rfl (v := (-2)) rfl ?_
        refine w_inv1 61 dX13_fallsIn_58 rfl mlX13_56 rfl rfl (d' := 0) (by decide) (Nat.le_of_ble_eq_true rfl) (c_X13_good (fun A9 hQ9 ht9 hw9 => ?_))
        refine wr_i dX13_fallsIn_61 rfl ?_
        have e : i = 61 := by omega
        subst e
        exact kq (h A9 (hQ.tr hQ9) ht9 hw9) (by rw [hf]; rfl)
      · skip
        refine w_aload_n 28 dX13_fallsIn_27 rfl rfl ?_
        refine w_iload_n 29 dX13_fallsIn_28 rfl rfl ?_
        refine w_inv1 32 dX13_fallsIn_29 rfl mlX13_398 rfl rfl (d' := 3) (by decide) (Nat.le_of_ble_eq_true rfl) (c_X13_lays hC2 (by omega) (fun A3 hY hX hQ3 => ?_))
        have hC3 := hC2.q hQ3
        have hr := hC.rooms
        have hl : ldW w s i < 16 := ldN_lt hr.2.2.2.2.1
        refine w_aload_n 33 dX13_fallsIn_32 rfl rfl ?_
        refine w_inv0 36 dX13_fallsIn_33 rfl mlX13_421 rfl rfl (d' := 4) (by decide) (Nat.le_of_ble_eq_true rfl) (c_X13_borneAll hC3 hY ?_)
        refine w_iload_n 37 dX13_fallsIn_36 rfl rfl ?_
        refine w_invs2 40 dX13_fallsIn_37 rfl slX13_277 (d' := 0) (by decide) (Nat.le_of_ble_eq_true rfl) (c_X13_bit ?_)
        rw [show ldN w (s 1) (e1W w s) (e2W w s) (esW w s i) = ldW w s i from rfl, hasB_nI (by omega) (by omega)]
        refine w_ifneB 49 43 dX13_fallsIn_40 rfl rfl (fun c40 => ?_) (fun c40 => ?_)
        · skip
          refine w_inc2 52 dX13_fallsIn_49 rfl (by decide) rfl (v := nI (_ + 1)) (nI_1 _) ?_
          refine w_goto 21 dX13_fallsIn_52 rfl ?_
          exact ih (i + 1) A3 (by omega) (by simp [fst1, hf, c40]) (hQ.tr hQ3) (by omega)
        · skip
          refine w_aload_n 44 dX13_fallsIn_43 rfl rfl ?_
          refine w_iload_n 45 dX13_fallsIn_44 rfl rfl ?_
          refine w_inv1 48 dX13_fallsIn_45 rfl mlX13_56 rfl rfl (d' := 0) (by decide) (Nat.le_of_ble_eq_true rfl) (c_X13_good (fun A9 hQ9 ht9 hw9 => ?_))
          refine wr_i dX13_fallsIn_48 rfl ?_
          exact kq (h A9 ((hQ.tr hQ3).tr hQ9) ht9 hw9) (by rw [fst1_some hf (by rw [c40]; rfl) (by omega)]; rfl)
  refine w_iconst 20 dX13_fallsIn_19 rfl (v := nI 0) rfl ?_
  refine w_ist2 21 dX13_fallsIn_20 rfl (by decide) rfl ?_
  exact lp21 _ 0 A (Nat.zero_le _) rfl QM.rf (Nat.lt_succ_self _)

set_option maxRecDepth 4000 in
theorem c_X13_fallsIn {K : Option Value → AH → Prop} {A : AH} {r : Value} {w : WT} {s : Nat → Nat} (hC : MC w s A) {k : Int32} (h : ∀ A', QM A A' → A'.1 100 1 = nI (t1 (okR (w.1 4) k)) → A'.1 100 2 = -1 → K (some (.int (qFallsIn w s k))) A') : Ct yX13_fallsIn mX13_fallsIn 5 dM (GG (.ref 111) r) [.ref 100, .int k] A K := by
  refine Ct.of [some (.ref 100), some (.int k), none] rfl rfl rfl (Nat.le_of_ble_eq_true rfl) ?_
  refine w_aload_n 1 dX13_fallsIn_0 rfl rfl ?_
  refine w_iconst 2 dX13_fallsIn_1 rfl (v := nI 0) rfl ?_
  refine w_puti 5 dX13_fallsIn_2 rfl faX13_46 rfl rfl rfl rfl ?_
  have hQ1 : QM A (upd2 A.1 100 0 (nI 0), A.2) := QM.rf.f (by decide) _
  have hC1 := hC.q hQ1
  refine w_aload_n 6 dX13_fallsIn_5 rfl rfl ?_
  refine w_iload_n 7 dX13_fallsIn_6 rfl rfl ?_
  refine w_inv1 10 dX13_fallsIn_7 rfl mlX13_424 rfl rfl (d' := 0) (by decide) (Nat.le_of_ble_eq_true rfl) (c_X13_isLoad hC1 ?_)
  refine w_ifneB 19 13 dX13_fallsIn_10 rfl rfl (fun c10 => ?_) (fun c10 => ?_)
  · skip
    have hr := hC.rooms
    obtain ⟨k, rfl, hk⟩ := okR_of c10 (by omega)
    have hz : t1 (okR (w.1 4) (nI k)) = 0 := by rw [c10]; rfl
    exact a_X13_fallsIn hC1 hk (fun A9 hQ9 ht9 hw9 => kq (h A9 (hQ1.tr hQ9) (by rw [hz]; exact ht9) hw9) (by unfold qFallsIn; rw [if_pos hz, cl_nI (show k < 2 ^ 31 by omega)]))
  · skip
    refine w_aload_n 14 dX13_fallsIn_13 rfl rfl ?_
    refine w_iconst 15 dX13_fallsIn_14 rfl (v := nI 1) rfl ?_
    refine w_inv1 18 dX13_fallsIn_15 rfl mlX13_52 rfl rfl (d' := 0) (by decide) (Nat.le_of_ble_eq_true rfl) (c_X13_refused (fun A2 hQ2 ht2 hw2 => ?_))
    refine wr_i dX13_fallsIn_18 rfl ?_
    exact kq (h A2 (hQ1.tr hQ2) (by rw [ht2, c10]; rfl) hw2) (by unfold qFallsIn; rw [c10]; rfl)

set_option maxRecDepth 4000 in
theorem c_X13_spare {K : Option Value → AH → Prop} {A : AH} {r : Value} {w : WT} {s : Nat → Nat} (hC : MC w s A) {k : Int32} (h : ∀ A', QM A A' → A'.1 100 1 = nI (t1 (okR (w.1 4) k)) → A'.1 100 2 = -1 → K (some (.int (qSpare w s k))) A') : Ct yX13_spare mX13_spare 4 dM (GG (.ref 111) r) [.ref 100, .int k] A K := by
  refine Ct.of [some (.ref 100), some (.int k)] rfl rfl rfl (Nat.le_of_ble_eq_true rfl) ?_
  refine w_aload_n 1 dX13_spare_0 rfl rfl ?_
  refine w_iconst 2 dX13_spare_1 rfl (v := nI 0) rfl ?_
  refine w_puti 5 dX13_spare_2 rfl faX13_46 rfl rfl rfl rfl ?_
  have hQ1 : QM A (upd2 A.1 100 0 (nI 0), A.2) := QM.rf.f (by decide) _
  have hC1 := hC.q hQ1
  refine w_aload_n 6 dX13_spare_5 rfl rfl ?_
  refine w_iload_n 7 dX13_spare_6 rfl rfl ?_
  refine w_inv1 10 dX13_spare_7 rfl mlX13_424 rfl rfl (d' := 0) (by decide) (Nat.le_of_ble_eq_true rfl) (c_X13_isLoad hC1 ?_)
  refine w_ifneB 22 13 dX13_spare_10 rfl rfl (fun c10 => ?_) (fun c10 => ?_)
  · skip
    have hr := hC.rooms
    obtain ⟨k, rfl, hk⟩ := okR_of c10 (by omega)
    have hz : t1 (okR (w.1 4) (nI k)) = 0 := by rw [c10]; rfl
    refine w_aload_n 23 dX13_spare_22 rfl rfl ?_
    refine w_iconst 24 dX13_spare_23 rfl (v := nI 0) rfl ?_
    refine w_inv1 27 dX13_spare_24 rfl mlX13_398 rfl rfl (d' := 3) (by decide) (Nat.le_of_ble_eq_true rfl) (c_X13_lays hC1 (by decide) (fun A3 hY hX hQ3 => ?_))
    have hC3 := hC1.q hQ3
    have hN := hC3.1.2.1 1 (by decide) (by decide)
    have h8 := hC.2.2.2.1.2.1
    have he := hC.ent (J := 4) (by decide) hk
    simp only [eOK] at he
    obtain ⟨q0, q1, q2⟩ := hC3.1.2.2.2.2.1 k hk
    refine w_aload_n 28 dX13_spare_27 rfl rfl ?_
    refine w_aload_n 29 dX13_spare_28 rfl rfl ?_
    refine w_aload_n 30 dX13_spare_29 rfl rfl ?_
    refine w_getr 33 dX13_spare_30 rfl faX13_343 rfl rfl rfl (r := .ref 111) rfl ?_
    refine w_getr 36 dX13_spare_33 rfl faX13_290 rfl rfl rfl (r := .ref 118) rfl ?_
    refine w_iload_n 37 dX13_spare_36 rfl rfl ?_
    refine w_ialdv 38 dX13_spare_37 rfl rfl rfl (by decide) (by omega) q0 ?_
    refine w_aload_n 39 dX13_spare_38 rfl rfl ?_
    refine w_getr 42 dX13_spare_39 rfl faX13_343 rfl rfl rfl (r := .ref 111) rfl ?_
    refine w_getr 45 dX13_spare_42 rfl faX13_293 rfl rfl rfl (r := .ref 119) rfl ?_
    refine w_iload_n 46 dX13_spare_45 rfl rfl ?_
    refine w_ialdv 47 dX13_spare_46 rfl rfl rfl (by decide) (by omega) q1 ?_
    refine w_iconst 48 dX13_spare_47 rfl (v := nI 0) rfl ?_
    refine w_inv3 51 dX13_spare_48 rfl mlX13_411 rfl rfl (d' := 3) (by decide) (Nat.le_of_ble_eq_true rfl) (c_X13_borneBetween hY hN hr.2.1 (by omega) (by omega) (by decide) ?_)
    refine w_aload_n 52 dX13_spare_51 rfl rfl ?_
    refine w_getr 55 dX13_spare_52 rfl faX13_343 rfl rfl rfl (r := .ref 111) rfl ?_
    refine w_getr 58 dX13_spare_55 rfl faX13_296 rfl rfl rfl (r := .ref 120) rfl ?_
    refine w_iload_n 59 dX13_spare_58 rfl rfl ?_
    refine w_ialdv 60 dX13_spare_59 rfl rfl rfl (by decide) (by omega) q2 ?_
    refine w_isub 61 dX13_spare_60 rfl ?_
    refine w_inv1 64 dX13_spare_61 rfl mlX13_56 rfl rfl (d' := 0) (by decide) (Nat.le_of_ble_eq_true rfl) (c_X13_good (fun A9 hQ9 ht9 hw9 => ?_))
    refine wr_i dX13_spare_64 rfl ?_
    exact kq (h A9 ((hQ1.tr hQ3).tr hQ9) (by rw [hz]; exact ht9) hw9) (by unfold qSpare; rw [if_pos hz, cl_nI (show k < 2 ^ 31 by omega)]; rfl)
  · skip
    refine w_aload_n 14 dX13_spare_13 rfl rfl ?_
    refine w_iconst 15 dX13_spare_14 rfl (v := nI 1) rfl ?_
    refine w_sipush 18 dX13_spare_15 rfl (v := (-1000)) rfl ?_
    refine w_inv2 21 dX13_spare_18 rfl mlX13_427 rfl rfl (d' := 1) (by decide) (Nat.le_of_ble_eq_true rfl) (c_X13_lost (fun A2 hQ2 ht2 hw2 => ?_))
    refine wr_i dX13_spare_21 rfl ?_
    exact kq (h A2 (hQ1.tr hQ2) (by rw [ht2, c10]; rfl) hw2) (by unfold qSpare; rw [c10]; rfl)

