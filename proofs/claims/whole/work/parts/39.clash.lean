/-! ===== clashes ===== -/
def mnF (f : Nat → Nat) (p : Nat → Bool) (b0 l0 : Nat) : Nat → Nat × Nat
  | 0 => (b0, l0)
  | n + 1 => if (p n && decide (f n < (mnF f p b0 l0 n).2)) = true then (n, f n) else mnF f p b0 l0 n
theorem mnF_le {f : Nat → Nat} {p : Nat → Bool} {b0 l0 c : Nat} (h0 : l0 ≤ c) (hf : ∀ n, f n ≤ c) : ∀ n, (mnF f p b0 l0 n).2 ≤ c
  | 0 => h0
  | n + 1 => by
    simp only [mnF]
    split
    · exact hf n
    · exact mnF_le h0 hf n
theorem mnF_lt {f : Nat → Nat} {p : Nat → Bool} {b0 l0 c : Nat} (h0 : b0 < c) : ∀ n, n ≤ c → (mnF f p b0 l0 n).1 < c
  | 0, _ => h0
  | n + 1, h => by
    simp only [mnF]
    split
    · exact h
    · exact mnF_lt h0 n (by omega)
def clsV (w : WT) (m : Nat) : Nat := cntTo (clashB w m) (w.1 3)
theorem clsV_le {w : WT} (h : okT w) (m : Nat) : clsV w m ≤ 8 := Nat.le_trans (cntTo_le _ _) h.2.2.2.2.1.2.1
def lossF (w : WT) (s : Nat → Nat) (b : Bool) (m : Nat) : Nat := if b then sumB (esW w s 0) m 13 else popc m
theorem lossF_le {w : WT} {s : Nat → Nat} (hs : okS s) (hw : ofOK w) (b : Bool) (m : Nat) : lossF w s b m ≤ 1287 := by
  unfold lossF
  split
  · exact sumB_le (fun i hi => (okW hs hw 0 i hi).2.2)
  · exact Nat.le_trans (popc_le m) (by decide)
def brkOK (w : WT) (H m : Nat) : Bool := subM m H && decide (clsV w (H &&& (255 ^^^ m)) = 0)
def brkV (w : WT) (s : Nat → Nat) (b : Bool) : Nat := (mnF (lossF w s b) (brkOK w (HM w s 0)) (HM w s 0) (lossF w s b (HM w s 0)) (HM w s 0 + 1)).1
theorem brkV_lt (w : WT) (s : Nat → Nat) (b : Bool) : brkV w s b < 256 := by
  have := HM_lt w s 0
  exact mnF_lt this _ (by omega)
theorem c_X0_heldH {K : Option Value → AH → Prop} {A : AH} {w : WT} {s : Nat → Nat} {n : Nat} (hR : BRw w s n A) (h : K (some (.int (nI (HM w s n)))) A) : Ct yX0_held mX0_held 0 dC gC [.ref 48] A K := c_X0_held hR.2.2.1 hR.2.2.2.1 h
def rClashes (w : WT) (s : Nat → Nat) (n : Int32) : Int32 := if tY (okW1 w) n = 0 then nI (clsV w (HM w s (cl n))) else -1
def rBreakFew (w : WT) (s : Nat → Nat) : Int32 := if t1 (okW1 w) = 0 then nI (brkV w s false) else -1
def rBreakRued (w : WT) (s : Nat → Nat) : Int32 := if t1 (okW1 w) = 0 then nI (brkV w s true) else -1
def rRue (w : WT) (s : Nat → Nat) : Int32 := if t1 (okW1 w) = 0 then nI (lossF w s true (brkV w s true)) else -1
def rPeaces (w : WT) (s : Nat → Nat) : Int32 := if t1 (okW1 w) = 0 then nI (cntTo (fun m => subM m (HM w s 0) && decide (clsV w m = 0)) (HM w s 0 + 1)) else -1
set_option maxRecDepth 4000 in
theorem c_X11_clashes {K : Option Value → AH → Prop} {A : AH} {w : WT} {s : Nat → Nat} (hC : CI w s A) {n : Int32} (h : ∀ A', Qk A A' → A'.1 0 8 = nI (tY (okW1 w) n) → K (some (.int (rClashes w s n))) A') : Ct yX11_clashes mX11_clashes 5 dC gC [.ref 0, .int n] A K := by
  refine Ct.of [some (.ref 0), some (.int n)] rfl rfl rfl (Nat.le_of_ble_eq_true rfl) ?_
  refine w_aload_n 1 dX11_clashes_0 rfl rfl ?_
  refine w_aload_n 2 dX11_clashes_1 rfl rfl ?_
  refine w_inv0 5 dX11_clashes_2 rfl mlX11_157 rfl rfl (d' := 2) (by decide) (Nat.le_of_ble_eq_true rfl) (c_X11_needWeb hC ?_)
  refine w_iload_n 6 dX11_clashes_5 rfl rfl ?_
  refine w_invs1 9 dX11_clashes_6 rfl slX11_154 (d' := 1) (by decide) (Nat.le_of_ble_eq_true rfl) (c_X11_needYears ?_)
  refine w_invs2 12 dX11_clashes_9 rfl slX11_126 (d' := 0) (by decide) (Nat.le_of_ble_eq_true rfl) (c_X11_firstOfN (Nat.lt_of_le_of_lt (t1_le _) (by decide)) ?_)
  rw [tY_first]
  refine w_inv1 15 dX11_clashes_12 rfl mlX11_87 rfl rfl (d' := 0) (by decide) (Nat.le_of_ble_eq_true rfl) (c_X11_refused (Nat.lt_of_le_of_lt (tY_le _ _) (by decide)) ?_)
  refine w_ifeqB 20 18 dX11_clashes_15 rfl rfl (fun c15 => ?_) (fun c15 => ?_)
  · skip
    have hz : tY (okW1 w) n = 0 := by simpa using c15
    have hC1 := hC.off (hC.ref (nI (tY (okW1 w) n)))
    obtain ⟨k1, k2⟩ := tY_0 hz
    have hw7 := hC.2.1.2.2.1.1
    obtain ⟨n, rfl, hn⟩ := tI_of k2
    refine w_aload_n 21 dX11_clashes_20 rfl rfl ?_
    refine w_iload_n 22 dX11_clashes_21 rfl rfl ?_
    refine w_inv1 25 dX11_clashes_22 rfl mlX11_145 rfl rfl (d' := 4) (by decide) (Nat.le_of_ble_eq_true rfl) (c_X11_goBehind hC1 hn (fun A2 hR hQ => ?_))
    have hC2 := hC1.off hQ.q
    have hH := HM_lt w s n
    refine w_aload_n 26 dX11_clashes_25 rfl rfl ?_
    refine w_getr 29 dX11_clashes_26 rfl faX11_19 rfl rfl rfl (r := .ref 26) rfl ?_
    refine w_aload_n 30 dX11_clashes_29 rfl rfl ?_
    refine w_getr 33 dX11_clashes_30 rfl faX11_40 rfl rfl rfl (r := .ref 48) rfl ?_
    refine w_inv0 36 dX11_clashes_33 rfl mlX11_161 rfl rfl (d' := 0) (by decide) (Nat.le_of_ble_eq_true rfl) (c_X0_heldH (show BRw w s _ _ from hR) ?_)
    refine w_inv1 39 dX11_clashes_36 rfl mlX11_222 rfl rfl (d' := 1) (by decide) (Nat.le_of_ble_eq_true rfl) (c_X10_clashesAmong_26 hC2.1 hC.2.1.2.1 (show HM w s n < 2 ^ 31 by omega) ?_)
    refine wr_i dX11_clashes_39 rfl ?_
    exact kq (h A2 (hC.fin hQ).1 (hC.fin hQ).2) (by unfold rClashes; rw [if_pos hz, cl_nI (show n < 2 ^ 31 by omega)]; rfl)
  · skip
    refine w_iconst 19 dX11_clashes_18 rfl (v := (-1)) rfl ?_
    refine wr_i dX11_clashes_19 rfl ?_
    exact kq (h _ (hC.ref _) (by dsimp only; rw [upd2_at])) (by unfold rClashes; rw [if_neg (of_decide_eq_true c15)])

set_option maxRecDepth 4000 in
theorem a_X11_leastBreak {K : Option Value → AH → Prop} {A : AH} {w : WT} {s : Nat → Nat} {b : Bool} (hC : CI w s A) (hR : BRw w s 0 A) (h : K (some (.int (nI (brkV w s b)))) A) : WP mX11_leastBreak 5 dC gC 36 [some (.ref 0), some (.int (b2i b)), some (.int (nI (HM w s 0))), some (.int (nI (HM w s 0))), some (.int (nI (lossF w s b (HM w s 0)))), none, none] [] A K := by
  have hH := HM_lt w s 0
  have hB := hR.2.2.2.2
  have lp39 : ∀ (nf : Nat) (i : Nat) (z : Option Value), i ≤ HM w s 0 + 1 → HM w s 0 + 1 - i < nf → WP mX11_leastBreak 5 dC gC 39 [some (.ref 0), some (.int (b2i b)), some (.int (nI (HM w s 0))), some (.int (nI (mnF (lossF w s b) (brkOK w (HM w s 0)) (HM w s 0) (lossF w s b (HM w s 0)) i).1)), some (.int (nI (mnF (lossF w s b) (brkOK w (HM w s 0)) (HM w s 0) (lossF w s b (HM w s 0)) i).2)), some (.int (nI i)), z] [] A K := by
    intro nf
    induction nf with
    | zero => intros; omega
    | succ nf ih =>
      intro i z hi hms
      have hle : (mnF (lossF w s b) (brkOK w (HM w s 0)) (HM w s 0) (lossF w s b (HM w s 0)) i).2 ≤ 1287 := mnF_le (lossF_le hC.2.2.2.1 hC.2.1.2.2.1 b _) (lossF_le hC.2.2.2.1 hC.2.1.2.2.1 b) i
      have hli := lossF_le hC.2.2.2.1 hC.2.1.2.2.1 b i
      have hcl := clsV_le hC.2.1 (HM w s 0 &&& (255 ^^^ i))
      refine w_iload 41 dX11_leastBreak_39 rfl rfl ?_
      refine w_iload_n 42 dX11_leastBreak_41 rfl rfl ?_
      refine w_icgtN 113 45 dX11_leastBreak_42 rfl rfl (by omega) (by omega) (fun c42 => ?_) (fun c42 => ?_)
      · skip
        have e : i = HM w s 0 + 1 := by omega
        refine w_iload_n 114 dX11_leastBreak_113 rfl rfl ?_
        refine wr_i dX11_leastBreak_114 rfl ?_
        exact kq h (by rw [e]; rfl)
      · skip
        refine w_iload 47 dX11_leastBreak_45 rfl rfl ?_
        refine w_iload_n 48 dX11_leastBreak_47 rfl rfl ?_
        refine w_invs2 51 dX11_leastBreak_48 rfl slX11_229 (d' := 0) (by decide) (Nat.le_of_ble_eq_true rfl) (c_X11_isWithin ?_)
        rw [isW (show i < 256 by omega)]
        refine w_ifeqB 107 54 dX11_leastBreak_51 rfl rfl (fun c51 => ?_) (fun c51 => ?_)
        · skip
          refine w_inc5 110 dX11_leastBreak_107 rfl (by decide) rfl (v := nI (_ + 1)) (nI_1 _) ?_
          refine w_goto 39 dX11_leastBreak_110 rfl ?_
          have hb : brkOK w (HM w s 0) i = false := by simp [brkOK, c51]
          refine wp_to ?_ rfl rfl (ih (i + 1) z (by omega) (by omega))
          simp [lle, mnF, hb]
        · skip
          refine w_aload_n 55 dX11_leastBreak_54 rfl rfl ?_
          refine w_getr 58 dX11_leastBreak_55 rfl faX11_19 rfl rfl rfl (r := .ref 26) rfl ?_
          refine w_iload_n 59 dX11_leastBreak_58 rfl rfl ?_
          refine w_iload 61 dX11_leastBreak_59 rfl rfl ?_
          refine w_iconst 62 dX11_leastBreak_61 rfl (v := (-1)) rfl ?_
          refine w_ixor 63 dX11_leastBreak_62 rfl ?_
          refine w_iand 64 dX11_leastBreak_63 rfl ?_
          refine w_top (not_and hH) ?_
          refine w_inv1 67 dX11_leastBreak_64 rfl mlX11_222 rfl rfl (d' := 1) (by decide) (Nat.le_of_ble_eq_true rfl) (c_X10_clashesAmong_26 hC.1 hC.2.1.2.1 (show (HM w s 0 &&& (255 ^^^ i)) < 2 ^ 31 from Nat.lt_of_le_of_lt Nat.and_le_left (by omega)) ?_)
          refine w_ifneN 107 70 dX11_leastBreak_67 rfl rfl (show clsV w (HM w s 0 &&& (255 ^^^ i)) < 2 ^ 31 by omega) (fun c67 => ?_) (fun c67 => ?_)
          · skip
            refine w_inc5 110 dX11_leastBreak_107 rfl (by decide) rfl (v := nI (_ + 1)) (nI_1 _) ?_
            refine w_goto 39 dX11_leastBreak_110 rfl ?_
            have hc67 : clsV w (HM w s 0 &&& (255 ^^^ i)) ≠ 0 := c67
            have hb : brkOK w (HM w s 0) i = false := by simp [brkOK, hc67]
            refine wp_to ?_ rfl rfl (ih (i + 1) z (by omega) (by omega))
            simp [lle, mnF, hb]
          · skip
            refine w_iload_n 71 dX11_leastBreak_70 rfl rfl ?_
            refine w_ifeqB 86 74 dX11_leastBreak_71 rfl rfl (fun c71 => ?_) (fun c71 => ?_)
            · skip
              refine w_iload 88 dX11_leastBreak_86 rfl rfl ?_
              refine w_invs1 91 dX11_leastBreak_88 rfl slX11_214 (d' := 0) (by decide) (Nat.le_of_ble_eq_true rfl) (c_J6_bitCount_0f7a4 (show i < 256 by omega) ?_)
              rw [show popc i = lossF w s b i by simp [lossF, c71]]
              refine w_ist6 93 dX11_leastBreak_91 rfl (by decide) rfl ?_
              refine w_iload 95 dX11_leastBreak_93 rfl rfl ?_
              refine w_iload 97 dX11_leastBreak_95 rfl rfl ?_
              refine w_icgeN 107 100 dX11_leastBreak_97 rfl rfl (by omega) (by omega) (fun c97 => ?_) (fun c97 => ?_)
              · skip
                refine w_inc5 110 dX11_leastBreak_107 rfl (by decide) rfl (v := nI (_ + 1)) (nI_1 _) ?_
                refine w_goto 39 dX11_leastBreak_110 rfl ?_
                have hs51 : subM i (HM w s 0) = true := c51
                have hc67 : clsV w (HM w s 0 &&& (255 ^^^ i)) = 0 := c67
                have hb : brkOK w (HM w s 0) i = true := by simp [brkOK, hs51, hc67]
                refine wp_to ?_ rfl rfl (ih (i + 1) (some (.int (nI (lossF w s b i)))) (by omega) (by omega))
                simp [lle, mnF, hb, Nat.not_lt.mpr c97]
              · skip
                refine w_iload 102 dX11_leastBreak_100 rfl rfl ?_
                refine w_ist4 104 dX11_leastBreak_102 rfl (by decide) rfl ?_
                refine w_iload 106 dX11_leastBreak_104 rfl rfl ?_
                refine w_ist3 107 dX11_leastBreak_106 rfl (by decide) rfl ?_
                refine w_inc5 110 dX11_leastBreak_107 rfl (by decide) rfl (v := nI (_ + 1)) (nI_1 _) ?_
                refine w_goto 39 dX11_leastBreak_110 rfl ?_
                have hs51 : subM i (HM w s 0) = true := c51
                have hc67 : clsV w (HM w s 0 &&& (255 ^^^ i)) = 0 := c67
                have hb : brkOK w (HM w s 0) i = true := by simp [brkOK, hs51, hc67]
                refine wp_to ?_ rfl rfl (ih (i + 1) (some (.int (nI (lossF w s b i)))) (by omega) (by omega))
                simp [lle, mnF, hb, c97]
            · skip
              refine w_aload_n 75 dX11_leastBreak_74 rfl rfl ?_
              refine w_getr 78 dX11_leastBreak_75 rfl faX11_40 rfl rfl rfl (r := .ref 48) rfl ?_
              refine w_iload 80 dX11_leastBreak_78 rfl rfl ?_
              refine w_inv1 83 dX11_leastBreak_80 rfl mlX11_151 rfl rfl (d' := 0) (by decide) (Nat.le_of_ble_eq_true rfl) (c_X0_sumOf hB (show i < 2 ^ 31 by omega) ?_)
              rw [show sumB (esW w s 0) i 13 = lossF w s b i by simp [lossF, c71]]
              refine w_goto 91 dX11_leastBreak_83 rfl ?_
              refine w_ist6 93 dX11_leastBreak_91 rfl (by decide) rfl ?_
              refine w_iload 95 dX11_leastBreak_93 rfl rfl ?_
              refine w_iload 97 dX11_leastBreak_95 rfl rfl ?_
              refine w_icgeN 107 100 dX11_leastBreak_97 rfl rfl (by omega) (by omega) (fun c97 => ?_) (fun c97 => ?_)
              · skip
                refine w_inc5 110 dX11_leastBreak_107 rfl (by decide) rfl (v := nI (_ + 1)) (nI_1 _) ?_
                refine w_goto 39 dX11_leastBreak_110 rfl ?_
                have hs51 : subM i (HM w s 0) = true := c51
                have hc67 : clsV w (HM w s 0 &&& (255 ^^^ i)) = 0 := c67
                have hb : brkOK w (HM w s 0) i = true := by simp [brkOK, hs51, hc67]
                refine wp_to ?_ rfl rfl (ih (i + 1) (some (.int (nI (lossF w s b i)))) (by omega) (by omega))
                simp [lle, mnF, hb, Nat.not_lt.mpr c97]
              · skip
                refine w_iload 102 dX11_leastBreak_100 rfl rfl ?_
                refine w_ist4 104 dX11_leastBreak_102 rfl (by decide) rfl ?_
                refine w_iload 106 dX11_leastBreak_104 rfl rfl ?_
                refine w_ist3 107 dX11_leastBreak_106 rfl (by decide) rfl ?_
                refine w_inc5 110 dX11_leastBreak_107 rfl (by decide) rfl (v := nI (_ + 1)) (nI_1 _) ?_
                refine w_goto 39 dX11_leastBreak_110 rfl ?_
                have hs51 : subM i (HM w s 0) = true := c51
                have hc67 : clsV w (HM w s 0 &&& (255 ^^^ i)) = 0 := c67
                have hb : brkOK w (HM w s 0) i = true := by simp [brkOK, hs51, hc67]
                refine wp_to ?_ rfl rfl (ih (i + 1) (some (.int (nI (lossF w s b i)))) (by omega) (by omega))
                simp [lle, mnF, hb, c97]
  refine w_iconst 37 dX11_leastBreak_36 rfl (v := nI 0) rfl ?_
  refine w_ist5 39 dX11_leastBreak_37 rfl (by decide) rfl ?_
  exact lp39 _ 0 none (Nat.zero_le _) (Nat.lt_succ_self _)

set_option maxRecDepth 4000 in
theorem c_X11_leastBreak {K : Option Value → AH → Prop} {A : AH} {w : WT} {s : Nat → Nat} {b : Bool} (hC : CI w s A) (h : ∀ A', BRw w s 0 A' → Qi A A' → K (some (.int (nI (brkV w s b)))) A') : Ct yX11_leastBreak mX11_leastBreak 5 dC gC [.ref 0, .int (b2i b)] A K := by
  refine Ct.of [some (.ref 0), some (.int (b2i b)), none, none, none, none, none] rfl rfl rfl (Nat.le_of_ble_eq_true rfl) ?_
  refine w_aload_n 1 dX11_leastBreak_0 rfl rfl ?_
  refine w_iconst 2 dX11_leastBreak_1 rfl (v := nI 0) rfl ?_
  refine w_inv1 5 dX11_leastBreak_2 rfl mlX11_145 rfl rfl (d' := 4) (by decide) (Nat.le_of_ble_eq_true rfl) (c_X11_goBehind hC (by decide) (fun A2 hR hQ => ?_))
  have hC2 := hC.off hQ.q
  have hH := HM_lt w s 0
  have hB := hR.2.2.2.2
  refine w_aload_n 6 dX11_leastBreak_5 rfl rfl ?_
  refine w_getr 9 dX11_leastBreak_6 rfl faX11_40 rfl rfl rfl (r := .ref 48) rfl ?_
  refine w_inv0 12 dX11_leastBreak_9 rfl mlX11_161 rfl rfl (d' := 0) (by decide) (Nat.le_of_ble_eq_true rfl) (c_X0_heldH (show BRw w s _ _ from hR) ?_)
  refine w_ist2 13 dX11_leastBreak_12 rfl (by decide) rfl ?_
  refine w_iload_n 14 dX11_leastBreak_13 rfl rfl ?_
  refine w_ist3 15 dX11_leastBreak_14 rfl (by decide) rfl ?_
  refine w_iload_n 16 dX11_leastBreak_15 rfl rfl ?_
  refine w_ifeqB 30 19 dX11_leastBreak_16 rfl rfl (fun c16 => ?_) (fun c16 => ?_)
  · skip
    refine w_iload_n 31 dX11_leastBreak_30 rfl rfl ?_
    refine w_invs1 34 dX11_leastBreak_31 rfl slX11_214 (d' := 0) (by decide) (Nat.le_of_ble_eq_true rfl) (c_J6_bitCount_0f7a4 (show HM w s 0 < 256 by omega) ?_)
    rw [show popc (HM w s 0) = lossF w s b (HM w s 0) by simp [lossF, c16]]
    refine w_ist4 36 dX11_leastBreak_34 rfl (by decide) rfl ?_
    exact a_X11_leastBreak hC2 hR (h A2 hR hQ)
  · skip
    refine w_aload_n 20 dX11_leastBreak_19 rfl rfl ?_
    refine w_getr 23 dX11_leastBreak_20 rfl faX11_40 rfl rfl rfl (r := .ref 48) rfl ?_
    refine w_iload_n 24 dX11_leastBreak_23 rfl rfl ?_
    refine w_inv1 27 dX11_leastBreak_24 rfl mlX11_151 rfl rfl (d' := 0) (by decide) (Nat.le_of_ble_eq_true rfl) (c_X0_sumOf hB (show HM w s 0 < 2 ^ 31 by omega) ?_)
    rw [show sumB (esW w s 0) (HM w s 0) 13 = lossF w s b (HM w s 0) by simp [lossF, c16]]
    refine w_goto 34 dX11_leastBreak_27 rfl ?_
    refine w_ist4 36 dX11_leastBreak_34 rfl (by decide) rfl ?_
    exact a_X11_leastBreak hC2 hR (h A2 hR hQ)

set_option maxRecDepth 4000 in
theorem c_X11_breakFew {K : Option Value → AH → Prop} {A : AH} {w : WT} {s : Nat → Nat} (hC : CI w s A)  (h : ∀ A', Qk A A' → A'.1 0 8 = nI (t1 (okW1 w)) → K (some (.int (rBreakFew w s))) A') : Ct yX11_breakFew mX11_breakFew 6 dC gC [.ref 0] A K := by
  refine Ct.of [some (.ref 0)] rfl rfl rfl (Nat.le_of_ble_eq_true rfl) ?_
  refine w_aload_n 1 dX11_breakFew_0 rfl rfl ?_
  refine w_aload_n 2 dX11_breakFew_1 rfl rfl ?_
  refine w_inv0 5 dX11_breakFew_2 rfl mlX11_157 rfl rfl (d' := 2) (by decide) (Nat.le_of_ble_eq_true rfl) (c_X11_needWeb hC ?_)
  refine w_inv1 8 dX11_breakFew_5 rfl mlX11_87 rfl rfl (d' := 0) (by decide) (Nat.le_of_ble_eq_true rfl) (c_X11_refused (Nat.lt_of_le_of_lt (t1_le _) (by decide)) ?_)
  refine w_ifeqB 13 11 dX11_breakFew_8 rfl rfl (fun c8 => ?_) (fun c8 => ?_)
  · skip
    have hz : t1 (okW1 w) = 0 := by simpa using c8
    have hC1 := hC.off (hC.ref (nI (t1 (okW1 w))))
    skip
    refine w_aload_n 14 dX11_breakFew_13 rfl rfl ?_
    refine w_iconst 15 dX11_breakFew_14 rfl (v := nI 0) rfl ?_
    refine w_inv1 18 dX11_breakFew_15 rfl mlX11_225 rfl rfl (d' := 5) (by decide) (Nat.le_of_ble_eq_true rfl) (c_X11_leastBreak (b := false) hC1 (fun A2 hR hQ => ?_))
    refine wr_i dX11_breakFew_18 rfl ?_
    exact kq (h A2 (hC.fin hQ).1 (hC.fin hQ).2) (by unfold rBreakFew; rw [if_pos hz])
  · skip
    refine w_iconst 12 dX11_breakFew_11 rfl (v := (-1)) rfl ?_
    refine wr_i dX11_breakFew_12 rfl ?_
    exact kq (h _ (hC.ref _) (by dsimp only; rw [upd2_at])) (by unfold rBreakFew; rw [if_neg (of_decide_eq_true c8)])

set_option maxRecDepth 4000 in
theorem c_X11_breakRued {K : Option Value → AH → Prop} {A : AH} {w : WT} {s : Nat → Nat} (hC : CI w s A)  (h : ∀ A', Qk A A' → A'.1 0 8 = nI (t1 (okW1 w)) → K (some (.int (rBreakRued w s))) A') : Ct yX11_breakRued mX11_breakRued 6 dC gC [.ref 0] A K := by
  refine Ct.of [some (.ref 0)] rfl rfl rfl (Nat.le_of_ble_eq_true rfl) ?_
  refine w_aload_n 1 dX11_breakRued_0 rfl rfl ?_
  refine w_aload_n 2 dX11_breakRued_1 rfl rfl ?_
  refine w_inv0 5 dX11_breakRued_2 rfl mlX11_157 rfl rfl (d' := 2) (by decide) (Nat.le_of_ble_eq_true rfl) (c_X11_needWeb hC ?_)
  refine w_inv1 8 dX11_breakRued_5 rfl mlX11_87 rfl rfl (d' := 0) (by decide) (Nat.le_of_ble_eq_true rfl) (c_X11_refused (Nat.lt_of_le_of_lt (t1_le _) (by decide)) ?_)
  refine w_ifeqB 13 11 dX11_breakRued_8 rfl rfl (fun c8 => ?_) (fun c8 => ?_)
  · skip
    have hz : t1 (okW1 w) = 0 := by simpa using c8
    have hC1 := hC.off (hC.ref (nI (t1 (okW1 w))))
    skip
    refine w_aload_n 14 dX11_breakRued_13 rfl rfl ?_
    refine w_iconst 15 dX11_breakRued_14 rfl (v := nI 1) rfl ?_
    refine w_inv1 18 dX11_breakRued_15 rfl mlX11_225 rfl rfl (d' := 5) (by decide) (Nat.le_of_ble_eq_true rfl) (c_X11_leastBreak (b := true) hC1 (fun A2 hR hQ => ?_))
    refine wr_i dX11_breakRued_18 rfl ?_
    exact kq (h A2 (hC.fin hQ).1 (hC.fin hQ).2) (by unfold rBreakRued; rw [if_pos hz])
  · skip
    refine w_iconst 12 dX11_breakRued_11 rfl (v := (-1)) rfl ?_
    refine wr_i dX11_breakRued_12 rfl ?_
    exact kq (h _ (hC.ref _) (by dsimp only; rw [upd2_at])) (by unfold rBreakRued; rw [if_neg (of_decide_eq_true c8)])

set_option maxRecDepth 4000 in
theorem c_X11_rue {K : Option Value → AH → Prop} {A : AH} {w : WT} {s : Nat → Nat} (hC : CI w s A)  (h : ∀ A', Qk A A' → A'.1 0 8 = nI (t1 (okW1 w)) → K (some (.int (rRue w s))) A') : Ct yX11_rue mX11_rue 6 dC gC [.ref 0] A K := by
  refine Ct.of [some (.ref 0)] rfl rfl rfl (Nat.le_of_ble_eq_true rfl) ?_
  refine w_aload_n 1 dX11_rue_0 rfl rfl ?_
  refine w_aload_n 2 dX11_rue_1 rfl rfl ?_
  refine w_inv0 5 dX11_rue_2 rfl mlX11_157 rfl rfl (d' := 2) (by decide) (Nat.le_of_ble_eq_true rfl) (c_X11_needWeb hC ?_)
  refine w_inv1 8 dX11_rue_5 rfl mlX11_87 rfl rfl (d' := 0) (by decide) (Nat.le_of_ble_eq_true rfl) (c_X11_refused (Nat.lt_of_le_of_lt (t1_le _) (by decide)) ?_)
  refine w_ifeqB 13 11 dX11_rue_8 rfl rfl (fun c8 => ?_) (fun c8 => ?_)
  · skip
    have hz : t1 (okW1 w) = 0 := by simpa using c8
    have hC1 := hC.off (hC.ref (nI (t1 (okW1 w))))
    skip
    refine w_aload_n 14 dX11_rue_13 rfl rfl ?_
    refine w_getr 17 dX11_rue_14 rfl faX11_40 rfl rfl rfl (r := .ref 48) rfl ?_
    refine w_aload_n 18 dX11_rue_17 rfl rfl ?_
    refine w_iconst 19 dX11_rue_18 rfl (v := nI 1) rfl ?_
    refine w_inv1 22 dX11_rue_19 rfl mlX11_225 rfl rfl (d' := 5) (by decide) (Nat.le_of_ble_eq_true rfl) (c_X11_leastBreak (b := true) hC1 (fun A2 hR hQ => ?_))
    refine w_inv1 25 dX11_rue_22 rfl mlX11_151 rfl rfl (d' := 0) (by decide) (Nat.le_of_ble_eq_true rfl) (c_X0_sumOf hR.2.2.2.2 (Nat.lt_trans (brkV_lt w s true) (by decide)) ?_)
    refine wr_i dX11_rue_25 rfl ?_
    exact kq (h A2 (hC.fin hQ).1 (hC.fin hQ).2) (by unfold rRue; rw [if_pos hz]; rfl)
  · skip
    refine w_iconst 12 dX11_rue_11 rfl (v := (-1)) rfl ?_
    refine wr_i dX11_rue_12 rfl ?_
    exact kq (h _ (hC.ref _) (by dsimp only; rw [upd2_at])) (by unfold rRue; rw [if_neg (of_decide_eq_true c8)])

set_option maxRecDepth 4000 in
theorem a_X11_peaces {K : Option Value → AH → Prop} {A : AH} {w : WT} {s : Nat → Nat} (hC : CI w s A) (h : K (some (.int (nI (cntTo (fun m => subM m (HM w s 0) && decide (clsV w m = 0)) (HM w s 0 + 1))))) A) : WP mX11_peaces 5 dC gC 26 [some (.ref 0), some (.int (nI (HM w s 0))), none, none] [] A K := by
  have hH := HM_lt w s 0
  have lp30 : ∀ (nf : Nat) (i : Nat), i ≤ HM w s 0 + 1 → HM w s 0 + 1 - i < nf → WP mX11_peaces 5 dC gC 30 [some (.ref 0), some (.int (nI (HM w s 0))), some (.int (nI (cntTo (fun m => subM m (HM w s 0) && decide (clsV w m = 0)) i))), some (.int (nI i))] [] A K := by
    intro nf
    induction nf with
    | zero => intros; omega
    | succ nf ih =>
      intro i hi hms
      have hcl := clsV_le hC.2.1 i
      refine w_iload_n 31 dX11_peaces_30 rfl rfl ?_
      refine w_iload_n 32 dX11_peaces_31 rfl rfl ?_
      refine w_icgtN 63 35 dX11_peaces_32 rfl rfl (by omega) (by omega) (fun c32 => ?_) (fun c32 => ?_)
      · skip
        have e : i = HM w s 0 + 1 := by omega
        refine w_iload_n 64 dX11_peaces_63 rfl rfl ?_
        refine wr_i dX11_peaces_64 rfl ?_
        exact kq h (by rw [e])
      · skip
        refine w_iload_n 36 dX11_peaces_35 rfl rfl ?_
        refine w_iload_n 37 dX11_peaces_36 rfl rfl ?_
        refine w_invs2 40 dX11_peaces_37 rfl slX11_229 (d' := 0) (by decide) (Nat.le_of_ble_eq_true rfl) (c_X11_isWithin ?_)
        rw [isW (show i < 256 by omega)]
        refine w_ifeqB 57 43 dX11_peaces_40 rfl rfl (fun c40 => ?_) (fun c40 => ?_)
        · skip
          refine w_inc3 60 dX11_peaces_57 rfl (by decide) rfl (v := nI (_ + 1)) (nI_1 _) ?_
          refine w_goto 30 dX11_peaces_60 rfl ?_
          refine wp_to ?_ rfl rfl (ih (i + 1) (by omega) (by omega))
          simp [lle, cntTo, c40]
        · skip
          refine w_aload_n 44 dX11_peaces_43 rfl rfl ?_
          refine w_getr 47 dX11_peaces_44 rfl faX11_19 rfl rfl rfl (r := .ref 26) rfl ?_
          refine w_iload_n 48 dX11_peaces_47 rfl rfl ?_
          refine w_inv1 51 dX11_peaces_48 rfl mlX11_222 rfl rfl (d' := 1) (by decide) (Nat.le_of_ble_eq_true rfl) (c_X10_clashesAmong_26 hC.1 hC.2.1.2.1 (show i < 2 ^ 31 by omega) ?_)
          refine w_ifneN 57 54 dX11_peaces_51 rfl rfl (show clsV w i < 2 ^ 31 by omega) (fun c51 => ?_) (fun c51 => ?_)
          · skip
            refine w_inc3 60 dX11_peaces_57 rfl (by decide) rfl (v := nI (_ + 1)) (nI_1 _) ?_
            refine w_goto 30 dX11_peaces_60 rfl ?_
            have c51 : clsV w i ≠ 0 := c51
            refine wp_to ?_ rfl rfl (ih (i + 1) (by omega) (by omega))
            simp [lle, cntTo, c40, c51]
          · skip
            refine w_inc2 57 dX11_peaces_54 rfl (by decide) rfl (v := nI (_ + 1)) (nI_1 _) ?_
            refine w_inc3 60 dX11_peaces_57 rfl (by decide) rfl (v := nI (_ + 1)) (nI_1 _) ?_
            refine w_goto 30 dX11_peaces_60 rfl ?_
            have c51 : clsV w i = 0 := c51
            refine wp_to ?_ rfl rfl (ih (i + 1) (by omega) (by omega))
            simp [lle, cntTo, c40, c51]
  refine w_iconst 27 dX11_peaces_26 rfl (v := nI 0) rfl ?_
  refine w_ist2 28 dX11_peaces_27 rfl (by decide) rfl ?_
  refine w_iconst 29 dX11_peaces_28 rfl (v := nI 0) rfl ?_
  refine w_ist3 30 dX11_peaces_29 rfl (by decide) rfl ?_
  exact lp30 _ 0 (Nat.zero_le _) (Nat.lt_succ_self _)

set_option maxRecDepth 4000 in
theorem c_X11_peaces {K : Option Value → AH → Prop} {A : AH} {w : WT} {s : Nat → Nat} (hC : CI w s A)  (h : ∀ A', Qk A A' → A'.1 0 8 = nI (t1 (okW1 w)) → K (some (.int (rPeaces w s))) A') : Ct yX11_peaces mX11_peaces 5 dC gC [.ref 0] A K := by
  refine Ct.of [some (.ref 0), none, none, none] rfl rfl rfl (Nat.le_of_ble_eq_true rfl) ?_
  refine w_aload_n 1 dX11_peaces_0 rfl rfl ?_
  refine w_aload_n 2 dX11_peaces_1 rfl rfl ?_
  refine w_inv0 5 dX11_peaces_2 rfl mlX11_157 rfl rfl (d' := 2) (by decide) (Nat.le_of_ble_eq_true rfl) (c_X11_needWeb hC ?_)
  refine w_inv1 8 dX11_peaces_5 rfl mlX11_87 rfl rfl (d' := 0) (by decide) (Nat.le_of_ble_eq_true rfl) (c_X11_refused (Nat.lt_of_le_of_lt (t1_le _) (by decide)) ?_)
  refine w_ifeqB 13 11 dX11_peaces_8 rfl rfl (fun c8 => ?_) (fun c8 => ?_)
  · skip
    have hz : t1 (okW1 w) = 0 := by simpa using c8
    have hC1 := hC.off (hC.ref (nI (t1 (okW1 w))))
    skip
    refine w_aload_n 14 dX11_peaces_13 rfl rfl ?_
    refine w_iconst 15 dX11_peaces_14 rfl (v := nI 0) rfl ?_
    refine w_inv1 18 dX11_peaces_15 rfl mlX11_145 rfl rfl (d' := 4) (by decide) (Nat.le_of_ble_eq_true rfl) (c_X11_goBehind hC1 (by decide) (fun A2 hR hQ => ?_))
    refine w_aload_n 19 dX11_peaces_18 rfl rfl ?_
    refine w_getr 22 dX11_peaces_19 rfl faX11_40 rfl rfl rfl (r := .ref 48) rfl ?_
    refine w_inv0 25 dX11_peaces_22 rfl mlX11_161 rfl rfl (d' := 0) (by decide) (Nat.le_of_ble_eq_true rfl) (c_X0_heldH (show BRw w s _ _ from hR) ?_)
    refine w_ist1 26 dX11_peaces_25 rfl (by decide) rfl ?_
    exact a_X11_peaces (hC1.off hQ.q) (kq (h A2 (hC.fin hQ).1 (hC.fin hQ).2) (by unfold rPeaces; rw [if_pos hz]))
  · skip
    refine w_iconst 12 dX11_peaces_11 rfl (v := (-1)) rfl ?_
    refine wr_i dX11_peaces_12 rfl ?_
    exact kq (h _ (hC.ref _) (by dsimp only; rw [upd2_at])) (by unfold rPeaces; rw [if_neg (of_decide_eq_true c8)])
