/-! ===== more answers ===== -/
def lvP (f : Nat → Nat) (p : Nat → Bool) : Nat → Option Nat × Nat
  | 0 => (none, 0)
  | n + 1 => if p n = true ∧ ((lvP f p n).1 = none ∨ f n < (lvP f p n).2) then (some n, f n) else lvP f p n
theorem lvP_le {f : Nat → Nat} {p : Nat → Bool} {c : Nat} (h : ∀ s, f s ≤ c) : ∀ n, (lvP f p n).2 ≤ c
  | 0 => Nat.zero_le _
  | n + 1 => by
    simp only [lvP]
    split
    · exact h n
    · exact lvP_le h n
theorem lvP_lt {f : Nat → Nat} {p : Nat → Bool} {k : Nat} : ∀ {n : Nat}, (lvP f p n).1 = some k → k < n
  | 0, h => by simp [lvP] at h
  | n + 1, h => by
    simp only [lvP] at h
    split at h
    · cases h; omega
    · have := lvP_lt h; omega
def vitF (w : WT) (s : Nat → Nat) (n a b t : Nat) : Nat := BV w s n (HM w s n ^^^ 2 ^ t) a b
def rVital (w : WT) (s : Nat → Nat) (a b n : Int32) : Int32 := if tY (ok2 w a b) n = 0 then enc2 (lvP (vitF w s (cl n) (cl a) (cl b)) (fun t => (HM w s (cl n)).testBit t) (s 1)).1 else -1
def nedB (w : WT) (s : Nat → Nat) (n a b t : Nat) : Bool := (HM w s n).testBit t && decide (vitF w s n a b t < BV w s n (HM w s n) a b)
def rNeeded (w : WT) (s : Nat → Nat) (a b n : Int32) : Int32 := if tY (ok2 w a b) n = 0 then nI (maskTo (nedB w s (cl n) (cl a) (cl b)) (s 1)) else -1
def pcsW (w : WT) (s : Nat → Nat) (m : Nat) : Nat := pcsT (e1W w s) (e2W w s) m (w.1 1) (w.1 1)
def briB (w : WT) (s : Nat → Nat) (n t : Nat) : Bool := (HM w s n).testBit t && decide (pcsW w s (HM w s n) < pcsW w s (HM w s n ^^^ 2 ^ t))
def rBridges (w : WT) (s : Nat → Nat) (n : Int32) : Int32 := if tY (okW1 w) n = 0 then nI (maskTo (briB w s (cl n)) (s 1)) else -1
theorem pcsT_le {e1 e2 : Nat → Nat} {m nn : Nat} : ∀ a, pcsT e1 e2 m nn a ≤ a
  | 0 => Nat.le_refl _
  | a + 1 => by
    have ih := pcsT_le (e1 := e1) (e2 := e2) (m := m) (nn := nn) a
    simp only [pcsT]
    split <;> omega
theorem HM_lt (w : WT) (s : Nat → Nat) (n : Nat) : HM w s n < 256 := heldM_lt _
theorem BV_le {w : WT} {s : Nat → Nat} (hs : okS s) (hw : ofOK w) (n m a b : Nat) : BV w s n m a b ≤ 1287 := bearV_le (okW hs hw n) m a b
set_option maxRecDepth 4000 in
theorem a_X11_vital {K : Option Value → AH → Prop} {A : AH} {w : WT} {s : Nat → Nat} {a b n : Nat} (hq : RepQ (w.1 1) (e1W w s) (e2W w s) a b A) (hR3 : BR (w.1 1) (e1W w s) (e2W w s) (esW w s n) A) (h32 : cntTo (sideP a b) (2 ^ w.1 1) ≤ 32) (hC : CI w s A) (h : K (some (.int (enc2 (lvP (vitF w s n a b) (fun t => (HM w s n).testBit t) (s 1)).1))) A) : WP mX11_vital 5 dC gC 45 [some (.ref 0), some (.int (nI a)), some (.int (nI b)), some (.int (nI n)), some (.int (nI (HM w s n))), none, none, none, none] [] A K := by
  have lp55 : ∀ (nf : Nat) (i : Nat), i ≤ s 1 → s 1 - i < nf → WP mX11_vital 5 dC gC 55 [some (.ref 0), some (.int (nI a)), some (.int (nI b)), some (.int (nI n)), some (.int (nI (HM w s n))), some (.int (enc2 (lvP (vitF w s n a b) (fun t => (HM w s n).testBit t) i).1)), some (.int (nI (lvP (vitF w s n a b) (fun t => (HM w s n).testBit t) i).2)), some (.int (nI i)), none] [] A K := by
    intro nf
    induction nf with
    | zero => intros; omega
    | succ nf ih =>
      intro i hi hms
      have hle : (lvP (vitF w s n a b) (fun t => (HM w s n).testBit t) i).2 ≤ 1287 := lvP_le (fun t => BV_le hC.2.2.2.1 hC.2.1.2.2.1 _ _ _ _) i
      have hs8 := hC.2.2.2.1.2.1
      have hm := HM_lt w s n
      refine w_iload 57 dX11_vital_55 rfl rfl ?_
      refine w_aload_n 58 dX11_vital_57 rfl rfl ?_
      refine w_getr 61 dX11_vital_58 rfl faX11_26 rfl rfl rfl (r := .ref 43) rfl ?_
      refine w_inv0 64 dX11_vital_61 rfl mlX11_164 rfl rfl (d' := 0) (by decide) (Nat.le_of_ble_eq_true rfl) (c_X7_threads hC.2.2.1 ?_)
      refine w_icgeN 121 67 dX11_vital_64 rfl rfl (by omega) (by omega) (fun c64 => ?_) (fun c64 => ?_)
      · skip
        have e : i = s 1 := by omega
        subst e
        refine w_iload 123 dX11_vital_121 rfl rfl ?_
        refine wr_i dX11_vital_123 rfl ?_
        exact h
      · skip
        refine w_iload 69 dX11_vital_67 rfl rfl ?_
        refine w_iload 71 dX11_vital_69 rfl rfl ?_
        refine w_invs2 74 dX11_vital_71 rfl slX11_180 (d' := 0) (by decide) (Nat.le_of_ble_eq_true rfl) (c_X11_has ?_)
        rw [hasB_nI (by omega) (by omega)]
        refine w_ifeqB 115 77 dX11_vital_74 rfl rfl (fun c74 => ?_) (fun c74 => ?_)
        · skip
          refine w_inc7 118 dX11_vital_115 rfl (by decide) rfl (v := nI (_ + 1)) (nI_1 _) ?_
          refine w_goto 55 dX11_vital_118 rfl ?_
          refine wp_to ?_ rfl rfl (ih (i + 1) (by omega) (by omega))
          simp [lle, lvP, c74]
        · skip
          refine w_aload_n 78 dX11_vital_77 rfl rfl ?_
          refine w_getr 81 dX11_vital_78 rfl faX11_40 rfl rfl rfl (r := .ref 48) rfl ?_
          refine w_iload 83 dX11_vital_81 rfl rfl ?_
          refine w_iconst 84 dX11_vital_83 rfl (v := nI 1) rfl ?_
          refine w_iload 86 dX11_vital_84 rfl rfl ?_
          refine w_shl1 87 dX11_vital_86 rfl (by omega) ?_
          refine w_ixor 88 dX11_vital_87 rfl ?_
          refine w_top (nI_xor _ _) ?_
          refine w_inv1 91 dX11_vital_88 rfl mlX11_184 rfl rfl (d' := 1) (by decide) (Nat.le_of_ble_eq_true rfl) (c_X0_borneBy hq hR3.2.2.2.2 hR3.2.2.2.1 h32 ?_)
          refine w_ist8 93 dX11_vital_91 rfl (by decide) rfl ?_
          refine w_iload 95 dX11_vital_93 rfl rfl ?_
          refine w_bipush 97 dX11_vital_95 rfl (v := (-2)) rfl ?_
          refine w_iceq 107 100 dX11_vital_97 rfl rfl (fun c97 => ?_) (fun c97 => ?_)
          · skip
            refine w_iload 109 dX11_vital_107 rfl rfl ?_
            refine w_ist6 111 dX11_vital_109 rfl (by decide) rfl ?_
            refine w_iload 113 dX11_vital_111 rfl rfl ?_
            refine w_ist5 115 dX11_vital_113 rfl (by decide) rfl ?_
            refine w_inc7 118 dX11_vital_115 rfl (by decide) rfl (v := nI (_ + 1)) (nI_1 _) ?_
            refine w_goto 55 dX11_vital_118 rfl ?_
            have c97 := (enc2_m2 (fun k hk => by have := lvP_lt hk; omega)).mp c97
            refine wp_to ?_ rfl rfl (ih (i + 1) (by omega) (by omega))
            simp [lle, lvP, c74, c97, enc2, vitF, BV]
          · skip
            refine w_iload 102 dX11_vital_100 rfl rfl ?_
            refine w_iload 104 dX11_vital_102 rfl rfl ?_
            refine w_icgeN 115 107 dX11_vital_104 rfl rfl (by have := BV_le hC.2.2.2.1 hC.2.1.2.2.1 n (HM w s n ^^^ 2 ^ i) a b; unfold BV at this; omega) (by omega) (fun c104 => ?_) (fun c104 => ?_)
            · skip
              refine w_inc7 118 dX11_vital_115 rfl (by decide) rfl (v := nI (_ + 1)) (nI_1 _) ?_
              refine w_goto 55 dX11_vital_118 rfl ?_
              have c97 := fun e => c97 ((enc2_m2 (fun k hk => by have := lvP_lt hk; omega)).mpr e)
              have c104 : ¬ vitF w s n a b i < (lvP (vitF w s n a b) (fun t => (HM w s n).testBit t) i).2 := Nat.not_lt.mpr c104
              refine wp_to ?_ rfl rfl (ih (i + 1) (by omega) (by omega))
              have e9 : lvP (vitF w s n a b) (fun t => (HM w s n).testBit t) (i + 1) = (lvP (vitF w s n a b) (fun t => (HM w s n).testBit t) i) := by simp only [lvP]; rw [if_neg (fun q => q.2.elim c97 c104)]
              simp [lle, e9]
            · skip
              refine w_iload 109 dX11_vital_107 rfl rfl ?_
              refine w_ist6 111 dX11_vital_109 rfl (by decide) rfl ?_
              refine w_iload 113 dX11_vital_111 rfl rfl ?_
              refine w_ist5 115 dX11_vital_113 rfl (by decide) rfl ?_
              refine w_inc7 118 dX11_vital_115 rfl (by decide) rfl (v := nI (_ + 1)) (nI_1 _) ?_
              refine w_goto 55 dX11_vital_118 rfl ?_
              have c104 : vitF w s n a b i < (lvP (vitF w s n a b) (fun t => (HM w s n).testBit t) i).2 := c104
              refine wp_to ?_ rfl rfl (ih (i + 1) (by omega) (by omega))
              simp [lle, lvP, c74, c104, enc2]
              rfl
  refine w_bipush 47 dX11_vital_45 rfl (v := (-2)) rfl ?_
  refine w_ist5 49 dX11_vital_47 rfl (by decide) rfl ?_
  refine w_iconst 50 dX11_vital_49 rfl (v := nI 0) rfl ?_
  refine w_ist6 52 dX11_vital_50 rfl (by decide) rfl ?_
  refine w_iconst 53 dX11_vital_52 rfl (v := nI 0) rfl ?_
  refine w_ist7 55 dX11_vital_53 rfl (by decide) rfl ?_
  exact lp55 _ 0 (Nat.zero_le _) (Nat.lt_succ_self _)

set_option maxRecDepth 4000 in
theorem c_X11_vital {K : Option Value → AH → Prop} {A : AH} {w : WT} {s : Nat → Nat} (hC : CI w s A) {a b n : Int32} (h : ∀ A', Qk A A' → A'.1 0 8 = nI (tY (ok2 w a b) n) → K (some (.int (rVital w s a b n))) A') : Ct yX11_vital mX11_vital 5 dC gC [.ref 0, .int a, .int b, .int n] A K := by
  refine Ct.of [some (.ref 0), some (.int a), some (.int b), some (.int n), none, none, none, none, none] rfl rfl rfl (Nat.le_of_ble_eq_true rfl) ?_
  refine w_aload_n 1 dX11_vital_0 rfl rfl ?_
  refine w_aload_n 2 dX11_vital_1 rfl rfl ?_
  refine w_iload_n 3 dX11_vital_2 rfl rfl ?_
  refine w_iload_n 4 dX11_vital_3 rfl rfl ?_
  refine w_inv2 7 dX11_vital_4 rfl mlX11_167 rfl rfl (d' := 4) (by decide) (Nat.le_of_ble_eq_true rfl) (c_X11_needTwoNails hC ?_)
  refine w_iload_n 8 dX11_vital_7 rfl rfl ?_
  refine w_invs1 11 dX11_vital_8 rfl slX11_154 (d' := 1) (by decide) (Nat.le_of_ble_eq_true rfl) (c_X11_needYears ?_)
  refine w_invs2 14 dX11_vital_11 rfl slX11_126 (d' := 0) (by decide) (Nat.le_of_ble_eq_true rfl) (c_X11_firstOfN (Nat.lt_of_le_of_lt (t1_le _) (by decide)) ?_)
  rw [tY_first]
  refine w_inv1 17 dX11_vital_14 rfl mlX11_87 rfl rfl (d' := 0) (by decide) (Nat.le_of_ble_eq_true rfl) (c_X11_refused (Nat.lt_of_le_of_lt (tY_le _ _) (by decide)) ?_)
  refine w_ifeqB 22 20 dX11_vital_17 rfl rfl (fun c17 => ?_) (fun c17 => ?_)
  · skip
    have hz : tY (ok2 w a b) n = 0 := by simpa using c17
    have hC1 := hC.off (hC.ref (nI (tY (ok2 w a b) n)))
    obtain ⟨k1, k2⟩ := tY_0 hz
    have hw7 := hC.2.1.2.2.1.1
    obtain ⟨a, b, rfl, rfl, ha, hb, hab⟩ := ok2_of k1 hw7
    obtain ⟨n, rfl, hn⟩ := tI_of k2
    have h32 := h32of hw7 ha hb hab
    refine w_aload_n 23 dX11_vital_22 rfl rfl ?_
    refine w_iload_n 24 dX11_vital_23 rfl rfl ?_
    refine w_inv1 27 dX11_vital_24 rfl mlX11_145 rfl rfl (d' := 4) (by decide) (Nat.le_of_ble_eq_true rfl) (c_X11_goBehind hC1 hn (fun A2 hR hQ => ?_))
    refine w_aload_n 28 dX11_vital_27 rfl rfl ?_
    refine w_getr 31 dX11_vital_28 rfl faX11_40 rfl rfl rfl (r := .ref 48) rfl ?_
    refine w_iload_n 32 dX11_vital_31 rfl rfl ?_
    refine w_iload_n 33 dX11_vital_32 rfl rfl ?_
    refine w_inv2 36 dX11_vital_33 rfl mlX11_173 rfl rfl (d' := 2) (by decide) (Nat.le_of_ble_eq_true rfl) (c_X0_part hR.1 hR.2.1 hR.2.2.1 hR.2.2.2.1 (by omega) (by omega) hab (fun A3 hq h73 hO3 => ?_))
    have hR3 := hR.off h73 hO3
    have hQ3 := hQ.tr (Qi.sub hQ.2 hO3 (by decide) (by decide) (by decide))
    have hC3 := hC1.off hQ3.q
    refine w_aload_n 37 dX11_vital_36 rfl rfl ?_
    refine w_getr 40 dX11_vital_37 rfl faX11_40 rfl rfl rfl (r := .ref 48) rfl ?_
    refine w_inv0 43 dX11_vital_40 rfl mlX11_161 rfl rfl (d' := 0) (by decide) (Nat.le_of_ble_eq_true rfl) (c_X0_held hR3.2.2.1 hR3.2.2.2.1 ?_)
    refine w_ist4 45 dX11_vital_43 rfl (by decide) rfl ?_
    exact a_X11_vital hq hR3 h32 hC3 (kq (h A3 (hC.fin hQ3).1 (hC.fin hQ3).2) (by unfold rVital; rw [if_pos hz, cl_nI (show a < 2 ^ 31 by omega), cl_nI (show b < 2 ^ 31 by omega), cl_nI (show n < 2 ^ 31 by omega)]))
  · skip
    refine w_iconst 21 dX11_vital_20 rfl (v := (-1)) rfl ?_
    refine wr_i dX11_vital_21 rfl ?_
    exact kq (h _ (hC.ref _) (by dsimp only; rw [upd2_at])) (by unfold rVital; rw [if_neg (of_decide_eq_true c17)])

set_option maxRecDepth 4000 in
theorem a_X11_needed {K : Option Value → AH → Prop} {A : AH} {w : WT} {s : Nat → Nat} {a b n : Nat} (hq : RepQ (w.1 1) (e1W w s) (e2W w s) a b A) (hR3 : BR (w.1 1) (e1W w s) (e2W w s) (esW w s n) A) (h32 : cntTo (sideP a b) (2 ^ w.1 1) ≤ 32) (hC : CI w s A) (h : K (some (.int (nI (maskTo (nedB w s n a b) (s 1))))) A) : WP mX11_needed 5 dC gC 56 [some (.ref 0), some (.int (nI a)), some (.int (nI b)), some (.int (nI n)), some (.int (nI (HM w s n))), some (.int (nI (BV w s n (HM w s n) a b))), none, none] [] A K := by
  have lp62 : ∀ (nf : Nat) (i : Nat), i ≤ s 1 → s 1 - i < nf → WP mX11_needed 5 dC gC 62 [some (.ref 0), some (.int (nI a)), some (.int (nI b)), some (.int (nI n)), some (.int (nI (HM w s n))), some (.int (nI (BV w s n (HM w s n) a b))), some (.int (nI (maskTo (nedB w s n a b) i))), some (.int (nI i))] [] A K := by
    intro nf
    induction nf with
    | zero => intros; omega
    | succ nf ih =>
      intro i hi hms
      have hs8 := hC.2.2.2.1.2.1
      have hm := HM_lt w s n
      have hb1 := BV_le hC.2.2.2.1 hC.2.1.2.2.1 n (HM w s n) a b
      refine w_iload 64 dX11_needed_62 rfl rfl ?_
      refine w_aload_n 65 dX11_needed_64 rfl rfl ?_
      refine w_getr 68 dX11_needed_65 rfl faX11_26 rfl rfl rfl (r := .ref 43) rfl ?_
      refine w_inv0 71 dX11_needed_68 rfl mlX11_164 rfl rfl (d' := 0) (by decide) (Nat.le_of_ble_eq_true rfl) (c_X7_threads hC.2.2.1 ?_)
      refine w_icgeN 118 74 dX11_needed_71 rfl rfl (by omega) (by omega) (fun c71 => ?_) (fun c71 => ?_)
      · skip
        have e : i = s 1 := by omega
        subst e
        refine w_iload 120 dX11_needed_118 rfl rfl ?_
        refine wr_i dX11_needed_120 rfl ?_
        exact h
      · skip
        refine w_iload 76 dX11_needed_74 rfl rfl ?_
        refine w_iload 78 dX11_needed_76 rfl rfl ?_
        refine w_invs2 81 dX11_needed_78 rfl slX11_180 (d' := 0) (by decide) (Nat.le_of_ble_eq_true rfl) (c_X11_has ?_)
        rw [hasB_nI (by omega) (by omega)]
        refine w_ifeqB 112 84 dX11_needed_81 rfl rfl (fun c81 => ?_) (fun c81 => ?_)
        · skip
          refine w_inc7 115 dX11_needed_112 rfl (by decide) rfl (v := nI (_ + 1)) (nI_1 _) ?_
          refine w_goto 62 dX11_needed_115 rfl ?_
          refine wp_to ?_ rfl rfl (ih (i + 1) (by omega) (by omega))
          simp [lle, maskTo, nedB, c81]
        · skip
          refine w_aload_n 85 dX11_needed_84 rfl rfl ?_
          refine w_getr 88 dX11_needed_85 rfl faX11_40 rfl rfl rfl (r := .ref 48) rfl ?_
          refine w_iload 90 dX11_needed_88 rfl rfl ?_
          refine w_iconst 91 dX11_needed_90 rfl (v := nI 1) rfl ?_
          refine w_iload 93 dX11_needed_91 rfl rfl ?_
          refine w_shl1 94 dX11_needed_93 rfl (by omega) ?_
          refine w_ixor 95 dX11_needed_94 rfl ?_
          refine w_top (nI_xor _ _) ?_
          refine w_inv1 98 dX11_needed_95 rfl mlX11_184 rfl rfl (d' := 1) (by decide) (Nat.le_of_ble_eq_true rfl) (c_X0_borneBy hq hR3.2.2.2.2 hR3.2.2.2.1 h32 ?_)
          refine w_iload 100 dX11_needed_98 rfl rfl ?_
          refine w_icgeN 112 103 dX11_needed_100 rfl rfl (by have := BV_le hC.2.2.2.1 hC.2.1.2.2.1 n (HM w s n ^^^ 2 ^ i) a b; unfold BV at this; omega) (by omega) (fun c100 => ?_) (fun c100 => ?_)
          · skip
            refine w_inc7 115 dX11_needed_112 rfl (by decide) rfl (v := nI (_ + 1)) (nI_1 _) ?_
            refine w_goto 62 dX11_needed_115 rfl ?_
            have c100 : ¬ vitF w s n a b i < BV w s n (HM w s n) a b := Nat.not_lt.mpr c100
            refine wp_to ?_ rfl rfl (ih (i + 1) (by omega) (by omega))
            simp [lle, maskTo, nedB, c81, c100]
          · skip
            refine w_iload 105 dX11_needed_103 rfl rfl ?_
            refine w_iconst 106 dX11_needed_105 rfl (v := nI 1) rfl ?_
            refine w_iload 108 dX11_needed_106 rfl rfl ?_
            refine w_shl1 109 dX11_needed_108 rfl (by omega) ?_
            refine w_ior 110 dX11_needed_109 rfl ?_
            refine w_top (mask_or _ _) ?_
            refine w_ist6 112 dX11_needed_110 rfl (by decide) rfl ?_
            refine w_inc7 115 dX11_needed_112 rfl (by decide) rfl (v := nI (_ + 1)) (nI_1 _) ?_
            refine w_goto 62 dX11_needed_115 rfl ?_
            have c100 : vitF w s n a b i < BV w s n (HM w s n) a b := c100
            refine wp_to ?_ rfl rfl (ih (i + 1) (by omega) (by omega))
            simp [lle, maskTo, nedB, c81, c100]
  refine w_iconst 57 dX11_needed_56 rfl (v := nI 0) rfl ?_
  refine w_ist6 59 dX11_needed_57 rfl (by decide) rfl ?_
  refine w_iconst 60 dX11_needed_59 rfl (v := nI 0) rfl ?_
  refine w_ist7 62 dX11_needed_60 rfl (by decide) rfl ?_
  exact lp62 _ 0 (Nat.zero_le _) (Nat.lt_succ_self _)

set_option maxRecDepth 4000 in
theorem c_X11_needed {K : Option Value → AH → Prop} {A : AH} {w : WT} {s : Nat → Nat} (hC : CI w s A) {a b n : Int32} (h : ∀ A', Qk A A' → A'.1 0 8 = nI (tY (ok2 w a b) n) → K (some (.int (rNeeded w s a b n))) A') : Ct yX11_needed mX11_needed 5 dC gC [.ref 0, .int a, .int b, .int n] A K := by
  refine Ct.of [some (.ref 0), some (.int a), some (.int b), some (.int n), none, none, none, none] rfl rfl rfl (Nat.le_of_ble_eq_true rfl) ?_
  refine w_aload_n 1 dX11_needed_0 rfl rfl ?_
  refine w_aload_n 2 dX11_needed_1 rfl rfl ?_
  refine w_iload_n 3 dX11_needed_2 rfl rfl ?_
  refine w_iload_n 4 dX11_needed_3 rfl rfl ?_
  refine w_inv2 7 dX11_needed_4 rfl mlX11_167 rfl rfl (d' := 4) (by decide) (Nat.le_of_ble_eq_true rfl) (c_X11_needTwoNails hC ?_)
  refine w_iload_n 8 dX11_needed_7 rfl rfl ?_
  refine w_invs1 11 dX11_needed_8 rfl slX11_154 (d' := 1) (by decide) (Nat.le_of_ble_eq_true rfl) (c_X11_needYears ?_)
  refine w_invs2 14 dX11_needed_11 rfl slX11_126 (d' := 0) (by decide) (Nat.le_of_ble_eq_true rfl) (c_X11_firstOfN (Nat.lt_of_le_of_lt (t1_le _) (by decide)) ?_)
  rw [tY_first]
  refine w_inv1 17 dX11_needed_14 rfl mlX11_87 rfl rfl (d' := 0) (by decide) (Nat.le_of_ble_eq_true rfl) (c_X11_refused (Nat.lt_of_le_of_lt (tY_le _ _) (by decide)) ?_)
  refine w_ifeqB 22 20 dX11_needed_17 rfl rfl (fun c17 => ?_) (fun c17 => ?_)
  · skip
    have hz : tY (ok2 w a b) n = 0 := by simpa using c17
    have hC1 := hC.off (hC.ref (nI (tY (ok2 w a b) n)))
    obtain ⟨k1, k2⟩ := tY_0 hz
    have hw7 := hC.2.1.2.2.1.1
    obtain ⟨a, b, rfl, rfl, ha, hb, hab⟩ := ok2_of k1 hw7
    obtain ⟨n, rfl, hn⟩ := tI_of k2
    have h32 := h32of hw7 ha hb hab
    refine w_aload_n 23 dX11_needed_22 rfl rfl ?_
    refine w_iload_n 24 dX11_needed_23 rfl rfl ?_
    refine w_inv1 27 dX11_needed_24 rfl mlX11_145 rfl rfl (d' := 4) (by decide) (Nat.le_of_ble_eq_true rfl) (c_X11_goBehind hC1 hn (fun A2 hR hQ => ?_))
    refine w_aload_n 28 dX11_needed_27 rfl rfl ?_
    refine w_getr 31 dX11_needed_28 rfl faX11_40 rfl rfl rfl (r := .ref 48) rfl ?_
    refine w_iload_n 32 dX11_needed_31 rfl rfl ?_
    refine w_iload_n 33 dX11_needed_32 rfl rfl ?_
    refine w_inv2 36 dX11_needed_33 rfl mlX11_173 rfl rfl (d' := 2) (by decide) (Nat.le_of_ble_eq_true rfl) (c_X0_part hR.1 hR.2.1 hR.2.2.1 hR.2.2.2.1 (by omega) (by omega) hab (fun A3 hq h73 hO3 => ?_))
    have hR3 := hR.off h73 hO3
    have hQ3 := hQ.tr (Qi.sub hQ.2 hO3 (by decide) (by decide) (by decide))
    have hC3 := hC1.off hQ3.q
    refine w_aload_n 37 dX11_needed_36 rfl rfl ?_
    refine w_getr 40 dX11_needed_37 rfl faX11_40 rfl rfl rfl (r := .ref 48) rfl ?_
    refine w_inv0 43 dX11_needed_40 rfl mlX11_161 rfl rfl (d' := 0) (by decide) (Nat.le_of_ble_eq_true rfl) (c_X0_held hR3.2.2.1 hR3.2.2.2.1 ?_)
    refine w_ist4 45 dX11_needed_43 rfl (by decide) rfl ?_
    refine w_aload_n 46 dX11_needed_45 rfl rfl ?_
    refine w_getr 49 dX11_needed_46 rfl faX11_40 rfl rfl rfl (r := .ref 48) rfl ?_
    refine w_iload 51 dX11_needed_49 rfl rfl ?_
    refine w_inv1 54 dX11_needed_51 rfl mlX11_184 rfl rfl (d' := 1) (by decide) (Nat.le_of_ble_eq_true rfl) (c_X0_borneBy hq hR3.2.2.2.2 hR3.2.2.2.1 h32 ?_)
    refine w_ist5 56 dX11_needed_54 rfl (by decide) rfl ?_
    exact a_X11_needed hq hR3 h32 hC3 (kq (h A3 (hC.fin hQ3).1 (hC.fin hQ3).2) (by unfold rNeeded; rw [if_pos hz, cl_nI (show a < 2 ^ 31 by omega), cl_nI (show b < 2 ^ 31 by omega), cl_nI (show n < 2 ^ 31 by omega)]))
  · skip
    refine w_iconst 21 dX11_needed_20 rfl (v := (-1)) rfl ?_
    refine wr_i dX11_needed_21 rfl ?_
    exact kq (h _ (hC.ref _) (by dsimp only; rw [upd2_at])) (by unfold rNeeded; rw [if_neg (of_decide_eq_true c17)])

set_option maxRecDepth 4000 in
theorem a_X11_bridges {K : Option Value → AH → Prop} {A : AH} {w : WT} {s : Nat → Nat} {n : Nat} (hR : BR (w.1 1) (e1W w s) (e2W w s) (esW w s n) A) (hC : CI w s A) (h : K (some (.int (nI (maskTo (briB w s n) (s 1))))) A) : WP mX11_bridges 5 dC gC 42 [some (.ref 0), some (.int (nI n)), some (.int (nI (HM w s n))), some (.int (nI (pcsW w s (HM w s n)))), none, none] [] A K := by
  have lp48 : ∀ (nf : Nat) (i : Nat), i ≤ s 1 → s 1 - i < nf → WP mX11_bridges 5 dC gC 48 [some (.ref 0), some (.int (nI n)), some (.int (nI (HM w s n))), some (.int (nI (pcsW w s (HM w s n)))), some (.int (nI (maskTo (briB w s n) i))), some (.int (nI i))] [] A K := by
    intro nf
    induction nf with
    | zero => intros; omega
    | succ nf ih =>
      intro i hi hms
      have hs8 := hC.2.2.2.1.2.1
      have hm := HM_lt w s n
      have hp1 : pcsW w s (HM w s n) ≤ 7 := Nat.le_trans (pcsT_le _) hC.2.1.2.2.1.1
      refine w_iload 50 dX11_bridges_48 rfl rfl ?_
      refine w_aload_n 51 dX11_bridges_50 rfl rfl ?_
      refine w_getr 54 dX11_bridges_51 rfl faX11_26 rfl rfl rfl (r := .ref 43) rfl ?_
      refine w_inv0 57 dX11_bridges_54 rfl mlX11_164 rfl rfl (d' := 0) (by decide) (Nat.le_of_ble_eq_true rfl) (c_X7_threads hC.2.2.1 ?_)
      refine w_icgeN 101 60 dX11_bridges_57 rfl rfl (by omega) (by omega) (fun c57 => ?_) (fun c57 => ?_)
      · skip
        have e : i = s 1 := by omega
        subst e
        refine w_iload 103 dX11_bridges_101 rfl rfl ?_
        refine wr_i dX11_bridges_103 rfl ?_
        exact h
      · skip
        refine w_iload_n 61 dX11_bridges_60 rfl rfl ?_
        refine w_iload 63 dX11_bridges_61 rfl rfl ?_
        refine w_invs2 66 dX11_bridges_63 rfl slX11_180 (d' := 0) (by decide) (Nat.le_of_ble_eq_true rfl) (c_X11_has ?_)
        rw [hasB_nI (by omega) (by omega)]
        refine w_ifeqB 95 69 dX11_bridges_66 rfl rfl (fun c66 => ?_) (fun c66 => ?_)
        · skip
          refine w_inc5 98 dX11_bridges_95 rfl (by decide) rfl (v := nI (_ + 1)) (nI_1 _) ?_
          refine w_goto 48 dX11_bridges_98 rfl ?_
          refine wp_to ?_ rfl rfl (ih (i + 1) (by omega) (by omega))
          simp [lle, maskTo, briB, c66]
        · skip
          refine w_aload_n 70 dX11_bridges_69 rfl rfl ?_
          refine w_getr 73 dX11_bridges_70 rfl faX11_40 rfl rfl rfl (r := .ref 48) rfl ?_
          refine w_iload_n 74 dX11_bridges_73 rfl rfl ?_
          refine w_iconst 75 dX11_bridges_74 rfl (v := nI 1) rfl ?_
          refine w_iload 77 dX11_bridges_75 rfl rfl ?_
          refine w_shl1 78 dX11_bridges_77 rfl (by omega) ?_
          refine w_ixor 79 dX11_bridges_78 rfl ?_
          refine w_top (nI_xor _ _) ?_
          refine w_inv1 82 dX11_bridges_79 rfl mlX11_190 rfl rfl (d' := 3) (by decide) (Nat.le_of_ble_eq_true rfl) (c_X0_pieces hR (xor256 hm (by omega)) ?_)
          refine w_iload_n 83 dX11_bridges_82 rfl rfl ?_
          refine w_icleN 95 86 dX11_bridges_83 rfl rfl (by have := pcsT_le (e1 := e1W w s) (e2 := e2W w s) (m := HM w s n ^^^ 2 ^ i) (nn := w.1 1) (w.1 1); have := hC.2.1.2.2.1.1; omega) (by omega) (fun c83 => ?_) (fun c83 => ?_)
          · skip
            refine w_inc5 98 dX11_bridges_95 rfl (by decide) rfl (v := nI (_ + 1)) (nI_1 _) ?_
            refine w_goto 48 dX11_bridges_98 rfl ?_
            have c83 : ¬ pcsW w s (HM w s n) < pcsW w s (HM w s n ^^^ 2 ^ i) := Nat.not_lt.mpr c83
            refine wp_to ?_ rfl rfl (ih (i + 1) (by omega) (by omega))
            simp [lle, maskTo, briB, c66, c83]
          · skip
            refine w_iload 88 dX11_bridges_86 rfl rfl ?_
            refine w_iconst 89 dX11_bridges_88 rfl (v := nI 1) rfl ?_
            refine w_iload 91 dX11_bridges_89 rfl rfl ?_
            refine w_shl1 92 dX11_bridges_91 rfl (by omega) ?_
            refine w_ior 93 dX11_bridges_92 rfl ?_
            refine w_top (mask_or _ _) ?_
            refine w_ist4 95 dX11_bridges_93 rfl (by decide) rfl ?_
            refine w_inc5 98 dX11_bridges_95 rfl (by decide) rfl (v := nI (_ + 1)) (nI_1 _) ?_
            refine w_goto 48 dX11_bridges_98 rfl ?_
            have c83 : pcsW w s (HM w s n) < pcsW w s (HM w s n ^^^ 2 ^ i) := c83
            refine wp_to ?_ rfl rfl (ih (i + 1) (by omega) (by omega))
            simp [lle, maskTo, briB, c66, c83]
  refine w_iconst 43 dX11_bridges_42 rfl (v := nI 0) rfl ?_
  refine w_ist4 45 dX11_bridges_43 rfl (by decide) rfl ?_
  refine w_iconst 46 dX11_bridges_45 rfl (v := nI 0) rfl ?_
  refine w_ist5 48 dX11_bridges_46 rfl (by decide) rfl ?_
  exact lp48 _ 0 (Nat.zero_le _) (Nat.lt_succ_self _)

set_option maxRecDepth 4000 in
theorem c_X11_bridges {K : Option Value → AH → Prop} {A : AH} {w : WT} {s : Nat → Nat} (hC : CI w s A) {n : Int32} (h : ∀ A', Qk A A' → A'.1 0 8 = nI (tY (okW1 w) n) → K (some (.int (rBridges w s n))) A') : Ct yX11_bridges mX11_bridges 5 dC gC [.ref 0, .int n] A K := by
  refine Ct.of [some (.ref 0), some (.int n), none, none, none, none] rfl rfl rfl (Nat.le_of_ble_eq_true rfl) ?_
  refine w_aload_n 1 dX11_bridges_0 rfl rfl ?_
  refine w_aload_n 2 dX11_bridges_1 rfl rfl ?_
  refine w_inv0 5 dX11_bridges_2 rfl mlX11_157 rfl rfl (d' := 2) (by decide) (Nat.le_of_ble_eq_true rfl) (c_X11_needWeb hC ?_)
  refine w_iload_n 6 dX11_bridges_5 rfl rfl ?_
  refine w_invs1 9 dX11_bridges_6 rfl slX11_154 (d' := 1) (by decide) (Nat.le_of_ble_eq_true rfl) (c_X11_needYears ?_)
  refine w_invs2 12 dX11_bridges_9 rfl slX11_126 (d' := 0) (by decide) (Nat.le_of_ble_eq_true rfl) (c_X11_firstOfN (Nat.lt_of_le_of_lt (t1_le _) (by decide)) ?_)
  rw [tY_first]
  refine w_inv1 15 dX11_bridges_12 rfl mlX11_87 rfl rfl (d' := 0) (by decide) (Nat.le_of_ble_eq_true rfl) (c_X11_refused (Nat.lt_of_le_of_lt (tY_le _ _) (by decide)) ?_)
  refine w_ifeqB 20 18 dX11_bridges_15 rfl rfl (fun c15 => ?_) (fun c15 => ?_)
  · skip
    have hz : tY (okW1 w) n = 0 := by simpa using c15
    have hC1 := hC.off (hC.ref (nI (tY (okW1 w) n)))
    obtain ⟨k1, k2⟩ := tY_0 hz
    have hw7 := hC.2.1.2.2.1.1
    obtain ⟨n, rfl, hn⟩ := tI_of k2
    refine w_aload_n 21 dX11_bridges_20 rfl rfl ?_
    refine w_iload_n 22 dX11_bridges_21 rfl rfl ?_
    refine w_inv1 25 dX11_bridges_22 rfl mlX11_145 rfl rfl (d' := 4) (by decide) (Nat.le_of_ble_eq_true rfl) (c_X11_goBehind hC1 hn (fun A2 hR hQ => ?_))
    refine w_aload_n 26 dX11_bridges_25 rfl rfl ?_
    refine w_getr 29 dX11_bridges_26 rfl faX11_40 rfl rfl rfl (r := .ref 48) rfl ?_
    refine w_inv0 32 dX11_bridges_29 rfl mlX11_161 rfl rfl (d' := 0) (by decide) (Nat.le_of_ble_eq_true rfl) (c_X0_held hR.2.2.1 hR.2.2.2.1 ?_)
    refine w_ist2 33 dX11_bridges_32 rfl (by decide) rfl ?_
    refine w_aload_n 34 dX11_bridges_33 rfl rfl ?_
    refine w_getr 37 dX11_bridges_34 rfl faX11_40 rfl rfl rfl (r := .ref 48) rfl ?_
    refine w_iload_n 38 dX11_bridges_37 rfl rfl ?_
    refine w_inv1 41 dX11_bridges_38 rfl mlX11_190 rfl rfl (d' := 3) (by decide) (Nat.le_of_ble_eq_true rfl) (c_X0_pieces hR (heldM_lt _) ?_)
    refine w_ist3 42 dX11_bridges_41 rfl (by decide) rfl ?_
    exact a_X11_bridges hR (hC1.off hQ.q) (kq (h A2 (hC.fin hQ).1 (hC.fin hQ).2) (by unfold rBridges; rw [if_pos hz, cl_nI (show n < 2 ^ 31 by omega)]))
  · skip
    refine w_iconst 19 dX11_bridges_18 rfl (v := (-1)) rfl ?_
    refine wr_i dX11_bridges_19 rfl ?_
    exact kq (h _ (hC.ref _) (by dsimp only; rw [upd2_at])) (by unfold rBridges; rw [if_neg (of_decide_eq_true c15)])

set_option maxRecDepth 4000 in
theorem a_X11_strongest {K : Option Value → AH → Prop} {A : AH} {w : WT} {s : Nat → Nat} {n : Nat} (hC : CI w s A) (hn : n ≤ 60) (h : K (some (.int (enc2 (hv (fun t => stg s t n) (s 1)).1))) A) : WP mX11_strongest 3 dC gC 20 [some (.ref 0), some (.int (nI n)), none, none, none, none] [] A K := by
  have lp28 : ∀ (nf : Nat) (i : Nat), i ≤ s 1 → s 1 - i < nf → WP mX11_strongest 3 dC gC 28 [some (.ref 0), some (.int (nI n)), some (.int (enc2 (hv (fun t => stg s t n) i).1)), some (.int (nI (hv (fun t => stg s t n) i).2)), some (.int (nI i)), none] [] A K := by
    intro nf
    induction nf with
    | zero => intros; omega
    | succ nf ih =>
      intro i hi hms
      have hs8 := hC.2.2.2.1.2.1
      have hle : (hv (fun t => stg s t n) i).2 ≤ 99 := hv_le (fun t => stg_le hC.2.2.2.1 t n) i
      have hst := stg_le hC.2.2.2.1 i n
      refine w_iload 30 dX11_strongest_28 rfl rfl ?_
      refine w_aload_n 31 dX11_strongest_30 rfl rfl ?_
      refine w_getr 34 dX11_strongest_31 rfl faX11_26 rfl rfl rfl (r := .ref 43) rfl ?_
      refine w_inv0 37 dX11_strongest_34 rfl mlX11_164 rfl rfl (d' := 0) (by decide) (Nat.le_of_ble_eq_true rfl) (c_X7_threads hC.2.2.1 ?_)
      refine w_icgeN 70 40 dX11_strongest_37 rfl rfl (by omega) (by omega) (fun c37 => ?_) (fun c37 => ?_)
      · skip
        have e : i = s 1 := by omega
        subst e
        refine w_iload_n 71 dX11_strongest_70 rfl rfl ?_
        refine wr_i dX11_strongest_71 rfl ?_
        exact h
      · skip
        refine w_aload_n 41 dX11_strongest_40 rfl rfl ?_
        refine w_getr 44 dX11_strongest_41 rfl faX11_26 rfl rfl rfl (r := .ref 43) rfl ?_
        refine w_iload 46 dX11_strongest_44 rfl rfl ?_
        refine w_iload_n 47 dX11_strongest_46 rfl rfl ?_
        refine w_inv2 50 dX11_strongest_47 rfl mlX11_130 rfl rfl (d' := 2) (by decide) (Nat.le_of_ble_eq_true rfl) (c_X7_strength hC.2.2.1 hC.2.2.2.1 (by omega) hn ?_)
        refine w_ist5 52 dX11_strongest_50 rfl (by decide) rfl ?_
        refine w_iload 54 dX11_strongest_52 rfl rfl ?_
        refine w_iload_n 55 dX11_strongest_54 rfl rfl ?_
        refine w_icleN 64 58 dX11_strongest_55 rfl rfl (by omega) (by omega) (fun c55 => ?_) (fun c55 => ?_)
        · skip
          refine w_inc4 67 dX11_strongest_64 rfl (by decide) rfl (v := nI (_ + 1)) (nI_1 _) ?_
          refine w_goto 28 dX11_strongest_67 rfl ?_
          refine wp_to ?_ rfl rfl (ih (i + 1) (by omega) (by omega))
          simp [lle, hv, Nat.not_lt.mpr c55]
        · skip
          refine w_iload 60 dX11_strongest_58 rfl rfl ?_
          refine w_ist3 61 dX11_strongest_60 rfl (by decide) rfl ?_
          refine w_iload 63 dX11_strongest_61 rfl rfl ?_
          refine w_ist2 64 dX11_strongest_63 rfl (by decide) rfl ?_
          refine w_inc4 67 dX11_strongest_64 rfl (by decide) rfl (v := nI (_ + 1)) (nI_1 _) ?_
          refine w_goto 28 dX11_strongest_67 rfl ?_
          refine wp_to ?_ rfl rfl (ih (i + 1) (by omega) (by omega))
          simp [lle, hv, c55, enc2]
  refine w_bipush 22 dX11_strongest_20 rfl (v := (-2)) rfl ?_
  refine w_ist2 23 dX11_strongest_22 rfl (by decide) rfl ?_
  refine w_iconst 24 dX11_strongest_23 rfl (v := nI 0) rfl ?_
  refine w_ist3 25 dX11_strongest_24 rfl (by decide) rfl ?_
  refine w_iconst 26 dX11_strongest_25 rfl (v := nI 0) rfl ?_
  refine w_ist4 28 dX11_strongest_26 rfl (by decide) rfl ?_
  exact lp28 _ 0 (Nat.zero_le _) (Nat.lt_succ_self _)

set_option maxRecDepth 4000 in
theorem c_X11_strongest {K : Option Value → AH → Prop} {A : AH} {w : WT} {s : Nat → Nat} (hC : CI w s A) {n : Int32} (h : ∀ A', Qk A A' → A'.1 0 8 = nI (tY (okW1 w) n) → K (some (.int (rStrongest w s n))) A') : Ct yX11_strongest mX11_strongest 3 dC gC [.ref 0, .int n] A K := by
  refine Ct.of [some (.ref 0), some (.int n), none, none, none, none] rfl rfl rfl (Nat.le_of_ble_eq_true rfl) ?_
  refine w_aload_n 1 dX11_strongest_0 rfl rfl ?_
  refine w_aload_n 2 dX11_strongest_1 rfl rfl ?_
  refine w_inv0 5 dX11_strongest_2 rfl mlX11_157 rfl rfl (d' := 2) (by decide) (Nat.le_of_ble_eq_true rfl) (c_X11_needWeb hC ?_)
  refine w_iload_n 6 dX11_strongest_5 rfl rfl ?_
  refine w_invs1 9 dX11_strongest_6 rfl slX11_154 (d' := 1) (by decide) (Nat.le_of_ble_eq_true rfl) (c_X11_needYears ?_)
  refine w_invs2 12 dX11_strongest_9 rfl slX11_126 (d' := 0) (by decide) (Nat.le_of_ble_eq_true rfl) (c_X11_firstOfN (Nat.lt_of_le_of_lt (t1_le _) (by decide)) ?_)
  rw [tY_first]
  refine w_inv1 15 dX11_strongest_12 rfl mlX11_87 rfl rfl (d' := 0) (by decide) (Nat.le_of_ble_eq_true rfl) (c_X11_refused (Nat.lt_of_le_of_lt (tY_le _ _) (by decide)) ?_)
  refine w_ifeqB 20 18 dX11_strongest_15 rfl rfl (fun c15 => ?_) (fun c15 => ?_)
  · skip
    have hz : tY (okW1 w) n = 0 := by simpa using c15
    have hC1 := hC.off (hC.ref (nI (tY (okW1 w) n)))
    obtain ⟨k1, k2⟩ := tY_0 hz
    have hw7 := hC.2.1.2.2.1.1
    obtain ⟨n, rfl, hn⟩ := tI_of k2
    exact a_X11_strongest hC1 hn (kq (h _ (hC.ref _) (by dsimp only; rw [upd2_at])) (by unfold rStrongest; rw [if_pos hz, cl_nI (show n < 2 ^ 31 by omega)]))
  · skip
    refine w_iconst 19 dX11_strongest_18 rfl (v := (-1)) rfl ?_
    refine wr_i dX11_strongest_19 rfl ?_
    exact kq (h _ (hC.ref _) (by dsimp only; rw [upd2_at])) (by unfold rStrongest; rw [if_neg (of_decide_eq_true c15)])
