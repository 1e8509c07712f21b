/-! ===== the reference: years, fallsBy ===== -/
theorem clk_lt {s : Nat → Nat} {c d : Nat} : ∀ y, (clk s c d y).2 < 2 ^ s 1
  | 0 => Nat.two_pow_pos _
  | y + 1 => cyT_lt (clk_lt y) (Nat.le_refl _)
theorem bit255 {H g i : Nat} (h : H < 256) : (H &&& (255 ^^^ g)).testBit i = (H.testBit i && !g.testBit i) := by
  rw [Nat.testBit_and, Nat.testBit_xor, show (255 : Nat) = 2 ^ 8 - 1 from rfl, Nat.testBit_two_pow_sub_one]
  by_cases h8 : i < 8
  · simp [h8]
  · rw [bit_hi (n := 8) h (by omega)]; rfl
theorem held_Yr {w : WT} {s : Nat → Nat} (hs : okS s) (y g : Nat) : maskTo (fun e => decide (0 < esW w (sYr s y g) 0 e)) (s 1) = HM w s y &&& (255 ^^^ g) := by
  apply Nat.eq_of_testBit_eq
  intro i
  rw [bit255 (HM_lt w s y), testBit_maskTo]
  have h8 := hs.2.1
  by_cases hi : i < s 1
  · rw [decide_eq_true hi, Bool.true_and, es_Yr hs (by omega), HM_bit, decide_eq_true (show i < 8 by omega), Bool.true_and]
    cases g.testBit i <;> simp
  · rw [decide_eq_false hi, bit_hi (HM_lt1 hs y) (by omega)]; rfl
theorem crs_eq {e1 e2 es fs : Nat → Nat} {m ne : Nat} (hne : ne ≤ 13) (h : ∀ i, i < 13 → (if m.testBit i then es i else 0) = (if i < ne then fs i else 0)) (sd : Nat) : crs e1 e2 fs sd 0 ne = bearF e1 e2 es m sd := by
  have h1 : sumTo (fun e => if e < ne then (if crB e1 e2 sd e then fs e else 0) else 0) 13 = crs e1 e2 fs sd 0 ne := by
    rw [sumTo_pad hne (fun i h1 _ => if_neg (fun z => by omega))]
    refine sumTo_cong (fun i hi => ?_)
    cases crB e1 e2 sd i <;> simp [hi]
  rw [← h1]
  unfold bearF sumB
  refine sumTo_cong (fun i hi => ?_)
  have h2 := h i hi
  have h3 : (acr e1 e2 sd 13 &&& m).testBit i = (crB e1 e2 sd i && m.testBit i) := by
    rw [Nat.testBit_and]
    unfold acr crB
    rw [testBit_maskTo, decide_eq_true hi, Bool.true_and]
  rw [h3]
  cases q : crB e1 e2 sd i
  · simp
  · simp only [Bool.true_and, if_true]
    rw [h2]
theorem e1_Yr {w : WT} {s : Nat → Nat} {y g : Nat} : e1W w (sYr s y g) = e1W w s := by funext i; unfold e1W; rw [cz_Yr]
theorem e2_Yr {w : WT} {s : Nat → Nat} {y g : Nat} : e2W w (sYr s y g) = e2W w s := by funext i; unfold e2W; rw [cz_Yr]
theorem ldQ_Yr {w : WT} {s : Nat → Nat} (hs : okS s) (hw : ofOK w) {y g k : Nat} (h1 : w.2 4 k 0 < w.1 1) (h2 : w.2 4 k 0 ≠ w.2 4 k 1) : ldQ w (s 1) (e1W w (sYr s y g)) (e2W w (sYr s y g)) (esW w (sYr s y g) 0) k = ldF w s y (HM w s y &&& (255 ^^^ g)) k := by
  rw [e1_Yr, e2_Yr]
  refine least_bear (okW hs hw y) (fun sd => crs_eq (by have := hs.2.1; omega) (fun i hi => ?_) sd) h1 h2
  rw [bit255 (HM_lt w s y)]
  have h8 := hs.2.1
  by_cases hi1 : i < s 1
  · rw [if_pos hi1, es_Yr hs (by omega)]
    cases q : (HM w s y).testBit i with
    | true => cases g.testBit i <;> simp
    | false => rw [HM_es hs hi1 q]; simp
  · rw [if_neg hi1, bit_hi (HM_lt1 hs y) (by omega)]; rfl
theorem ldN_lt31 {w : WT} (h : w.1 4 ≤ 4) (ne : Nat) (f1 f2 fs : Nat → Nat) : ldN w ne f1 f2 fs < 2 ^ 31 := Nat.lt_of_lt_of_le (maskTo_lt _ _) (show 2 ^ w.1 4 ≤ 2 ^ 31 from Nat.pow_le_pow_right (by decide) (by omega))
theorem fbB_Yr {w : WT} {s : Nat → Nat} (hs : okS s) (hw : ofOK w) {i k d : Nat} (hk : k < w.1 4) (h1 : w.2 4 k 0 < w.1 1) (h2 : w.2 4 k 0 ≠ w.2 4 k 1) : (ldN w (s 1) (e1W w (sYr s (i + 1) (clk s (tbz w 0 0 1) d (i + 1)).2)) (e2W w (sYr s (i + 1) (clk s (tbz w 0 0 1) d (i + 1)).2)) (esW w (sYr s (i + 1) (clk s (tbz w 0 0 1) d (i + 1)).2) 0)).testBit k = !fbB w s k d i := by
  unfold ldN fbB
  rw [testBit_maskTo, decide_eq_true hk, Bool.true_and, ldQ_Yr hs hw h1 h2]
  rw [← decide_not]
  congr 1
  exact propext Nat.not_lt.symm
set_option maxRecDepth 4000 in
theorem a_X13_years {K : Option Value → AH → Prop} {A : AH} {r : Value} {w : WT} {s : Nat → Nat} {d n : Nat} {z : Int32} (hC : MC w s A) (hX : XY w (sYr s 0 0) A) (hY : RY (s 1) (e1W w (sYr s 0 0)) (e2W w (sYr s 0 0)) (esW w (sYr s 0 0) 0) A) (hd : d < 65537) (hn : n ≤ 60) (hsd : A.1 100 31 = nI d) (h : ∀ A', QM A A' → A'.1 100 1 = nI 0 → A'.1 100 2 = -1 → K (some (.int (nI (maskTo (fun e => decide (0 < esW w (sYr s n (clk s (tbz w 0 0 1) d n).2) 0 e)) (s 1))))) A') : WP mX13_years 4 dM (GG (.ref 111) r) 44 [some (.ref 100), some (.int (nI d)), some (.int (nI n)), some (.int z), none] [] A K := by
  have hs := hC.2.2.2.1
  have hr := hC.rooms
  have hcc := hC.okT.2.2.2.2.2.2.2
  have h28 : 2 ^ s 1 ≤ 256 := Nat.pow_le_pow_right (n := 2) (j := 8) (by decide) hs.2.1
  have lp47 : ∀ (nf : Nat) (i : Nat) (A' : AH), i ≤ n → XY w (sYr s i (clk s (tbz w 0 0 1) d i).2) A' → RY (s 1) (e1W w (sYr s i (clk s (tbz w 0 0 1) d i).2)) (e2W w (sYr s i (clk s (tbz w 0 0 1) d i).2)) (esW w (sYr s i (clk s (tbz w 0 0 1) d i).2) 0) A' → QM A A' → A'.1 100 31 = nI (clk s (tbz w 0 0 1) d i).1 → n - i < nf → WP mX13_years 4 dM (GG (.ref 111) r) 47 [some (.ref 100), some (.int (nI d)), some (.int (nI n)), some (.int z), some (.int (nI i))] [] A' K := by
    intro nf
    induction nf with
    | zero => intros; omega
    | succ nf ih =>
      intro i A' hi hX2 hY2 hQ hseed hms
      have hC2 := hC.q hQ
      refine w_iload 49 dX13_years_47 rfl rfl ?_
      refine w_iload_n 50 dX13_years_49 rfl rfl ?_
      refine w_icgeN 63 53 dX13_years_50 rfl rfl (by omega) (by omega) (fun c50 => ?_) (fun c50 => ?_)
      · skip
        have e : i = n := by omega
        subst e
        refine w_aload_n 64 dX13_years_63 rfl rfl ?_
        refine w_aload_n 65 dX13_years_64 rfl rfl ?_
        refine w_inv0 68 dX13_years_65 rfl mlX13_405 rfl rfl (d' := 0) (by decide) (Nat.le_of_ble_eq_true rfl) (c_X13_held hY2 ?_)
        refine w_inv1 71 dX13_years_68 rfl mlX13_56 rfl rfl (d' := 0) (by decide) (Nat.le_of_ble_eq_true rfl) (c_X13_good (fun A9 hQ9 ht9 hw9 => ?_))
        refine wr_i dX13_years_71 rfl ?_
        exact h A9 (hQ.tr hQ9) ht9 hw9
      · skip
        refine w_aload_n 54 dX13_years_53 rfl rfl ?_
        refine w_inv0 57 dX13_years_54 rfl mlX13_517 rfl rfl (d' := 3) (by decide) (Nat.le_of_ble_eq_true rfl) (c_X13_clerksYear (d := (clk s (tbz w 0 0 1) d i).1) (g := (clk s (tbz w 0 0 1) d i).2) (hC2.1) hX2 hs hr.2.2.1 hr.2.2.2.2.2.1 hcc (by omega) (clk_ok hs.2.1 hd i).1 (clk_lt i) hseed (fun A4 hY4 hX4 hQ4 hs4 => ?_))
        refine w_inc4 60 dX13_years_57 rfl (by decide) rfl (v := nI (_ + 1)) (nI_1 _) ?_
        refine w_goto 47 dX13_years_60 rfl ?_
        exact ih (i + 1) A4 (by omega) hX4 hY4 (hQ.tr hQ4) hs4 (by omega)
  refine w_iconst 45 dX13_years_44 rfl (v := nI 0) rfl ?_
  refine w_ist4 47 dX13_years_45 rfl (by decide) rfl ?_
  exact lp47 _ 0 A (Nat.zero_le _) hX hY QM.rf hsd (Nat.lt_succ_self _)

set_option maxRecDepth 4000 in
theorem c_X13_years {K : Option Value → AH → Prop} {A : AH} {r : Value} {w : WT} {s : Nat → Nat} (hC : MC w s A) {d n : Int32} (h : ∀ A', QM A A' → A'.1 100 1 = nI (tSY (okW1 w) d n) → A'.1 100 2 = -1 → K (some (.int (rYears w s d n))) A') : Ct yX13_years mX13_years 4 dM (GG (.ref 111) r) [.ref 100, .int d, .int n] A K := by
  refine Ct.of [some (.ref 100), some (.int d), some (.int n), none, none] rfl rfl rfl (Nat.le_of_ble_eq_true rfl) ?_
  refine w_aload_n 1 dX13_years_0 rfl rfl ?_
  refine w_iconst 2 dX13_years_1 rfl (v := nI 0) rfl ?_
  refine w_puti 5 dX13_years_2 rfl faX13_46 rfl rfl rfl rfl ?_
  have hQ1 : QM A (upd2 A.1 100 0 (nI 0), A.2) := QM.rf.f (by decide) _
  have hC1 := hC.q hQ1
  refine w_aload_n 6 dX13_years_5 rfl rfl ?_
  refine w_aload_n 7 dX13_years_6 rfl rfl ?_
  refine w_getr 10 dX13_years_7 rfl faX13_343 rfl rfl rfl (r := .ref 111) rfl ?_
  refine w_nR 13 dX13_years_10 rfl ?_
  refine w_iconst 14 dX13_years_13 rfl (v := nI 1) rfl ?_
  refine w_goto 18 dX13_years_14 rfl ?_
  refine w_iload_n 19 dX13_years_18 rfl rfl ?_
  refine w_iload_n 20 dX13_years_19 rfl rfl ?_
  rw [show nI 1 = b2i (okW1 w) from by rw [okW1_t hC]; rfl]
  refine w_inv3 23 dX13_years_20 rfl mlX13_513 rfl rfl (d' := 1) (by decide) (Nat.le_of_ble_eq_true rfl) (c_X13_refusesSeed (b := okW1 w) ?_)
  refine w_ist3 24 dX13_years_23 rfl (by decide) rfl ?_
  refine w_iload_n 25 dX13_years_24 rfl rfl ?_
  refine w_ifleN 34 28 dX13_years_25 rfl rfl (by have := tSY_le (okW1 w) d n; omega) (fun c25 => ?_) (fun c25 => ?_)
  · skip
    have hz : tSY (okW1 w) d n = 0 := c25
    obtain ⟨k1, k2, k3⟩ := tSY_0 hz
    have hs := hC.2.2.2.1
    obtain ⟨d, rfl, hd⟩ := tB_of (by decide) k2
    obtain ⟨n, rfl, hn⟩ := tI_of k3
    refine w_aload_n 35 dX13_years_34 rfl rfl ?_
    refine w_iconst 36 dX13_years_35 rfl (v := nI 0) rfl ?_
    refine w_inv1 39 dX13_years_36 rfl mlX13_398 rfl rfl (d' := 3) (by decide) (Nat.le_of_ble_eq_true rfl) (c_X13_lays hC1 (by decide) (fun A3 hY hX hQ3 => ?_))
    refine w_aload_n 40 dX13_years_39 rfl rfl ?_
    refine w_iload_n 41 dX13_years_40 rfl rfl ?_
    refine w_puti 44 dX13_years_41 rfl faX13_505 rfl rfl rfl rfl ?_
    exact a_X13_years ((hC1.q hQ3).q (QM.rf.f (by decide) _)) ⟨by rw [sYr_s]; dsimp only; rw [upd2_ne (by decide)]; exact hX.1, okY_Yr hs (by decide) (by decide)⟩ (by rw [sYr_s]; exact hY.q (by decide) _) (by omega) hn (by dsimp only; rw [upd2_at]) (fun A9 hQ9 ht9 hw9 => kq (h A9 ((hQ1.tr (hQ3.f (by decide) _)).tr hQ9) (by rw [hz]; exact ht9) hw9) (by unfold rYears; rw [if_pos hz, cl_nI (show d < 2 ^ 31 by omega), cl_nI (show n < 2 ^ 31 by omega), held_Yr hs]))
  · skip
    refine w_aload_n 29 dX13_years_28 rfl rfl ?_
    refine w_iload_n 30 dX13_years_29 rfl rfl ?_
    refine w_inv1 33 dX13_years_30 rfl mlX13_52 rfl rfl (d' := 0) (by decide) (Nat.le_of_ble_eq_true rfl) (c_X13_refused (fun A2 hQ2 ht2 hw2 => ?_))
    refine wr_i dX13_years_33 rfl ?_
    exact kq (h A2 (hQ1.tr hQ2) ht2 hw2) (by unfold rYears; rw [if_neg (Nat.ne_of_gt c25)])

set_option maxRecDepth 4000 in
theorem a_X13_fallsBy {K : Option Value → AH → Prop} {A : AH} {r : Value} {w : WT} {s : Nat → Nat} {k d n : Nat} {z : Int32} (hC : MC w s A) (hX : XY w (sYr s 0 0) A) (hk : k < w.1 4) (hd : d < 65537) (hn : n ≤ 60) (hsd : A.1 100 31 = nI d) (h : ∀ A', QM A A' → A'.1 100 1 = nI 0 → A'.1 100 2 = -1 → K (some (.int (enc2 ((fst1 (fbB w s k d) n).map (· + 1))))) A') : WP mX13_fallsBy 5 dM (GG (.ref 111) r) 39 [some (.ref 100), some (.int (nI k)), some (.int (nI d)), some (.int (nI n)), some (.int z), none] [] A K := by
  have hs := hC.2.2.2.1
  have hr := hC.rooms
  have hcc := hC.okT.2.2.2.2.2.2.2
  have h28 : 2 ^ s 1 ≤ 256 := Nat.pow_le_pow_right (n := 2) (j := 8) (by decide) hs.2.1
  have he := hC.ent (J := 4) (by decide) hk
  simp only [eOK] at he
  have lp42 : ∀ (nf : Nat) (i : Nat) (A' : AH), i ≤ n → XY w (sYr s i (clk s (tbz w 0 0 1) d i).2) A' → QM A A' → A'.1 100 31 = nI (clk s (tbz w 0 0 1) d i).1 → fst1 (fbB w s k d) i = none → n - i < nf → WP mX13_fallsBy 5 dM (GG (.ref 111) r) 42 [some (.ref 100), some (.int (nI k)), some (.int (nI d)), some (.int (nI n)), some (.int z), some (.int (nI (i + 1)))] [] A' K := by
    intro nf
    induction nf with
    | zero => intros; omega
    | succ nf ih =>
      intro i A' hi hX2 hQ hseed hf hms
      have hC2 := hC.q hQ
      refine w_iload 44 dX13_fallsBy_42 rfl rfl ?_
      refine w_iload_n 45 dX13_fallsBy_44 rfl rfl ?_
      refine w_icgtN 76 48 dX13_fallsBy_45 rfl rfl (by omega) (by omega) (fun c45 => ?_) (fun c45 => ?_)
      · skip
        refine w_aload_n 77 dX13_fallsBy_76 rfl rfl ?_
        refine w_bipush 79 dX13_fallsBy_77 rfl (v := (-2)) rfl ?_
        refine w_inv1 82 dX13_fallsBy_79 rfl mlX13_56 rfl rfl (d' := 0) (by decide) (Nat.le_of_ble_eq_true rfl) (c_X13_good (fun A9 hQ9 ht9 hw9 => ?_))
        refine wr_i dX13_fallsBy_82 rfl ?_
        have e : i = n := by omega
        subst e
        exact kq (h A9 (hQ.tr hQ9) ht9 hw9) (by rw [hf]; rfl)
      · skip
        refine w_aload_n 49 dX13_fallsBy_48 rfl rfl ?_
        refine w_inv0 52 dX13_fallsBy_49 rfl mlX13_517 rfl rfl (d' := 3) (by decide) (Nat.le_of_ble_eq_true rfl) (c_X13_clerksYear (d := (clk s (tbz w 0 0 1) d i).1) (g := (clk s (tbz w 0 0 1) d i).2) (hC2.1) hX2 hs hr.2.2.1 hr.2.2.2.2.2.1 hcc (by omega) (clk_ok hs.2.1 hd i).1 (clk_lt i) hseed (fun A4 hY4 hX4 hQ4 hs4 => ?_))
        refine w_aload_n 53 dX13_fallsBy_52 rfl rfl ?_
        refine w_inv0 56 dX13_fallsBy_53 rfl mlX13_421 rfl rfl (d' := 4) (by decide) (Nat.le_of_ble_eq_true rfl) (c_X13_borneAll (hC2.q hQ4) hY4 ?_)
        refine w_iload_n 57 dX13_fallsBy_56 rfl rfl ?_
        refine w_invs2 60 dX13_fallsBy_57 rfl slX13_277 (d' := 0) (by decide) (Nat.le_of_ble_eq_true rfl) (c_X13_bit ?_)
        rw [hasB_nI (ldN_lt31 hr.2.2.2.2.1 _ _ _ _) (by omega)]
        have hbt := fbB_Yr (i := i) (d := d) hs hC.okT.2.2.1 hk he.1 he.2.2.1
        rw [show (ldN w (s 1) (e1W w (sYr s (i + 1) (cyT s (i + 1) (tbz w 0 0 1) ((clk s (tbz w 0 0 1) d i).1, (clk s (tbz w 0 0 1) d i).2) (s 1)).2)) (e2W w (sYr s (i + 1) (cyT s (i + 1) (tbz w 0 0 1) ((clk s (tbz w 0 0 1) d i).1, (clk s (tbz w 0 0 1) d i).2) (s 1)).2)) (esW w (sYr s (i + 1) (cyT s (i + 1) (tbz w 0 0 1) ((clk s (tbz w 0 0 1) d i).1, (clk s (tbz w 0 0 1) d i).2) (s 1)).2) 0)).testBit k = !fbB w s k d i from hbt]
        refine w_ifneB 70 63 dX13_fallsBy_60 rfl rfl (fun c60 => ?_) (fun c60 => ?_)
        · skip
          refine w_inc5 73 dX13_fallsBy_70 rfl (by decide) rfl (v := nI (_ + 1)) (nI_1 _) ?_
          refine w_goto 42 dX13_fallsBy_73 rfl ?_
          have hb : fbB w s k d i = false := by simpa using c60
          exact ih (i + 1) A4 (by omega) hX4 (hQ.tr hQ4) hs4 (by simp [fst1, hf, hb]) (by omega)
        · skip
          refine w_aload_n 64 dX13_fallsBy_63 rfl rfl ?_
          refine w_iload 66 dX13_fallsBy_64 rfl rfl ?_
          refine w_inv1 69 dX13_fallsBy_66 rfl mlX13_56 rfl rfl (d' := 0) (by decide) (Nat.le_of_ble_eq_true rfl) (c_X13_good (fun A9 hQ9 ht9 hw9 => ?_))
          refine wr_i dX13_fallsBy_69 rfl ?_
          have hb : fbB w s k d i = true := by simpa using c60
          exact kq (h A9 ((hQ.tr hQ4).tr hQ9) ht9 hw9) (by rw [fst1_some hf hb (by omega)]; rfl)
  refine w_iconst 40 dX13_fallsBy_39 rfl (v := nI 1) rfl ?_
  refine w_ist5 42 dX13_fallsBy_40 rfl (by decide) rfl ?_
  exact lp42 _ 0 A (Nat.zero_le _) hX QM.rf hsd rfl (Nat.lt_succ_self _)

set_option maxRecDepth 4000 in
theorem c_X13_fallsBy {K : Option Value → AH → Prop} {A : AH} {r : Value} {w : WT} {s : Nat → Nat} (hC : MC w s A) {k d n : Int32} (h : ∀ A', QM A A' → A'.1 100 1 = nI (tSY (okR (w.1 4) k) d n) → A'.1 100 2 = -1 → K (some (.int (rFallsBy w s k d n))) A') : Ct yX13_fallsBy mX13_fallsBy 5 dM (GG (.ref 111) r) [.ref 100, .int k, .int d, .int n] A K := by
  refine Ct.of [some (.ref 100), some (.int k), some (.int d), some (.int n), none, none] rfl rfl rfl (Nat.le_of_ble_eq_true rfl) ?_
  refine w_aload_n 1 dX13_fallsBy_0 rfl rfl ?_
  refine w_iconst 2 dX13_fallsBy_1 rfl (v := nI 0) rfl ?_
  refine w_puti 5 dX13_fallsBy_2 rfl faX13_46 rfl rfl rfl rfl ?_
  have hQ1 : QM A (upd2 A.1 100 0 (nI 0), A.2) := QM.rf.f (by decide) _
  have hC1 := hC.q hQ1
  refine w_aload_n 6 dX13_fallsBy_5 rfl rfl ?_
  refine w_aload_n 7 dX13_fallsBy_6 rfl rfl ?_
  refine w_iload_n 8 dX13_fallsBy_7 rfl rfl ?_
  refine w_inv1 11 dX13_fallsBy_8 rfl mlX13_424 rfl rfl (d' := 0) (by decide) (Nat.le_of_ble_eq_true rfl) (c_X13_isLoad hC1 ?_)
  refine w_iload_n 12 dX13_fallsBy_11 rfl rfl ?_
  refine w_iload_n 13 dX13_fallsBy_12 rfl rfl ?_
  refine w_inv3 16 dX13_fallsBy_13 rfl mlX13_513 rfl rfl (d' := 1) (by decide) (Nat.le_of_ble_eq_true rfl) (c_X13_refusesSeed (b := okR (w.1 4) k) ?_)
  refine w_ist4 18 dX13_fallsBy_16 rfl (by decide) rfl ?_
  refine w_iload 20 dX13_fallsBy_18 rfl rfl ?_
  refine w_ifleN 30 23 dX13_fallsBy_20 rfl rfl (by have := tSY_le (okR (w.1 4) k) d n; omega) (fun c20 => ?_) (fun c20 => ?_)
  · skip
    have hz : tSY (okR (w.1 4) k) d n = 0 := c20
    obtain ⟨k1, k2, k3⟩ := tSY_0 hz
    have hs := hC.2.2.2.1
    have hr := hC.rooms
    obtain ⟨k, rfl, hk⟩ := okR_of k1 (by omega)
    obtain ⟨d, rfl, hd⟩ := tB_of (by decide) k2
    obtain ⟨n, rfl, hn⟩ := tI_of k3
    refine w_aload_n 31 dX13_fallsBy_30 rfl rfl ?_
    refine w_inv0 34 dX13_fallsBy_31 rfl mlX13_376 rfl rfl (d' := 0) (by decide) (Nat.le_of_ble_eq_true rfl) (c_X13_worksR hC1 (fun A3 hX hQ3 => ?_))
    refine w_aload_n 35 dX13_fallsBy_34 rfl rfl ?_
    refine w_iload_n 36 dX13_fallsBy_35 rfl rfl ?_
    refine w_puti 39 dX13_fallsBy_36 rfl faX13_505 rfl rfl rfl rfl ?_
    exact a_X13_fallsBy ((hC1.q hQ3).q (QM.rf.f (by decide) _)) ⟨by rw [sYr_s]; dsimp only; rw [upd2_ne (by decide)]; exact hX.1, okY_Yr hs (by decide) (by decide)⟩ hk (by omega) hn (by dsimp only; rw [upd2_at]) (fun A9 hQ9 ht9 hw9 => kq (h A9 ((hQ1.tr (hQ3.f (by decide) _)).tr hQ9) (by rw [hz]; exact ht9) hw9) (by unfold rFallsBy; rw [if_pos hz, cl_nI (show k < 2 ^ 31 by omega), cl_nI (show d < 2 ^ 31 by omega), cl_nI (show n < 2 ^ 31 by omega)]))
  · skip
    refine w_aload_n 24 dX13_fallsBy_23 rfl rfl ?_
    refine w_iload 26 dX13_fallsBy_24 rfl rfl ?_
    refine w_inv1 29 dX13_fallsBy_26 rfl mlX13_52 rfl rfl (d' := 0) (by decide) (Nat.le_of_ble_eq_true rfl) (c_X13_refused (fun A2 hQ2 ht2 hw2 => ?_))
    refine wr_i dX13_fallsBy_29 rfl ?_
    exact kq (h A2 (hQ1.tr hQ2) ht2 hw2) (by unfold rFallsBy; rw [if_neg (Nat.ne_of_gt c20)])

set_option maxRecDepth 4000 in
theorem n_X13_years {K : Option Value → AH → Prop} {A : AH} {r : Value} {d n : Int32} (h : ∀ A', QM A A' → A'.1 100 1 = nI 1 → A'.1 100 2 = -1 → K (some (.int (-1))) A') : Ct yX13_years mX13_years 4 dN (GG .null r) [.ref 100, .int d, .int n] A K := by
  refine Ct.of [some (.ref 100), some (.int d), some (.int n), none, none] rfl rfl rfl (Nat.le_of_ble_eq_true rfl) ?_
  refine w_aload_n 1 dX13_years_0 rfl rfl ?_
  refine w_iconst 2 dX13_years_1 rfl (v := nI 0) rfl ?_
  refine w_puti 5 dX13_years_2 rfl faX13_46 rfl rfl rfl rfl ?_
  refine w_aload_n 6 dX13_years_5 rfl rfl ?_
  refine w_aload_n 7 dX13_years_6 rfl rfl ?_
  refine w_getr 10 dX13_years_7 rfl faX13_343 rfl rfl rfl (r := .null) rfl ?_
  refine w_nN 17 dX13_years_10 rfl ?_
  refine w_iconst 18 dX13_years_17 rfl (v := nI 0) rfl ?_
  refine w_iload_n 19 dX13_years_18 rfl rfl ?_
  refine w_iload_n 20 dX13_years_19 rfl rfl ?_
  try rw [show nI 0 = b2i false from rfl]
  refine w_inv3 23 dX13_years_20 rfl mlX13_513 rfl rfl (d' := 1) (by decide) (Nat.le_of_ble_eq_true rfl) (c_X13_refusesSeedN (b := false) rfl ?_)
  refine w_ist3 24 dX13_years_23 rfl (by decide) rfl ?_
  refine w_iload_n 25 dX13_years_24 rfl rfl ?_
  refine w_ifleN 34 28 dX13_years_25 rfl rfl (by decide) (fun cc => absurd cc (by decide)) (fun _ => ?_)
  refine w_aload_n 29 dX13_years_28 rfl rfl ?_
  refine w_iload_n 30 dX13_years_29 rfl rfl ?_
  refine w_inv1 33 dX13_years_30 rfl mlX13_52 rfl rfl (d' := 0) (by decide) (Nat.le_of_ble_eq_true rfl) (c_X13_refusedN (fun A2 hQ2 ht2 hw2 => ?_))
  refine wr_i dX13_years_33 rfl ?_
  exact h A2 ((QM.rf.f (by decide) _).tr hQ2) ht2 hw2

set_option maxRecDepth 4000 in
theorem n_X13_fallsBy {K : Option Value → AH → Prop} {A : AH} {r : Value} {k d n : Int32} (h : ∀ A', QM A A' → A'.1 100 1 = nI 1 → A'.1 100 2 = -1 → K (some (.int (-1))) A') : Ct yX13_fallsBy mX13_fallsBy 5 dN (GG .null r) [.ref 100, .int k, .int d, .int n] A K := by
  refine Ct.of [some (.ref 100), some (.int k), some (.int d), some (.int n), none, none] rfl rfl rfl (Nat.le_of_ble_eq_true rfl) ?_
  refine w_aload_n 1 dX13_fallsBy_0 rfl rfl ?_
  refine w_iconst 2 dX13_fallsBy_1 rfl (v := nI 0) rfl ?_
  refine w_puti 5 dX13_fallsBy_2 rfl faX13_46 rfl rfl rfl rfl ?_
  refine w_aload_n 6 dX13_fallsBy_5 rfl rfl ?_
  refine w_aload_n 7 dX13_fallsBy_6 rfl rfl ?_
  refine w_iload_n 8 dX13_fallsBy_7 rfl rfl ?_
  refine w_inv1 11 dX13_fallsBy_8 rfl mlX13_424 rfl rfl (d' := 0) (by decide) (Nat.le_of_ble_eq_true rfl) (c_X13_isLoadN ?_)
  refine w_iload_n 12 dX13_fallsBy_11 rfl rfl ?_
  refine w_iload_n 13 dX13_fallsBy_12 rfl rfl ?_
  try rw [show nI 0 = b2i false from rfl]
  refine w_inv3 16 dX13_fallsBy_13 rfl mlX13_513 rfl rfl (d' := 1) (by decide) (Nat.le_of_ble_eq_true rfl) (c_X13_refusesSeedN (b := false) rfl ?_)
  refine w_ist4 18 dX13_fallsBy_16 rfl (by decide) rfl ?_
  refine w_iload 20 dX13_fallsBy_18 rfl rfl ?_
  refine w_ifleN 30 23 dX13_fallsBy_20 rfl rfl (by decide) (fun cc => absurd cc (by decide)) (fun _ => ?_)
  refine w_aload_n 24 dX13_fallsBy_23 rfl rfl ?_
  refine w_iload 26 dX13_fallsBy_24 rfl rfl ?_
  refine w_inv1 29 dX13_fallsBy_26 rfl mlX13_52 rfl rfl (d' := 0) (by decide) (Nat.le_of_ble_eq_true rfl) (c_X13_refusedN (fun A2 hQ2 ht2 hw2 => ?_))
  refine wr_i dX13_fallsBy_29 rfl ?_
  exact h A2 ((QM.rf.f (by decide) _).tr hQ2) ht2 hw2

