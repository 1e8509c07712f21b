/-! ===== the reference: chances ===== -/
theorem ptF_s (c H l n : Nat) : ptF c H l (n + 1) = ptF c H l n * (if H.testBit n then (if l.testBit n then c else 100 - c) else 1) := rfl
theorem whF_s (H n : Nat) : whF H (n + 1) = whF H n * (if H.testBit n then 100 else 1) := rfl
theorem RY.c1 {ne : Nat} {f1 f2 fs : Nat → Nat} {A A' : AH} (h : RY ne f1 f2 fs A) (e : A'.1 = A.1) : RY ne f1 f2 fs A' := by unfold RY; rw [e]; exact h
set_option maxRecDepth 4000 in
theorem c_X13_partOf {K : Option Value → AH → Prop} {A : AH} {r : Value} {w : WT} {s : Nat → Nat} {H l : Nat} (hC : MC w s A) (hy : A.1 100 25 = nI (s 1)) (hH : H < 256) (hl : l < 256) (h : ∀ A', QM A A' → A'.1 = A.1 → A'.2 100 30 = lN (whF H (s 1)) → K (some (.long (lN (ptF (tbz w 0 0 1) H l (s 1))))) A') : Ct yX13_partOf mX13_partOf 1 dM (GG (.ref 111) r) [.ref 100, .int (nI H), .int (nI l)] A K := by
  refine Ct.of [some (.ref 100), some (.int (nI H)), some (.int (nI l)), none, none, none] rfl rfl rfl (Nat.le_of_ble_eq_true rfl) ?_
  have h8 := hC.2.2.2.1.2.1
  have hc := hC.okT.2.2.2.2.2.2.2
  have lp10 : ∀ (nf : Nat) (i : Nat) (A' : AH), i ≤ s 1 → A'.1 = A.1 → QM A A' → A'.2 100 30 = lN (whF H i) → s 1 - i < nf → WP mX13_partOf 1 dM (GG (.ref 111) r) 10 [some (.ref 100), some (.int (nI H)), some (.int (nI l)), some (.long (lN (ptF (tbz w 0 0 1) H l i))), none, some (.int (nI i))] [] A' K := by
    intro nf
    induction nf with
    | zero => intros; omega
    | succ nf ih =>
      intro i A' hi he hQ hw hms
      have hcl : A'.1 111 1 = nI (tbz w 0 0 1) := (hC.q hQ).1.1.2.1
      refine w_iload 12 dX13_partOf_10 rfl rfl ?_
      refine w_aload_n 13 dX13_partOf_12 rfl rfl ?_
      refine w_getiv 16 dX13_partOf_13 rfl faX13_360 rfl rfl rfl (v := nI (s 1)) (by rw [he]; exact hy) ?_
      refine w_icgeN 83 19 dX13_partOf_16 rfl rfl (by omega) (by omega) (fun c16 => ?_) (fun c16 => ?_)
      · skip
        refine w_lload_n 84 dX13_partOf_83 rfl rfl ?_
        refine wr_l dX13_partOf_84 rfl ?_
        have e : i = s 1 := by omega
        subst e
        exact h A' hQ he hw
      · skip
        refine w_iload_n 20 dX13_partOf_19 rfl rfl ?_
        refine w_iload 22 dX13_partOf_20 rfl rfl ?_
        refine w_invs2 25 dX13_partOf_22 rfl slX13_277 (d' := 0) (by decide) (Nat.le_of_ble_eq_true rfl) (c_X13_bit ?_)
        rw [hasB_nI (by omega) (by omega)]
        refine w_ifneB 31 28 dX13_partOf_25 rfl rfl (fun c25 => ?_) (fun c25 => ?_)
        · skip
          refine w_lload_n 32 dX13_partOf_31 rfl rfl ?_
          refine w_iload_n 33 dX13_partOf_32 rfl rfl ?_
          refine w_iload 35 dX13_partOf_33 rfl rfl ?_
          refine w_invs2 38 dX13_partOf_35 rfl slX13_277 (d' := 0) (by decide) (Nat.le_of_ble_eq_true rfl) (c_X13_bit ?_)
          rw [hasB_nI (by omega) (by omega)]
          refine w_ifeqB 52 41 dX13_partOf_38 rfl rfl (fun c38 => ?_) (fun c38 => ?_)
          · skip
            refine w_bipush 54 dX13_partOf_52 rfl (v := nI 100) rfl ?_
            refine w_aload_n 55 dX13_partOf_54 rfl rfl ?_
            refine w_getr 58 dX13_partOf_55 rfl faX13_343 rfl rfl rfl (r := .ref 111) rfl ?_
            refine w_getiv 61 dX13_partOf_58 rfl faX13_228 rfl rfl rfl hcl ?_
            refine w_isubN 62 dX13_partOf_61 rfl hc ?_
            refine w_i2lN 63 dX13_partOf_62 rfl (by omega) ?_
            refine w_lmulN 64 dX13_partOf_63 rfl ?_
            refine w_lst3 65 dX13_partOf_64 rfl (by decide) rfl ?_
            refine w_aload_n 66 dX13_partOf_65 rfl rfl ?_
            refine w_dup_r 67 dX13_partOf_66 rfl ?_
            refine w_getjv 70 dX13_partOf_67 rfl faX13_494 rfl rfl rfl hw ?_
            refine w_ldc2 73 dX13_partOf_70 rfl kcX13_497 ?_
            refine w_topl (show _ = lN 100 from rfl) ?_
            refine w_lmulN 74 dX13_partOf_73 rfl ?_
            refine w_putj 77 dX13_partOf_74 rfl faX13_494 rfl rfl rfl rfl ?_
            refine w_inc5 80 dX13_partOf_77 rfl (by decide) rfl (v := nI (_ + 1)) (nI_1 _) ?_
            refine w_goto 10 dX13_partOf_80 rfl ?_
            refine wp_to ?_ rfl rfl (ih (i + 1) _ (by omega) he (hQ.j _ _) (by dsimp only; rw [upd2_at, whF_s, c25]; simp) (by omega))
            · simp [lle, ptF_s, c25, c38]
          · skip
            refine w_aload_n 42 dX13_partOf_41 rfl rfl ?_
            refine w_getr 45 dX13_partOf_42 rfl faX13_343 rfl rfl rfl (r := .ref 111) rfl ?_
            refine w_getiv 48 dX13_partOf_45 rfl faX13_228 rfl rfl rfl hcl ?_
            refine w_i2lN 49 dX13_partOf_48 rfl (by omega) ?_
            refine w_goto 63 dX13_partOf_49 rfl ?_
            refine w_lmulN 64 dX13_partOf_63 rfl ?_
            refine w_lst3 65 dX13_partOf_64 rfl (by decide) rfl ?_
            refine w_aload_n 66 dX13_partOf_65 rfl rfl ?_
            refine w_dup_r 67 dX13_partOf_66 rfl ?_
            refine w_getjv 70 dX13_partOf_67 rfl faX13_494 rfl rfl rfl hw ?_
            refine w_ldc2 73 dX13_partOf_70 rfl kcX13_497 ?_
            refine w_topl (show _ = lN 100 from rfl) ?_
            refine w_lmulN 74 dX13_partOf_73 rfl ?_
            refine w_putj 77 dX13_partOf_74 rfl faX13_494 rfl rfl rfl rfl ?_
            refine w_inc5 80 dX13_partOf_77 rfl (by decide) rfl (v := nI (_ + 1)) (nI_1 _) ?_
            refine w_goto 10 dX13_partOf_80 rfl ?_
            refine wp_to ?_ rfl rfl (ih (i + 1) _ (by omega) he (hQ.j _ _) (by dsimp only; rw [upd2_at, whF_s, c25]; simp) (by omega))
            · simp [lle, ptF_s, c25, c38]
        · skip
          refine w_goto 77 dX13_partOf_28 rfl ?_
          refine w_inc5 80 dX13_partOf_77 rfl (by decide) rfl (v := nI (_ + 1)) (nI_1 _) ?_
          refine w_goto 10 dX13_partOf_80 rfl ?_
          refine wp_to ?_ rfl rfl (ih (i + 1) _ (by omega) he hQ (by rw [hw, whF_s, c25]; simp) (by omega))
          · simp [lle, ptF_s, c25]
  refine w_lconst 1 dX13_partOf_0 rfl (v := lN 1) rfl ?_
  refine w_lst3 2 dX13_partOf_1 rfl (by decide) rfl ?_
  refine w_aload_n 3 dX13_partOf_2 rfl rfl ?_
  refine w_lconst 4 dX13_partOf_3 rfl (v := lN 1) rfl ?_
  refine w_putj 7 dX13_partOf_4 rfl faX13_494 rfl rfl rfl rfl ?_
  refine w_iconst 8 dX13_partOf_7 rfl (v := nI 0) rfl ?_
  refine w_ist5 10 dX13_partOf_8 rfl (by decide) rfl ?_
  exact lp10 _ 0 _ (Nat.zero_le _) rfl (QM.rf.j _ _) (by dsimp only; rw [upd2_at]; rfl) (Nat.lt_succ_self _)

set_option maxRecDepth 4000 in
theorem a_X13_bearOdds {K : Option Value → AH → Prop} {A : AH} {r : Value} {w : WT} {s : Nat → Nat} {a b m : Nat} {lo : Bool} (hm : m ≤ 800) (hC : MC w s A) (hY : RY (s 1) (e1W w s) (e2W w s) (esW w s 0) A) (ha : a < w.1 1) (hb : b < w.1 1) (hab : a ≠ b) (h : ∀ A', QM A A' → A'.1 100 1 = nI 0 → A'.1 100 2 = -1 → K (some (.long (sh lo (sumTo (boF w s a b m) ((HM w s 0) + 1)) (100 ^ popc (HM w s 0))))) A') : WP mX13_bearOdds 4 dM (GG (.ref 111) r) 50 [some (.ref 100), some (.int (nI a)), some (.int (nI b)), some (.int (nI m)), some (.int (b2i lo)), some (.int (nI (HM w s 0))), none, none, none, none, none] [] A K := by
  have hs := hC.2.2.2.1
  have h8 := hs.2.1
  have hr := hC.rooms
  have hH := HM_lt w s 0
  have hH1 := HM_lt1 (w := w) hs 0
  have hcc := hC.okT.2.2.2.2.2.2.2
  have hof := hC.okT.2.2.1
  have lp56 : ∀ (nf : Nat) (i : Nat) (A' : AH) (y : Option Value), i ≤ (HM w s 0) + 1 → QM A A' → RY (s 1) (e1W w s) (e2W w s) (esW w s 0) A' → (0 < i → A'.2 100 30 = lN (whF (HM w s 0) (s 1))) → (HM w s 0) + 1 - i < nf → WP mX13_bearOdds 4 dM (GG (.ref 111) r) 56 [some (.ref 100), some (.int (nI a)), some (.int (nI b)), some (.int (nI m)), some (.int (b2i lo)), some (.int (nI (HM w s 0))), some (.long (lN (sumTo (boQ w s a b m) i))), none, some (.int (nI i)), y, none] [] A' K := by
    intro nf
    induction nf with
    | zero => intros; omega
    | succ nf ih =>
      intro i A' y hi hQ hY2 hwh hms
      have hC2 := hC.q hQ
      have hN := hC2.1.2.1 1 (by decide) (by decide)
      have hptl : (ptF (tbz w 0 0 1) (HM w s 0) i (s 1)) ≤ 10000000000000000 := Nat.le_trans (ptF_le hcc (s 1)) (show 100 ^ s 1 ≤ 100 ^ 8 from Nat.pow_le_pow_right (by decide) h8)
      have hlb := LB_le w s 0 i a b
      refine w_iload 58 dX13_bearOdds_56 rfl rfl ?_
      refine w_iload 60 dX13_bearOdds_58 rfl rfl ?_
      refine w_icgtN 122 63 dX13_bearOdds_60 rfl rfl (by omega) (by omega) (fun c60 => ?_) (fun c60 => ?_)
      · skip
        have e : i = HM w s 0 + 1 := by omega
        subst e
        rw [boQ_sum hs hof ha hab]
        refine w_aload_n 123 dX13_bearOdds_122 rfl rfl ?_
        refine w_lload 125 dX13_bearOdds_123 rfl rfl ?_
        refine w_aload_n 126 dX13_bearOdds_125 rfl rfl ?_
        refine w_getjv 129 dX13_bearOdds_126 rfl faX13_494 rfl rfl rfl (v := lN (100 ^ popc (HM w s 0))) (by rw [hwh (by omega), whF_pop hH1 h8]) ?_
        refine w_iload 131 dX13_bearOdds_129 rfl rfl ?_
        refine w_inv3 134 dX13_bearOdds_131 rfl mlX13_468 rfl rfl (d' := 1) (by decide) (Nat.le_of_ble_eq_true rfl) (c_X13_fraction (boS hC.okT s a b m) (p100 _) (fun A9 hQ9 ht9 hw9 => ?_))
        refine wr_l dX13_bearOdds_134 rfl ?_
        exact h A9 (hQ.tr hQ9) ht9 hw9
      · skip
        refine w_iload 65 dX13_bearOdds_63 rfl rfl ?_
        refine w_iload 67 dX13_bearOdds_65 rfl rfl ?_
        refine w_iconst 68 dX13_bearOdds_67 rfl (v := (-1)) rfl ?_
        refine w_ixor 69 dX13_bearOdds_68 rfl ?_
        refine w_iand 70 dX13_bearOdds_69 rfl ?_
        refine w_top (not_and (by omega)) ?_
        refine w_ifeqN 76 73 dX13_bearOdds_70 rfl rfl (Nat.lt_of_le_of_lt Nat.and_le_left (by omega)) (fun c70 => ?_) (fun c70 => ?_)
        · skip
          have hsb : subM i (HM w s 0) = true := decide_eq_true c70
          
          refine w_aload_n 77 dX13_bearOdds_76 rfl rfl ?_
          refine w_iload 79 dX13_bearOdds_77 rfl rfl ?_
          refine w_iload 81 dX13_bearOdds_79 rfl rfl ?_
          refine w_inv2 84 dX13_bearOdds_81 rfl mlX13_499 rfl rfl (d' := 1) (by decide) (Nat.le_of_ble_eq_true rfl) (c_X13_partOf hC2 hY2.1 hH (by omega) (fun A5 hQ5 he5 h30 => ?_))
          refine w_lst9 86 dX13_bearOdds_84 rfl (by decide) rfl ?_
          refine w_lload 88 dX13_bearOdds_86 rfl rfl ?_
          refine w_lload 90 dX13_bearOdds_88 rfl rfl ?_
          refine w_lconst 91 dX13_bearOdds_90 rfl (v := lN 0) rfl ?_
          refine w_lcmp 92 dX13_bearOdds_91 rfl ?_
          refine w_ifleL 112 95 dX13_bearOdds_92 rfl rfl (Nat.lt_of_le_of_lt hptl (by decide)) (by decide) (fun c92 => ?_) (fun c92 => ?_)
          · skip
            refine w_lconst 113 dX13_bearOdds_112 rfl (v := lN 0) rfl ?_
            refine w_laddN 114 dX13_bearOdds_113 rfl ?_
            refine w_lst6 116 dX13_bearOdds_114 rfl (by decide) rfl ?_
            refine w_inc8 119 dX13_bearOdds_116 rfl (by decide) rfl (v := nI (_ + 1)) (nI_1 _) ?_
            refine w_goto 56 dX13_bearOdds_119 rfl ?_
            have hbo : boQ w s a b m i = 0 := by unfold boQ; rw [hsb]; simp; omega
            refine wp_to ?_ rfl rfl (ih (i + 1) A5 none (by omega) (hQ.tr hQ5) (hY2.c1 he5) (fun _ => h30) (by omega))
            simp [lle, sumTo, hbo]
          · skip
            refine w_aload_n 96 dX13_bearOdds_95 rfl rfl ?_
            refine w_iload_n 97 dX13_bearOdds_96 rfl rfl ?_
            refine w_iload_n 98 dX13_bearOdds_97 rfl rfl ?_
            refine w_iload 100 dX13_bearOdds_98 rfl rfl ?_
            refine w_inv3 103 dX13_bearOdds_100 rfl mlX13_411 rfl rfl (d' := 3) (by decide) (Nat.le_of_ble_eq_true rfl) (c_X13_borneBetween (hY2.c1 he5) (by rw [he5]; exact hN) hr.2.1 (by omega) (by omega) (by omega) ?_)
            rw [show leastF (fun s_1 => crs (e1W w s) (e2W w s) (esW w s 0) s_1 i (s 1)) (sideP a b) (2 ^ w.1 1) = LB w s 0 i a b from rfl]
            refine w_iload_n 104 dX13_bearOdds_103 rfl rfl ?_
            refine w_icltN 112 107 dX13_bearOdds_104 rfl rfl (by omega) (by omega) (fun c104 => ?_) (fun c104 => ?_)
            · skip
              refine w_lconst 113 dX13_bearOdds_112 rfl (v := lN 0) rfl ?_
              refine w_laddN 114 dX13_bearOdds_113 rfl ?_
              refine w_lst6 116 dX13_bearOdds_114 rfl (by decide) rfl ?_
              refine w_inc8 119 dX13_bearOdds_116 rfl (by decide) rfl (v := nI (_ + 1)) (nI_1 _) ?_
              refine w_goto 56 dX13_bearOdds_119 rfl ?_
              have hbo : boQ w s a b m i = 0 := by unfold boQ; rw [hsb, if_pos rfl, if_neg (by omega)]
              refine wp_to ?_ rfl rfl (ih (i + 1) A5 none (by omega) (hQ.tr hQ5) (hY2.c1 he5) (fun _ => h30) (by omega))
              simp [lle, sumTo, hbo]
            · skip
              refine w_lload 109 dX13_bearOdds_107 rfl rfl ?_
              refine w_goto 113 dX13_bearOdds_109 rfl ?_
              refine w_laddN 114 dX13_bearOdds_113 rfl ?_
              refine w_lst6 116 dX13_bearOdds_114 rfl (by decide) rfl ?_
              refine w_inc8 119 dX13_bearOdds_116 rfl (by decide) rfl (v := nI (_ + 1)) (nI_1 _) ?_
              refine w_goto 56 dX13_bearOdds_119 rfl ?_
              have hbo : boQ w s a b m i = (ptF (tbz w 0 0 1) (HM w s 0) i (s 1)) := by unfold boQ; rw [hsb, if_pos rfl, if_pos (by omega)]
              refine wp_to ?_ rfl rfl (ih (i + 1) A5 none (by omega) (hQ.tr hQ5) (hY2.c1 he5) (fun _ => h30) (by omega))
              simp [lle, sumTo, hbo]
        · skip
          refine w_goto 116 dX13_bearOdds_73 rfl ?_
          refine w_inc8 119 dX13_bearOdds_116 rfl (by decide) rfl (v := nI (_ + 1)) (nI_1 _) ?_
          refine w_goto 56 dX13_bearOdds_119 rfl ?_
          have hsb : subM i (HM w s 0) = false := decide_eq_false c70
          have hbo : boQ w s a b m i = 0 := by unfold boQ; rw [hsb]; rfl
          refine wp_to ?_ rfl rfl (ih (i + 1) A' none (by omega) hQ hY2 (fun _ => hwh (Nat.pos_of_ne_zero (fun z => c70 (by rw [z]; exact Nat.zero_and _)))) (by omega))
          simp [lle, sumTo, hbo]
  refine w_lconst 51 dX13_bearOdds_50 rfl (v := lN 0) rfl ?_
  refine w_lst6 53 dX13_bearOdds_51 rfl (by decide) rfl ?_
  refine w_iconst 54 dX13_bearOdds_53 rfl (v := nI 0) rfl ?_
  refine w_ist8 56 dX13_bearOdds_54 rfl (by decide) rfl ?_
  exact lp56 _ 0 A none (Nat.zero_le _) QM.rf hY (fun z => absurd z (Nat.lt_irrefl 0)) (Nat.lt_succ_self _)

set_option maxRecDepth 4000 in
theorem a_X13_mean {K : Option Value → AH → Prop} {A : AH} {r : Value} {w : WT} {s : Nat → Nat} {a b : Nat} {lo : Bool} (hC : MC w s A) (hY : RY (s 1) (e1W w s) (e2W w s) (esW w s 0) A) (ha : a < w.1 1) (hb : b < w.1 1) (hab : a ≠ b) (h : ∀ A', QM A A' → A'.1 100 1 = nI 0 → A'.1 100 2 = -1 → K (some (.long (sh lo (sumTo (meF w s a b) ((HM w s 0) + 1)) (100 ^ popc (HM w s 0))))) A') : WP mX13_mean 4 dM (GG (.ref 111) r) 32 [some (.ref 100), some (.int (nI a)), some (.int (nI b)), some (.int (b2i lo)), some (.int (nI (HM w s 0))), none, none, none, none, none] [] A K := by
  have hs := hC.2.2.2.1
  have h8 := hs.2.1
  have hr := hC.rooms
  have hH := HM_lt w s 0
  have hH1 := HM_lt1 (w := w) hs 0
  have hcc := hC.okT.2.2.2.2.2.2.2
  have hof := hC.okT.2.2.1
  have lp38 : ∀ (nf : Nat) (i : Nat) (A' : AH) (y : Option Value), i ≤ (HM w s 0) + 1 → QM A A' → RY (s 1) (e1W w s) (e2W w s) (esW w s 0) A' → (0 < i → A'.2 100 30 = lN (whF (HM w s 0) (s 1))) → (HM w s 0) + 1 - i < nf → WP mX13_mean 4 dM (GG (.ref 111) r) 38 [some (.ref 100), some (.int (nI a)), some (.int (nI b)), some (.int (b2i lo)), some (.int (nI (HM w s 0))), some (.long (lN (sumTo (meQ w s a b) i))), none, some (.int (nI i)), y, none] [] A' K := by
    intro nf
    induction nf with
    | zero => intros; omega
    | succ nf ih =>
      intro i A' y hi hQ hY2 hwh hms
      have hC2 := hC.q hQ
      have hN := hC2.1.2.1 1 (by decide) (by decide)
      have hptl : (ptF (tbz w 0 0 1) (HM w s 0) i (s 1)) ≤ 10000000000000000 := Nat.le_trans (ptF_le hcc (s 1)) (show 100 ^ s 1 ≤ 100 ^ 8 from Nat.pow_le_pow_right (by decide) h8)
      have hlb := LB_le w s 0 i a b
      refine w_iload 40 dX13_mean_38 rfl rfl ?_
      refine w_iload 42 dX13_mean_40 rfl rfl ?_
      refine w_icgtN 102 45 dX13_mean_42 rfl rfl (by omega) (by omega) (fun c42 => ?_) (fun c42 => ?_)
      · skip
        have e : i = HM w s 0 + 1 := by omega
        subst e
        rw [meQ_sum hs hof ha hab]
        refine w_aload_n 103 dX13_mean_102 rfl rfl ?_
        refine w_lload 105 dX13_mean_103 rfl rfl ?_
        refine w_aload_n 106 dX13_mean_105 rfl rfl ?_
        refine w_getjv 109 dX13_mean_106 rfl faX13_494 rfl rfl rfl (v := lN (100 ^ popc (HM w s 0))) (by rw [hwh (by omega), whF_pop hH1 h8]) ?_
        refine w_iload_n 110 dX13_mean_109 rfl rfl ?_
        refine w_inv3 113 dX13_mean_110 rfl mlX13_468 rfl rfl (d' := 1) (by decide) (Nat.le_of_ble_eq_true rfl) (c_X13_fraction (meS hC.okT hs a b) (p100 _) (fun A9 hQ9 ht9 hw9 => ?_))
        refine wr_l dX13_mean_113 rfl ?_
        exact h A9 (hQ.tr hQ9) ht9 hw9
      · skip
        refine w_iload 47 dX13_mean_45 rfl rfl ?_
        refine w_iload 49 dX13_mean_47 rfl rfl ?_
        refine w_iconst 50 dX13_mean_49 rfl (v := (-1)) rfl ?_
        refine w_ixor 51 dX13_mean_50 rfl ?_
        refine w_iand 52 dX13_mean_51 rfl ?_
        refine w_top (not_and (by omega)) ?_
        refine w_ifeqN 58 55 dX13_mean_52 rfl rfl (Nat.lt_of_le_of_lt Nat.and_le_left (by omega)) (fun c52 => ?_) (fun c52 => ?_)
        · skip
          have hsb : subM i (HM w s 0) = true := decide_eq_true c52
          
          refine w_aload_n 59 dX13_mean_58 rfl rfl ?_
          refine w_iload 61 dX13_mean_59 rfl rfl ?_
          refine w_iload 63 dX13_mean_61 rfl rfl ?_
          refine w_inv2 66 dX13_mean_63 rfl mlX13_499 rfl rfl (d' := 1) (by decide) (Nat.le_of_ble_eq_true rfl) (c_X13_partOf hC2 hY2.1 hH (by omega) (fun A5 hQ5 he5 h30 => ?_))
          refine w_lst8 68 dX13_mean_66 rfl (by decide) rfl ?_
          refine w_lload 70 dX13_mean_68 rfl rfl ?_
          refine w_lload 72 dX13_mean_70 rfl rfl ?_
          refine w_lconst 73 dX13_mean_72 rfl (v := lN 0) rfl ?_
          refine w_lcmp 74 dX13_mean_73 rfl ?_
          refine w_ifleL 92 77 dX13_mean_74 rfl rfl (Nat.lt_of_le_of_lt hptl (by decide)) (by decide) (fun c74 => ?_) (fun c74 => ?_)
          · skip
            refine w_lconst 93 dX13_mean_92 rfl (v := lN 0) rfl ?_
            refine w_laddN 94 dX13_mean_93 rfl ?_
            refine w_lst5 96 dX13_mean_94 rfl (by decide) rfl ?_
            refine w_inc7 99 dX13_mean_96 rfl (by decide) rfl (v := nI (_ + 1)) (nI_1 _) ?_
            refine w_goto 38 dX13_mean_99 rfl ?_
            have hp0 : (ptF (tbz w 0 0 1) (HM w s 0) i (s 1)) = 0 := by omega
            have hbo : meQ w s a b i = 0 := by unfold meQ; rw [hsb, hp0]; simp
            refine wp_to ?_ rfl rfl (ih (i + 1) A5 none (by omega) (hQ.tr hQ5) (hY2.c1 he5) (fun _ => h30) (by omega))
            simp [lle, sumTo, hbo]
          · skip
            refine w_lload 79 dX13_mean_77 rfl rfl ?_
            refine w_aload_n 80 dX13_mean_79 rfl rfl ?_
            refine w_iload_n 81 dX13_mean_80 rfl rfl ?_
            refine w_iload_n 82 dX13_mean_81 rfl rfl ?_
            refine w_iload 84 dX13_mean_82 rfl rfl ?_
            refine w_inv3 87 dX13_mean_84 rfl mlX13_411 rfl rfl (d' := 3) (by decide) (Nat.le_of_ble_eq_true rfl) (c_X13_borneBetween (hY2.c1 he5) (by rw [he5]; exact hN) hr.2.1 (by omega) (by omega) (by omega) ?_)
            rw [show leastF (fun s_1 => crs (e1W w s) (e2W w s) (esW w s 0) s_1 i (s 1)) (sideP a b) (2 ^ w.1 1) = LB w s 0 i a b from rfl]
            refine w_i2lN 88 dX13_mean_87 rfl (by omega) ?_
            refine w_lmulN 89 dX13_mean_88 rfl ?_
            refine w_goto 93 dX13_mean_89 rfl ?_
            refine w_laddN 94 dX13_mean_93 rfl ?_
            refine w_lst5 96 dX13_mean_94 rfl (by decide) rfl ?_
            refine w_inc7 99 dX13_mean_96 rfl (by decide) rfl (v := nI (_ + 1)) (nI_1 _) ?_
            refine w_goto 38 dX13_mean_99 rfl ?_
            have hbo : meQ w s a b i = (ptF (tbz w 0 0 1) (HM w s 0) i (s 1)) * LB w s 0 i a b := by unfold meQ; rw [hsb, if_pos rfl]
            refine wp_to ?_ rfl rfl (ih (i + 1) A5 none (by omega) (hQ.tr hQ5) (hY2.c1 he5) (fun _ => h30) (by omega))
            simp [lle, sumTo, hbo]
        · skip
          refine w_goto 96 dX13_mean_55 rfl ?_
          refine w_inc7 99 dX13_mean_96 rfl (by decide) rfl (v := nI (_ + 1)) (nI_1 _) ?_
          refine w_goto 38 dX13_mean_99 rfl ?_
          have hsb : subM i (HM w s 0) = false := decide_eq_false c52
          have hbo : meQ w s a b i = 0 := by unfold meQ; rw [hsb]; rfl
          refine wp_to ?_ rfl rfl (ih (i + 1) A' none (by omega) hQ hY2 (fun _ => hwh (Nat.pos_of_ne_zero (fun z => c52 (by rw [z]; exact Nat.zero_and _)))) (by omega))
          simp [lle, sumTo, hbo]
  refine w_lconst 33 dX13_mean_32 rfl (v := lN 0) rfl ?_
  refine w_lst5 35 dX13_mean_33 rfl (by decide) rfl ?_
  refine w_iconst 36 dX13_mean_35 rfl (v := nI 0) rfl ?_
  refine w_ist7 38 dX13_mean_36 rfl (by decide) rfl ?_
  exact lp38 _ 0 A none (Nat.zero_le _) QM.rf hY (fun z => absurd z (Nat.lt_irrefl 0)) (Nat.lt_succ_self _)

set_option maxRecDepth 4000 in
theorem c_X13_bearOdds {K : Option Value → AH → Prop} {A : AH} {r : Value} {w : WT} {s : Nat → Nat} (hC : MC w s A) {a b m : Int32} {lo : Bool} (h : ∀ A', QM A A' → A'.1 100 1 = nI (tX (ok2 w a b) (tB 800 m)) → A'.1 100 2 = -1 → K (some (.long (rBearOdds w s a b m lo))) A') : Ct yX13_bearOdds mX13_bearOdds 4 dM (GG (.ref 111) r) [.ref 100, .int a, .int b, .int m, .int (b2i lo)] A K := by
  refine Ct.of [some (.ref 100), some (.int a), some (.int b), some (.int m), some (.int (b2i lo)), none, none, none, none, none, none] rfl rfl rfl (Nat.le_of_ble_eq_true rfl) ?_
  refine w_aload_n 1 dX13_bearOdds_0 rfl rfl ?_
  refine w_iconst 2 dX13_bearOdds_1 rfl (v := nI 0) rfl ?_
  refine w_puti 5 dX13_bearOdds_2 rfl faX13_46 rfl rfl rfl rfl ?_
  have hQ1 : QM A (upd2 A.1 100 0 (nI 0), A.2) := QM.rf.f (by decide) _
  have hC1 := hC.q hQ1
  refine w_aload_n 6 dX13_bearOdds_5 rfl rfl ?_
  refine w_iload_n 7 dX13_bearOdds_6 rfl rfl ?_
  refine w_iload_n 8 dX13_bearOdds_7 rfl rfl ?_
  refine w_inv2 11 dX13_bearOdds_8 rfl mlX13_408 rfl rfl (d' := 1) (by decide) (Nat.le_of_ble_eq_true rfl) (c_X13_areTwo hC1 ?_)
  refine w_ifneB 21 14 dX13_bearOdds_11 rfl rfl (fun c11 => ?_) (fun c11 => ?_)
  · skip
    refine w_iload_n 22 dX13_bearOdds_21 rfl rfl ?_
    refine w_iconst 23 dX13_bearOdds_22 rfl (v := nI 0) rfl ?_
    refine w_sipush 26 dX13_bearOdds_23 rfl (v := nI 800) rfl ?_
    refine w_invs3 29 dX13_bearOdds_26 rfl slX13_121 (d' := 0) (by decide) (Nat.le_of_ble_eq_true rfl) (c_X13_in ?_)
    refine w_ifneB 39 32 dX13_bearOdds_29 rfl rfl (fun c29 => ?_) (fun c29 => ?_)
    · skip
      have hb0 : tB 800 m = 0 := if_pos (of_decide_eq_true c29)
      have hz : tX (ok2 w a b) (tB 800 m) = 0 := by rw [c11, hb0]; rfl
      obtain ⟨m, rfl, hm⟩ := tB_of (by decide) hb0
      have hr := hC.rooms
      obtain ⟨a, b, rfl, rfl, ha, hb, hab⟩ := ok2_of c11 hr.2.1
      refine w_aload_n 40 dX13_bearOdds_39 rfl rfl ?_
      refine w_iconst 41 dX13_bearOdds_40 rfl (v := nI 0) rfl ?_
      refine w_inv1 44 dX13_bearOdds_41 rfl mlX13_398 rfl rfl (d' := 3) (by decide) (Nat.le_of_ble_eq_true rfl) (c_X13_lays hC1 (by decide) (fun A3 hY hX hQ3 => ?_))
      refine w_aload_n 45 dX13_bearOdds_44 rfl rfl ?_
      refine w_inv0 48 dX13_bearOdds_45 rfl mlX13_405 rfl rfl (d' := 0) (by decide) (Nat.le_of_ble_eq_true rfl) (c_X13_held hY ?_)
      rw [show maskTo (fun e => decide (0 < esW w s 0 e)) (s 1) = HM w s 0 from HN_HM hC.2.2.2.1 0]
      refine w_ist5 50 dX13_bearOdds_48 rfl (by decide) rfl ?_
      exact a_X13_bearOdds hm (hC1.q hQ3) hY ha hb hab (fun A9 hQ9 ht9 hw9 => kl (h A9 ((hQ1.tr hQ3).tr hQ9) (by rw [hz]; exact ht9) hw9) (by unfold rBearOdds; rw [if_pos hz, cl_nI (show a < 2 ^ 31 by omega), cl_nI (show b < 2 ^ 31 by omega), cl_nI (show m < 2 ^ 31 by omega)]))
    · skip
      have hz : tX (ok2 w a b) (tB 800 m) = 2 := by rw [c11, show tB 800 m = 2 from if_neg (of_decide_eq_false c29)]; rfl
      refine w_aload_n 33 dX13_bearOdds_32 rfl rfl ?_
      refine w_iconst 34 dX13_bearOdds_33 rfl (v := nI 2) rfl ?_
      refine w_inv1 37 dX13_bearOdds_34 rfl mlX13_52 rfl rfl (d' := 0) (by decide) (Nat.le_of_ble_eq_true rfl) (c_X13_refused (fun A2 hQ2 ht2 hw2 => ?_))
      refine w_i2l 38 dX13_bearOdds_37 rfl ?_
      refine wr_l dX13_bearOdds_38 rfl ?_
      exact kl (h A2 (hQ1.tr hQ2) (by rw [ht2, hz]) hw2) (by unfold rBearOdds; rw [if_neg (by rw [hz]; decide)]; rfl)
  · skip
    refine w_aload_n 15 dX13_bearOdds_14 rfl rfl ?_
    refine w_iconst 16 dX13_bearOdds_15 rfl (v := nI 1) rfl ?_
    refine w_inv1 19 dX13_bearOdds_16 rfl mlX13_52 rfl rfl (d' := 0) (by decide) (Nat.le_of_ble_eq_true rfl) (c_X13_refused (fun A2 hQ2 ht2 hw2 => ?_))
    refine w_i2l 20 dX13_bearOdds_19 rfl ?_
    refine wr_l dX13_bearOdds_20 rfl ?_
    exact kl (h A2 (hQ1.tr hQ2) (by rw [ht2, c11]; rfl) hw2) (by unfold rBearOdds; rw [c11]; rfl)

set_option maxRecDepth 4000 in
theorem c_X13_mean {K : Option Value → AH → Prop} {A : AH} {r : Value} {w : WT} {s : Nat → Nat} (hC : MC w s A) {a b : Int32} {lo : Bool} (h : ∀ A', QM A A' → A'.1 100 1 = nI (t1 (ok2 w a b)) → A'.1 100 2 = -1 → K (some (.long (rMean w s a b lo))) A') : Ct yX13_mean mX13_mean 4 dM (GG (.ref 111) r) [.ref 100, .int a, .int b, .int (b2i lo)] A K := by
  refine Ct.of [some (.ref 100), some (.int a), some (.int b), some (.int (b2i lo)), none, none, none, none, none, none] rfl rfl rfl (Nat.le_of_ble_eq_true rfl) ?_
  refine w_aload_n 1 dX13_mean_0 rfl rfl ?_
  refine w_iconst 2 dX13_mean_1 rfl (v := nI 0) rfl ?_
  refine w_puti 5 dX13_mean_2 rfl faX13_46 rfl rfl rfl rfl ?_
  have hQ1 : QM A (upd2 A.1 100 0 (nI 0), A.2) := QM.rf.f (by decide) _
  have hC1 := hC.q hQ1
  refine w_aload_n 6 dX13_mean_5 rfl rfl ?_
  refine w_iload_n 7 dX13_mean_6 rfl rfl ?_
  refine w_iload_n 8 dX13_mean_7 rfl rfl ?_
  refine w_inv2 11 dX13_mean_8 rfl mlX13_408 rfl rfl (d' := 1) (by decide) (Nat.le_of_ble_eq_true rfl) (c_X13_areTwo hC1 ?_)
  refine w_ifneB 21 14 dX13_mean_11 rfl rfl (fun c11 => ?_) (fun c11 => ?_)
  · skip
    have hr := hC.rooms
    obtain ⟨a, b, rfl, rfl, ha, hb, hab⟩ := ok2_of c11 hr.2.1
    have hz : t1 (ok2 w (nI a) (nI b)) = 0 := by rw [c11]; rfl
    refine w_aload_n 22 dX13_mean_21 rfl rfl ?_
    refine w_iconst 23 dX13_mean_22 rfl (v := nI 0) rfl ?_
    refine w_inv1 26 dX13_mean_23 rfl mlX13_398 rfl rfl (d' := 3) (by decide) (Nat.le_of_ble_eq_true rfl) (c_X13_lays hC1 (by decide) (fun A3 hY hX hQ3 => ?_))
    refine w_aload_n 27 dX13_mean_26 rfl rfl ?_
    refine w_inv0 30 dX13_mean_27 rfl mlX13_405 rfl rfl (d' := 0) (by decide) (Nat.le_of_ble_eq_true rfl) (c_X13_held hY ?_)
    rw [show maskTo (fun e => decide (0 < esW w s 0 e)) (s 1) = HM w s 0 from HN_HM hC.2.2.2.1 0]
    refine w_ist4 32 dX13_mean_30 rfl (by decide) rfl ?_
    exact a_X13_mean (hC1.q hQ3) hY ha hb hab (fun A9 hQ9 ht9 hw9 => kl (h A9 ((hQ1.tr hQ3).tr hQ9) (by rw [hz]; exact ht9) hw9) (by unfold rMean; rw [if_pos hz, cl_nI (show a < 2 ^ 31 by omega), cl_nI (show b < 2 ^ 31 by omega)]))
  · skip
    refine w_aload_n 15 dX13_mean_14 rfl rfl ?_
    refine w_iconst 16 dX13_mean_15 rfl (v := nI 1) rfl ?_
    refine w_inv1 19 dX13_mean_16 rfl mlX13_52 rfl rfl (d' := 0) (by decide) (Nat.le_of_ble_eq_true rfl) (c_X13_refused (fun A2 hQ2 ht2 hw2 => ?_))
    refine w_i2l 20 dX13_mean_19 rfl ?_
    refine wr_l dX13_mean_20 rfl ?_
    exact kl (h A2 (hQ1.tr hQ2) (by rw [ht2, c11]; rfl) hw2) (by unfold rMean; rw [c11]; rfl)

set_option maxRecDepth 4000 in
theorem n_X13_bearOdds {K : Option Value → AH → Prop} {A : AH} {r : Value} {a b m : Int32} {lo : Bool} (h : ∀ A', QM A A' → A'.1 100 1 = nI 1 → A'.1 100 2 = -1 → K (some (.long (-1))) A') : Ct yX13_bearOdds mX13_bearOdds 4 dN (GG .null r) [.ref 100, .int a, .int b, .int m, .int (b2i lo)] A K := by
  refine Ct.of [some (.ref 100), some (.int a), some (.int b), some (.int m), some (.int (b2i lo)), none, none, none, none, none, none] rfl rfl rfl (Nat.le_of_ble_eq_true rfl) ?_
  refine w_aload_n 1 dX13_bearOdds_0 rfl rfl ?_
  refine w_iconst 2 dX13_bearOdds_1 rfl (v := nI 0) rfl ?_
  refine w_puti 5 dX13_bearOdds_2 rfl faX13_46 rfl rfl rfl rfl ?_
  refine w_aload_n 6 dX13_bearOdds_5 rfl rfl ?_
  refine w_iload_n 7 dX13_bearOdds_6 rfl rfl ?_
  refine w_iload_n 8 dX13_bearOdds_7 rfl rfl ?_
  refine w_inv2 11 dX13_bearOdds_8 rfl mlX13_408 rfl rfl (d' := 1) (by decide) (Nat.le_of_ble_eq_true rfl) (c_X13_areTwoN ?_)
  refine w_ifneB 21 14 dX13_bearOdds_11 rfl rfl (fun cc => by cases cc) (fun _ => ?_)
  refine w_aload_n 15 dX13_bearOdds_14 rfl rfl ?_
  refine w_iconst 16 dX13_bearOdds_15 rfl (v := nI 1) rfl ?_
  refine w_inv1 19 dX13_bearOdds_16 rfl mlX13_52 rfl rfl (d' := 0) (by decide) (Nat.le_of_ble_eq_true rfl) (c_X13_refusedN (fun A2 hQ2 ht2 hw2 => ?_))
  refine w_i2l 20 dX13_bearOdds_19 rfl ?_
  refine wr_l dX13_bearOdds_20 rfl ?_
  exact h A2 ((QM.rf.f (by decide) _).tr hQ2) ht2 hw2

set_option maxRecDepth 4000 in
theorem n_X13_mean {K : Option Value → AH → Prop} {A : AH} {r : Value} {a b : Int32} {lo : Bool} (h : ∀ A', QM A A' → A'.1 100 1 = nI 1 → A'.1 100 2 = -1 → K (some (.long (-1))) A') : Ct yX13_mean mX13_mean 4 dN (GG .null r) [.ref 100, .int a, .int b, .int (b2i lo)] A K := by
  refine Ct.of [some (.ref 100), some (.int a), some (.int b), some (.int (b2i lo)), none, none, none, none, none, none] rfl rfl rfl (Nat.le_of_ble_eq_true rfl) ?_
  refine w_aload_n 1 dX13_mean_0 rfl rfl ?_
  refine w_iconst 2 dX13_mean_1 rfl (v := nI 0) rfl ?_
  refine w_puti 5 dX13_mean_2 rfl faX13_46 rfl rfl rfl rfl ?_
  refine w_aload_n 6 dX13_mean_5 rfl rfl ?_
  refine w_iload_n 7 dX13_mean_6 rfl rfl ?_
  refine w_iload_n 8 dX13_mean_7 rfl rfl ?_
  refine w_inv2 11 dX13_mean_8 rfl mlX13_408 rfl rfl (d' := 1) (by decide) (Nat.le_of_ble_eq_true rfl) (c_X13_areTwoN ?_)
  refine w_ifneB 21 14 dX13_mean_11 rfl rfl (fun cc => by cases cc) (fun _ => ?_)
  refine w_aload_n 15 dX13_mean_14 rfl rfl ?_
  refine w_iconst 16 dX13_mean_15 rfl (v := nI 1) rfl ?_
  refine w_inv1 19 dX13_mean_16 rfl mlX13_52 rfl rfl (d' := 0) (by decide) (Nat.le_of_ble_eq_true rfl) (c_X13_refusedN (fun A2 hQ2 ht2 hw2 => ?_))
  refine w_i2l 20 dX13_mean_19 rfl ?_
  refine wr_l dX13_mean_20 rfl ?_
  exact h A2 ((QM.rf.f (by decide) _).tr hQ2) ht2 hw2

