/-! ===== the tape is read ===== -/
theorem lorE {c d : Nat} (h : d < 32) : (lN c <<< ((nI 5).toInt64 &&& 63)) ||| lN d = lN (c * 32 + d) := by
  apply Int64.toBitVec_inj.mp
  show (BitVec.ofNat 64 c <<< (5 : Nat)) ||| BitVec.ofNat 64 d = BitVec.ofNat 64 (c * 32 + d)
  apply BitVec.eq_of_getLsbD_eq
  intro i hi
  rw [BitVec.getLsbD_or, BitVec.getLsbD_shiftLeft, BitVec.getLsbD_ofNat, BitVec.getLsbD_ofNat, BitVec.getLsbD_ofNat]
  rw [show c * 32 + d = 2 ^ 5 * c + d by omega, Nat.testBit_two_pow_mul_add c h i]
  by_cases q : i < 5
  · simp [q, hi]
  · have hd : d.testBit i = false := Nat.testBit_lt_two_pow (Nat.lt_of_lt_of_le h (show 2 ^ 5 ≤ 2 ^ i from Nat.pow_le_pow_right (by decide) (by omega)))
    simp [q, hi, hd, show i - 5 < 64 by omega]
def TB (tp : Nat → Int32) (e : Nat) (A : AH) : Prop := e ≤ 900 ∧ (∀ i, i < e → A.1 8 i = tp i) ∧ ∀ i, i < e → isB (tp i)
theorem isLI {b : Int32} (h : isB b) (h1 : ¬ b < nI 97) (h2 : ¬ nI 122 < b) : isL (bv b) = true ∧ b = nI (bv b) := by
  rw [b_lt h (by decide)] at h1
  rw [b_gt h (by decide)] at h2
  have : bv b < 128 ∧ 97 ≤ bv b := by omega
  exact ⟨decide_eq_true (by omega), (b_eq h this.1).mpr rfl⟩
theorem isLn1 {b : Int32} (h : isB b) (h1 : b < nI 97) : isL (bv b) = false := by
  rw [b_lt h (by decide)] at h1
  have := bv_lt b
  exact decide_eq_false (by omega)
theorem isLn2 {b : Int32} (h : isB b) (h1 : nI 122 < b) : isL (bv b) = false := by
  rw [b_gt h (by decide)] at h1
  exact decide_eq_false (by omega)
theorem isDI {b : Int32} (h : isB b) (h1 : ¬ b < nI 48) (h2 : ¬ nI 57 < b) : isD (bv b) = true ∧ b = nI (bv b) := by
  rw [b_lt h (by decide)] at h1
  rw [b_gt h (by decide)] at h2
  have : bv b < 128 ∧ 48 ≤ bv b := by omega
  exact ⟨decide_eq_true (by omega), (b_eq h this.1).mpr rfl⟩
theorem isDn1 {b : Int32} (h : isB b) (h1 : b < nI 48) : isD (bv b) = false := by
  rw [b_lt h (by decide)] at h1
  have := bv_lt b
  exact decide_eq_false (by omega)
theorem isDn2 {b : Int32} (h : isB b) (h1 : nI 57 < b) : isD (bv b) = false := by
  rw [b_gt h (by decide)] at h1
  exact decide_eq_false (by omega)
theorem isL_b {v : Nat} (h : isL v = true) : 97 ≤ v ∧ v ≤ 122 := of_decide_eq_true h
theorem isD_b {v : Nat} (h : isD v = true) : 48 ≤ v ∧ v ≤ 57 := of_decide_eq_true h
abbrev gB (tp : Nat → Int32) : Nat → Nat := fun i => bv (tp i)
theorem run_at {P : Nat → Bool} {e q k : Nat} (h : q + k ≤ e) (ha : ∀ j, j < k → P (q + j) = true) (hb : q + k < e → P (q + k) = false) : run P q (e - q) = q + k := run_eq (by omega) (by omega) (fun j h1 h2 => by have := ha (j - q) (by omega); rwa [show q + (j - q) = j by omega] at this) (fun z => hb (by omega))
set_option maxRecDepth 4000 in
theorem c_X9_takeLetters {K : Option Value → AH → Prop} {A : AH} {tp : Nat → Int32} {e q : Nat} (hT : TB tp e A) (he : A.1 7 2 = nI e) (hq : A.1 7 3 = nI q) (hs : A.1 7 5 = nI q) (hqe : q ≤ e) (h : K none (upd2 (upd2 A.1 7 3 (nI (lrn (gB tp) e q))) 7 4 (nI (if lrn (gB tp) e q - q ≤ 8 then 1 else 4)), upd2 A.2 7 6 (lN (lc (gB tp) q (lrn (gB tp) e q - q))))) : Ct yX9_takeLetters mX9_takeLetters 0 dC gC [.ref 7] A K := by
  refine Ct.of [some (.ref 7)] rfl rfl rfl (Nat.le_of_ble_eq_true rfl) ?_
  have lp5 : ∀ (nf : Nat) (k : Nat), q + k ≤ e → (∀ j, j < k → isL (gB tp (q + j)) = true) → e - (q + k) < nf → WP mX9_takeLetters 0 dC gC 5 [some (.ref 7)] [] (upd2 A.1 7 3 (nI (q + k)), upd2 A.2 7 6 (lN (lc (gB tp) q k))) K := by
    intro nf
    induction nf with
    | zero => intros; omega
    | succ nf ih =>
      intro k hk ha hms
      have h900 := hT.1
      refine w_aload_n 6 dX9_takeLetters_5 rfl rfl ?_
      refine w_getiv 9 dX9_takeLetters_6 rfl faX9_20 rfl rfl rfl (v := nI (q + k)) (by dsimp only; rw [upd2_at]) ?_
      refine w_aload_n 10 dX9_takeLetters_9 rfl rfl ?_
      refine w_getiv 13 dX9_takeLetters_10 rfl faX9_17 rfl rfl rfl (v := nI e) (by dsimp only; rw [upd2_off (by decide)]; exact he) ?_
      refine w_icgeN 83 16 dX9_takeLetters_13 rfl rfl (by omega) (by omega) (fun c13 => ?_) (fun c13 => ?_)
      · skip
        have er : lrn (gB tp) e q = q + k := run_at (by omega) ha (fun z => absurd z (by omega))
        refine w_aload_n 84 dX9_takeLetters_83 rfl rfl ?_
        refine w_aload_n 85 dX9_takeLetters_84 rfl rfl ?_
        refine w_getiv 88 dX9_takeLetters_85 rfl faX9_20 rfl rfl rfl (v := nI (q + k)) (by dsimp only; rw [upd2_at]) ?_
        refine w_aload_n 89 dX9_takeLetters_88 rfl rfl ?_
        refine w_getiv 92 dX9_takeLetters_89 rfl faX9_23 rfl rfl rfl (v := nI q) (by dsimp only; rw [upd2_off (by decide)]; exact hs) ?_
        refine w_isubN 93 dX9_takeLetters_92 rfl (by omega) ?_
        refine w_bipush 95 dX9_takeLetters_93 rfl (v := nI 8) rfl ?_
        refine w_icgtN 102 98 dX9_takeLetters_95 rfl rfl (by omega) (by omega) (fun c95 => ?_) (fun c95 => ?_)
        · skip
          refine w_iconst 103 dX9_takeLetters_102 rfl (v := nI 4) rfl ?_
          refine w_puti 106 dX9_takeLetters_103 rfl faX9_26 rfl rfl rfl rfl ?_
          refine wr_v dX9_takeLetters_106 rfl ?_
          rw [er, show q + k - q = k by omega, if_neg (by omega)] at h
          exact h
        · skip
          refine w_iconst 99 dX9_takeLetters_98 rfl (v := nI 1) rfl ?_
          refine w_goto 103 dX9_takeLetters_99 rfl ?_
          refine w_puti 106 dX9_takeLetters_103 rfl faX9_26 rfl rfl rfl rfl ?_
          refine wr_v dX9_takeLetters_106 rfl ?_
          rw [er, show q + k - q = k by omega, if_pos (by omega)] at h
          exact h
      · skip
        refine w_aload_n 17 dX9_takeLetters_16 rfl rfl ?_
        refine w_getr 20 dX9_takeLetters_17 rfl faX9_9 rfl rfl rfl (r := .ref 8) rfl ?_
        refine w_aload_n 21 dX9_takeLetters_20 rfl rfl ?_
        refine w_getiv 24 dX9_takeLetters_21 rfl faX9_20 rfl rfl rfl (v := nI (q + k)) (by dsimp only; rw [upd2_at]) ?_
        have hb := hT.2.2 (q + k) (by omega)
        refine w_baldv 25 dX9_takeLetters_24 rfl rfl rfl (by decide) (by omega) (v := tp (q + k)) (by dsimp only; rw [upd2_ne (by decide)]; exact hT.2.1 _ (by omega)) ?_
        refine w_bipush 27 dX9_takeLetters_25 rfl (v := nI 97) rfl ?_
        refine w_iclt 83 30 dX9_takeLetters_27 rfl rfl (fun c27 => ?_) (fun c27 => ?_)
        · skip
          have er : lrn (gB tp) e q = q + k := run_at (by omega) ha (fun z => isLn1 hb c27)
          refine w_aload_n 84 dX9_takeLetters_83 rfl rfl ?_
          refine w_aload_n 85 dX9_takeLetters_84 rfl rfl ?_
          refine w_getiv 88 dX9_takeLetters_85 rfl faX9_20 rfl rfl rfl (v := nI (q + k)) (by dsimp only; rw [upd2_at]) ?_
          refine w_aload_n 89 dX9_takeLetters_88 rfl rfl ?_
          refine w_getiv 92 dX9_takeLetters_89 rfl faX9_23 rfl rfl rfl (v := nI q) (by dsimp only; rw [upd2_off (by decide)]; exact hs) ?_
          refine w_isubN 93 dX9_takeLetters_92 rfl (by omega) ?_
          refine w_bipush 95 dX9_takeLetters_93 rfl (v := nI 8) rfl ?_
          refine w_icgtN 102 98 dX9_takeLetters_95 rfl rfl (by omega) (by omega) (fun c95 => ?_) (fun c95 => ?_)
          · skip
            refine w_iconst 103 dX9_takeLetters_102 rfl (v := nI 4) rfl ?_
            refine w_puti 106 dX9_takeLetters_103 rfl faX9_26 rfl rfl rfl rfl ?_
            refine wr_v dX9_takeLetters_106 rfl ?_
            rw [er, show q + k - q = k by omega, if_neg (by omega)] at h
            exact h
          · skip
            refine w_iconst 99 dX9_takeLetters_98 rfl (v := nI 1) rfl ?_
            refine w_goto 103 dX9_takeLetters_99 rfl ?_
            refine w_puti 106 dX9_takeLetters_103 rfl faX9_26 rfl rfl rfl rfl ?_
            refine wr_v dX9_takeLetters_106 rfl ?_
            rw [er, show q + k - q = k by omega, if_pos (by omega)] at h
            exact h
        · skip
          refine w_aload_n 31 dX9_takeLetters_30 rfl rfl ?_
          refine w_getr 34 dX9_takeLetters_31 rfl faX9_9 rfl rfl rfl (r := .ref 8) rfl ?_
          refine w_aload_n 35 dX9_takeLetters_34 rfl rfl ?_
          refine w_getiv 38 dX9_takeLetters_35 rfl faX9_20 rfl rfl rfl (v := nI (q + k)) (by dsimp only; rw [upd2_at]) ?_
          refine w_baldv 39 dX9_takeLetters_38 rfl rfl rfl (by decide) (by omega) (v := tp (q + k)) (by dsimp only; rw [upd2_ne (by decide)]; exact hT.2.1 _ (by omega)) ?_
          refine w_bipush 41 dX9_takeLetters_39 rfl (v := nI 122) rfl ?_
          refine w_icgt 83 44 dX9_takeLetters_41 rfl rfl (fun c41 => ?_) (fun c41 => ?_)
          · skip
            have er : lrn (gB tp) e q = q + k := run_at (by omega) ha (fun z => isLn2 hb c41)
            refine w_aload_n 84 dX9_takeLetters_83 rfl rfl ?_
            refine w_aload_n 85 dX9_takeLetters_84 rfl rfl ?_
            refine w_getiv 88 dX9_takeLetters_85 rfl faX9_20 rfl rfl rfl (v := nI (q + k)) (by dsimp only; rw [upd2_at]) ?_
            refine w_aload_n 89 dX9_takeLetters_88 rfl rfl ?_
            refine w_getiv 92 dX9_takeLetters_89 rfl faX9_23 rfl rfl rfl (v := nI q) (by dsimp only; rw [upd2_off (by decide)]; exact hs) ?_
            refine w_isubN 93 dX9_takeLetters_92 rfl (by omega) ?_
            refine w_bipush 95 dX9_takeLetters_93 rfl (v := nI 8) rfl ?_
            refine w_icgtN 102 98 dX9_takeLetters_95 rfl rfl (by omega) (by omega) (fun c95 => ?_) (fun c95 => ?_)
            · skip
              refine w_iconst 103 dX9_takeLetters_102 rfl (v := nI 4) rfl ?_
              refine w_puti 106 dX9_takeLetters_103 rfl faX9_26 rfl rfl rfl rfl ?_
              refine wr_v dX9_takeLetters_106 rfl ?_
              rw [er, show q + k - q = k by omega, if_neg (by omega)] at h
              exact h
            · skip
              refine w_iconst 99 dX9_takeLetters_98 rfl (v := nI 1) rfl ?_
              refine w_goto 103 dX9_takeLetters_99 rfl ?_
              refine w_puti 106 dX9_takeLetters_103 rfl faX9_26 rfl rfl rfl rfl ?_
              refine wr_v dX9_takeLetters_106 rfl ?_
              rw [er, show q + k - q = k by omega, if_pos (by omega)] at h
              exact h
          · skip
            have hl := isLI hb c27 c41
            have hl2 : 97 ≤ gB tp (q + k) ∧ gB tp (q + k) ≤ 122 := isL_b hl.1
            refine w_aload_n 45 dX9_takeLetters_44 rfl rfl ?_
            refine w_aload_n 46 dX9_takeLetters_45 rfl rfl ?_
            refine w_getjv 49 dX9_takeLetters_46 rfl faX9_35 rfl rfl rfl (v := lN (lc (gB tp) q k)) (by dsimp only; rw [upd2_at]) ?_
            refine w_iconst 50 dX9_takeLetters_49 rfl (v := nI 5) rfl ?_
            refine w_lshl 51 dX9_takeLetters_50 rfl ?_
            refine w_aload_n 52 dX9_takeLetters_51 rfl rfl ?_
            refine w_getr 55 dX9_takeLetters_52 rfl faX9_9 rfl rfl rfl (r := .ref 8) rfl ?_
            refine w_aload_n 56 dX9_takeLetters_55 rfl rfl ?_
            refine w_getiv 59 dX9_takeLetters_56 rfl faX9_20 rfl rfl rfl (v := nI (q + k)) (by dsimp only; rw [upd2_at]) ?_
            refine w_baldv 60 dX9_takeLetters_59 rfl rfl rfl (by decide) (by omega) (v := nI (gB tp (q + k))) (by dsimp only; rw [upd2_ne (by decide), hT.2.1 _ (by omega)]; exact hl.2) ?_
            refine w_bipush 62 dX9_takeLetters_60 rfl (v := nI 97) rfl ?_
            refine w_isubN 63 dX9_takeLetters_62 rfl hl2.1 ?_
            refine w_iconst 64 dX9_takeLetters_63 rfl (v := nI 1) rfl ?_
            refine w_iaddN 65 dX9_takeLetters_64 rfl ?_
            refine w_i2lN 66 dX9_takeLetters_65 rfl (by omega) ?_
            refine w_lor 67 dX9_takeLetters_66 rfl ?_
            refine w_topl (lorE (show gB tp (q + k) - 97 + 1 < 32 by omega)) ?_
            rw [show lc (gB tp) q k * 32 + (gB tp (q + k) - 97 + 1) = lc (gB tp) q (k + 1) by show _ = lc (gB tp) q k * 32 + (gB tp (q + k) - 96); omega]
            refine w_putj 70 dX9_takeLetters_67 rfl faX9_35 rfl rfl rfl rfl ?_
            refine w_aload_n 71 dX9_takeLetters_70 rfl rfl ?_
            refine w_dup_r 72 dX9_takeLetters_71 rfl ?_
            refine w_getiv 75 dX9_takeLetters_72 rfl faX9_20 rfl rfl rfl (v := nI (q + k)) (by dsimp only; rw [upd2_at]) ?_
            refine w_iconst 76 dX9_takeLetters_75 rfl (v := nI 1) rfl ?_
            refine w_iaddN 77 dX9_takeLetters_76 rfl ?_
            refine w_puti 80 dX9_takeLetters_77 rfl faX9_20 rfl rfl rfl rfl ?_
            refine w_goto 5 dX9_takeLetters_80 rfl ?_
            refine wp_eq rfl rfl ?_ (ih (k + 1) (by omega) (fun j hj => ?_) (by omega))
            · rw [upd2_2, upd2_2]
              rfl
            · by_cases z : j = k
              · subst z; exact hl.1
              · exact ha j (by omega)
  refine w_aload_n 1 dX9_takeLetters_0 rfl rfl ?_
  refine w_lconst 2 dX9_takeLetters_1 rfl (v := lN 0) rfl ?_
  refine w_putj 5 dX9_takeLetters_2 rfl faX9_35 rfl rfl rfl rfl ?_
  refine wp_eq rfl rfl ?_ (lp5 _ 0 (by omega) (fun j hj => absurd hj (by omega)) (Nat.lt_succ_self _))
  rw [Nat.add_zero, upd2_s hq]
  rfl

set_option maxRecDepth 4000 in
theorem c_X9_takeDigits {K : Option Value → AH → Prop} {A : AH} {tp : Nat → Int32} {e q : Nat} (hT : TB tp e A) (he : A.1 7 2 = nI e) (hq : A.1 7 3 = nI q) (hs : A.1 7 5 = nI q) (hqe : q ≤ e) (h : K none (upd2 (upd2 (upd2 A.1 7 3 (nI (drn (gB tp) e q))) 7 7 (nI (dc (gB tp) q (drn (gB tp) e q - q)))) 7 4 (nI (if drn (gB tp) e q - q ≤ 3 then 2 else 4)), A.2)) : Ct yX9_takeDigits mX9_takeDigits 0 dC gC [.ref 7] A K := by
  refine Ct.of [some (.ref 7)] rfl rfl rfl (Nat.le_of_ble_eq_true rfl) ?_
  have lp5 : ∀ (nf : Nat) (k : Nat), q + k ≤ e → (∀ j, j < k → isD (gB tp (q + j)) = true) → e - (q + k) < nf → WP mX9_takeDigits 0 dC gC 5 [some (.ref 7)] [] (upd2 (upd2 A.1 7 3 (nI (q + k))) 7 7 (nI (dc (gB tp) q k)), A.2) K := by
    intro nf
    induction nf with
    | zero => intros; omega
    | succ nf ih =>
      intro k hk ha hms
      have h900 := hT.1
      refine w_aload_n 6 dX9_takeDigits_5 rfl rfl ?_
      refine w_getiv 9 dX9_takeDigits_6 rfl faX9_20 rfl rfl rfl (v := nI (q + k)) (by dsimp only; rw [upd2_off (by decide), upd2_at]) ?_
      refine w_aload_n 10 dX9_takeDigits_9 rfl rfl ?_
      refine w_getiv 13 dX9_takeDigits_10 rfl faX9_17 rfl rfl rfl (v := nI e) (by dsimp only; rw [upd2_off (by decide), upd2_off (by decide)]; exact he) ?_
      refine w_icgeN 81 16 dX9_takeDigits_13 rfl rfl (by omega) (by omega) (fun c13 => ?_) (fun c13 => ?_)
      · skip
        have er : drn (gB tp) e q = q + k := run_at (by omega) ha (fun z => absurd z (by omega))
        refine w_aload_n 82 dX9_takeDigits_81 rfl rfl ?_
        refine w_aload_n 83 dX9_takeDigits_82 rfl rfl ?_
        refine w_getiv 86 dX9_takeDigits_83 rfl faX9_20 rfl rfl rfl (v := nI (q + k)) (by dsimp only; rw [upd2_off (by decide), upd2_at]) ?_
        refine w_aload_n 87 dX9_takeDigits_86 rfl rfl ?_
        refine w_getiv 90 dX9_takeDigits_87 rfl faX9_23 rfl rfl rfl (v := nI q) (by dsimp only; rw [upd2_off (by decide), upd2_off (by decide)]; exact hs) ?_
        refine w_isubN 91 dX9_takeDigits_90 rfl (by omega) ?_
        refine w_iconst 92 dX9_takeDigits_91 rfl (v := nI 3) rfl ?_
        refine w_icgtN 99 95 dX9_takeDigits_92 rfl rfl (by omega) (by omega) (fun c92 => ?_) (fun c92 => ?_)
        · skip
          refine w_iconst 100 dX9_takeDigits_99 rfl (v := nI 4) rfl ?_
          refine w_puti 103 dX9_takeDigits_100 rfl faX9_26 rfl rfl rfl rfl ?_
          refine wr_v dX9_takeDigits_103 rfl ?_
          rw [er, show q + k - q = k by omega, if_neg (by omega)] at h
          exact h
        · skip
          refine w_iconst 96 dX9_takeDigits_95 rfl (v := nI 2) rfl ?_
          refine w_goto 100 dX9_takeDigits_96 rfl ?_
          refine w_puti 103 dX9_takeDigits_100 rfl faX9_26 rfl rfl rfl rfl ?_
          refine wr_v dX9_takeDigits_103 rfl ?_
          rw [er, show q + k - q = k by omega, if_pos (by omega)] at h
          exact h
      · skip
        refine w_aload_n 17 dX9_takeDigits_16 rfl rfl ?_
        refine w_getr 20 dX9_takeDigits_17 rfl faX9_9 rfl rfl rfl (r := .ref 8) rfl ?_
        refine w_aload_n 21 dX9_takeDigits_20 rfl rfl ?_
        refine w_getiv 24 dX9_takeDigits_21 rfl faX9_20 rfl rfl rfl (v := nI (q + k)) (by dsimp only; rw [upd2_off (by decide), upd2_at]) ?_
        have hb := hT.2.2 (q + k) (by omega)
        refine w_baldv 25 dX9_takeDigits_24 rfl rfl rfl (by decide) (by omega) (v := tp (q + k)) (by dsimp only; rw [upd2_ne (by decide), upd2_ne (by decide)]; exact hT.2.1 _ (by omega)) ?_
        refine w_bipush 27 dX9_takeDigits_25 rfl (v := nI 48) rfl ?_
        refine w_iclt 81 30 dX9_takeDigits_27 rfl rfl (fun c27 => ?_) (fun c27 => ?_)
        · skip
          have er : drn (gB tp) e q = q + k := run_at (by omega) ha (fun z => isDn1 hb c27)
          refine w_aload_n 82 dX9_takeDigits_81 rfl rfl ?_
          refine w_aload_n 83 dX9_takeDigits_82 rfl rfl ?_
          refine w_getiv 86 dX9_takeDigits_83 rfl faX9_20 rfl rfl rfl (v := nI (q + k)) (by dsimp only; rw [upd2_off (by decide), upd2_at]) ?_
          refine w_aload_n 87 dX9_takeDigits_86 rfl rfl ?_
          refine w_getiv 90 dX9_takeDigits_87 rfl faX9_23 rfl rfl rfl (v := nI q) (by dsimp only; rw [upd2_off (by decide), upd2_off (by decide)]; exact hs) ?_
          refine w_isubN 91 dX9_takeDigits_90 rfl (by omega) ?_
          refine w_iconst 92 dX9_takeDigits_91 rfl (v := nI 3) rfl ?_
          refine w_icgtN 99 95 dX9_takeDigits_92 rfl rfl (by omega) (by omega) (fun c92 => ?_) (fun c92 => ?_)
          · skip
            refine w_iconst 100 dX9_takeDigits_99 rfl (v := nI 4) rfl ?_
            refine w_puti 103 dX9_takeDigits_100 rfl faX9_26 rfl rfl rfl rfl ?_
            refine wr_v dX9_takeDigits_103 rfl ?_
            rw [er, show q + k - q = k by omega, if_neg (by omega)] at h
            exact h
          · skip
            refine w_iconst 96 dX9_takeDigits_95 rfl (v := nI 2) rfl ?_
            refine w_goto 100 dX9_takeDigits_96 rfl ?_
            refine w_puti 103 dX9_takeDigits_100 rfl faX9_26 rfl rfl rfl rfl ?_
            refine wr_v dX9_takeDigits_103 rfl ?_
            rw [er, show q + k - q = k by omega, if_pos (by omega)] at h
            exact h
        · skip
          refine w_aload_n 31 dX9_takeDigits_30 rfl rfl ?_
          refine w_getr 34 dX9_takeDigits_31 rfl faX9_9 rfl rfl rfl (r := .ref 8) rfl ?_
          refine w_aload_n 35 dX9_takeDigits_34 rfl rfl ?_
          refine w_getiv 38 dX9_takeDigits_35 rfl faX9_20 rfl rfl rfl (v := nI (q + k)) (by dsimp only; rw [upd2_off (by decide), upd2_at]) ?_
          refine w_baldv 39 dX9_takeDigits_38 rfl rfl rfl (by decide) (by omega) (v := tp (q + k)) (by dsimp only; rw [upd2_ne (by decide), upd2_ne (by decide)]; exact hT.2.1 _ (by omega)) ?_
          refine w_bipush 41 dX9_takeDigits_39 rfl (v := nI 57) rfl ?_
          refine w_icgt 81 44 dX9_takeDigits_41 rfl rfl (fun c41 => ?_) (fun c41 => ?_)
          · skip
            have er : drn (gB tp) e q = q + k := run_at (by omega) ha (fun z => isDn2 hb c41)
            refine w_aload_n 82 dX9_takeDigits_81 rfl rfl ?_
            refine w_aload_n 83 dX9_takeDigits_82 rfl rfl ?_
            refine w_getiv 86 dX9_takeDigits_83 rfl faX9_20 rfl rfl rfl (v := nI (q + k)) (by dsimp only; rw [upd2_off (by decide), upd2_at]) ?_
            refine w_aload_n 87 dX9_takeDigits_86 rfl rfl ?_
            refine w_getiv 90 dX9_takeDigits_87 rfl faX9_23 rfl rfl rfl (v := nI q) (by dsimp only; rw [upd2_off (by decide), upd2_off (by decide)]; exact hs) ?_
            refine w_isubN 91 dX9_takeDigits_90 rfl (by omega) ?_
            refine w_iconst 92 dX9_takeDigits_91 rfl (v := nI 3) rfl ?_
            refine w_icgtN 99 95 dX9_takeDigits_92 rfl rfl (by omega) (by omega) (fun c92 => ?_) (fun c92 => ?_)
            · skip
              refine w_iconst 100 dX9_takeDigits_99 rfl (v := nI 4) rfl ?_
              refine w_puti 103 dX9_takeDigits_100 rfl faX9_26 rfl rfl rfl rfl ?_
              refine wr_v dX9_takeDigits_103 rfl ?_
              rw [er, show q + k - q = k by omega, if_neg (by omega)] at h
              exact h
            · skip
              refine w_iconst 96 dX9_takeDigits_95 rfl (v := nI 2) rfl ?_
              refine w_goto 100 dX9_takeDigits_96 rfl ?_
              refine w_puti 103 dX9_takeDigits_100 rfl faX9_26 rfl rfl rfl rfl ?_
              refine wr_v dX9_takeDigits_103 rfl ?_
              rw [er, show q + k - q = k by omega, if_pos (by omega)] at h
              exact h
          · skip
            have hl := isDI hb c27 c41
            have hl2 : 48 ≤ gB tp (q + k) ∧ gB tp (q + k) ≤ 57 := isD_b hl.1
            refine w_aload_n 45 dX9_takeDigits_44 rfl rfl ?_
            refine w_aload_n 46 dX9_takeDigits_45 rfl rfl ?_
            refine w_getiv 49 dX9_takeDigits_46 rfl faX9_39 rfl rfl rfl (v := nI (dc (gB tp) q k)) (by dsimp only; rw [upd2_at]) ?_
            refine w_bipush 51 dX9_takeDigits_49 rfl (v := nI 10) rfl ?_
            refine w_imulN 52 dX9_takeDigits_51 rfl ?_
            refine w_aload_n 53 dX9_takeDigits_52 rfl rfl ?_
            refine w_getr 56 dX9_takeDigits_53 rfl faX9_9 rfl rfl rfl (r := .ref 8) rfl ?_
            refine w_aload_n 57 dX9_takeDigits_56 rfl rfl ?_
            refine w_getiv 60 dX9_takeDigits_57 rfl faX9_20 rfl rfl rfl (v := nI (q + k)) (by dsimp only; rw [upd2_off (by decide), upd2_at]) ?_
            refine w_baldv 61 dX9_takeDigits_60 rfl rfl rfl (by decide) (by omega) (v := nI (gB tp (q + k))) (by dsimp only; rw [upd2_ne (by decide), upd2_ne (by decide), hT.2.1 _ (by omega)]; exact hl.2) ?_
            refine w_iaddN 62 dX9_takeDigits_61 rfl ?_
            refine w_bipush 64 dX9_takeDigits_62 rfl (v := nI 48) rfl ?_
            refine w_isubN 65 dX9_takeDigits_64 rfl (by omega) ?_
            rw [show dc (gB tp) q k * 10 + gB tp (q + k) - 48 = dc (gB tp) q (k + 1) by show _ = dc (gB tp) q k * 10 + (gB tp (q + k) - 48); omega]
            refine w_puti 68 dX9_takeDigits_65 rfl faX9_39 rfl rfl rfl rfl ?_
            refine w_aload_n 69 dX9_takeDigits_68 rfl rfl ?_
            refine w_dup_r 70 dX9_takeDigits_69 rfl ?_
            refine w_getiv 73 dX9_takeDigits_70 rfl faX9_20 rfl rfl rfl (v := nI (q + k)) (by dsimp only; rw [upd2_off (by decide), upd2_off (by decide), upd2_at]) ?_
            refine w_iconst 74 dX9_takeDigits_73 rfl (v := nI 1) rfl ?_
            refine w_iaddN 75 dX9_takeDigits_74 rfl ?_
            refine w_puti 78 dX9_takeDigits_75 rfl faX9_20 rfl rfl rfl rfl ?_
            refine w_goto 5 dX9_takeDigits_78 rfl ?_
            refine wp_eq rfl rfl ?_ (ih (k + 1) (by omega) (fun j hj => ?_) (by omega))
            · rw [upd2_2, upd2_c (by decide), upd2_2]
              rfl
            · by_cases z : j = k
              · subst z; exact hl.1
              · exact ha j (by omega)
  refine w_aload_n 1 dX9_takeDigits_0 rfl rfl ?_
  refine w_iconst 2 dX9_takeDigits_1 rfl (v := nI 0) rfl ?_
  refine w_puti 5 dX9_takeDigits_2 rfl faX9_39 rfl rfl rfl rfl ?_
  refine wp_eq rfl rfl ?_ (lp5 _ 0 (by omega) (fun j hj => absurd hj (by omega)) (Nat.lt_succ_self _))
  rw [Nat.add_zero, upd2_s hq]
  rfl

theorem tk_end {g : Nat → Nat} {e p q : Nat} (hS : tkS g e p = q) (h : e ≤ q) : tkK g e p = 0 ∧ tkE g e p = q := by
  unfold tkK tkE
  rw [hS, if_pos h, if_pos h]
  exact ⟨rfl, rfl⟩
theorem tk_let {g : Nat → Nat} {e p q : Nat} (hS : tkS g e p = q) (h : ¬ e ≤ q) (hl : isL (g q) = true) : tkK g e p = (if lrn g e q - q ≤ 8 then 1 else 4) ∧ tkE g e p = lrn g e q ∧ tkC g e p = lc g q (lrn g e q - q) := by
  unfold tkK tkE tkC
  rw [hS, if_neg h, if_neg h, if_pos hl, if_pos hl]
  exact ⟨rfl, rfl, rfl⟩
theorem tk_dig {g : Nat → Nat} {e p q : Nat} (hS : tkS g e p = q) (h : ¬ e ≤ q) (hl : isL (g q) = false) (hd : isD (g q) = true) : tkK g e p = (if drn g e q - q ≤ 3 then 2 else 4) ∧ tkE g e p = drn g e q ∧ tkV g e p = dc g q (drn g e q - q) := by
  unfold tkK tkE tkV
  rw [hS]
  simp [h, hl, hd]
theorem tk_oth {g : Nat → Nat} {e p q : Nat} (hS : tkS g e p = q) (h : ¬ e ≤ q) (hl : isL (g q) = false) (hd : isD (g q) = false) : tkK g e p = (if g q = 59 then 3 else 4) ∧ tkE g e p = q + 1 := by
  unfold tkK tkE
  rw [hS]
  simp [h, hl, hd]
/-- the token behind place p is read -/
def TK (tp : Nat → Int32) (e p : Nat) (A : AH) : Prop := A.1 7 2 = nI e ∧ A.1 7 3 = nI (tkE (gB tp) e p) ∧ A.1 7 4 = nI (tkK (gB tp) e p) ∧ A.1 7 5 = nI (tkS (gB tp) e p) ∧ (tkK (gB tp) e p = 1 → A.2 7 6 = lN (tkC (gB tp) e p)) ∧ (tkK (gB tp) e p = 2 → A.1 7 7 = nI (tkV (gB tp) e p))
def OffT (A A' : AH) : Prop := OffL [7] A A' ∧ A'.1 7 1 = A.1 7 1
theorem TB.cong {tp : Nat → Int32} {e : Nat} {A A' : AH} (h : TB tp e A) (h8 : A'.1 8 = A.1 8) : TB tp e A' := ⟨h.1, fun i hi => by rw [h8]; exact h.2.1 i hi, h.2.2⟩
set_option maxRecDepth 4000 in
theorem a_X9_advance {K : Option Value → AH → Prop} {A : AH} {tp : Nat → Int32} {e p q : Nat} (hT : TB tp e A) (he : A.1 7 2 = nI e) (hq : A.1 7 3 = nI q) (hqe : q ≤ e) (hS : tkS (gB tp) e p = q) (h : ∀ A', TK tp e p A' → OffT A A' → K none A') : WP mX9_advance 1 dC gC 38 [some (.ref 7)] [] A K := by
  have h900 := hT.1
  refine w_aload_n 39 dX9_advance_38 rfl rfl ?_
  refine w_aload_n 40 dX9_advance_39 rfl rfl ?_
  refine w_getiv 43 dX9_advance_40 rfl faX9_20 rfl rfl rfl hq ?_
  refine w_puti 46 dX9_advance_43 rfl faX9_23 rfl rfl rfl rfl ?_
  refine w_aload_n 47 dX9_advance_46 rfl rfl ?_
  refine w_getiv 50 dX9_advance_47 rfl faX9_20 rfl rfl rfl (v := nI q) (by dsimp only; rw [upd2_off (by decide)]; exact hq) ?_
  refine w_aload_n 51 dX9_advance_50 rfl rfl ?_
  refine w_getiv 54 dX9_advance_51 rfl faX9_17 rfl rfl rfl (v := nI e) (by dsimp only; rw [upd2_off (by decide)]; exact he) ?_
  refine w_icltN 65 57 dX9_advance_54 rfl rfl (by omega) (by omega) (fun c54 => ?_) (fun c54 => ?_)
  · skip
    have hb := hT.2.2 q (by omega)
    have hqn : ¬ e ≤ q := by omega
    refine w_aload_n 66 dX9_advance_65 rfl rfl ?_
    refine w_getr 69 dX9_advance_66 rfl faX9_9 rfl rfl rfl (r := .ref 8) rfl ?_
    refine w_aload_n 70 dX9_advance_69 rfl rfl ?_
    refine w_getiv 73 dX9_advance_70 rfl faX9_20 rfl rfl rfl (v := nI q) (by dsimp only; rw [upd2_off (by decide)]; exact hq) ?_
    refine w_baldv 74 dX9_advance_73 rfl rfl rfl (by decide) (by omega) (v := tp q) (by dsimp only; rw [upd2_ne (by decide)]; exact hT.2.1 _ (by omega)) ?_
    refine w_bipush 76 dX9_advance_74 rfl (v := nI 97) rfl ?_
    refine w_iclt 100 79 dX9_advance_76 rfl rfl (fun c76 => ?_) (fun c76 => ?_)
    · skip
      have hnl := isLn1 hb c76
      refine w_aload_n 101 dX9_advance_100 rfl rfl ?_
      refine w_getr 104 dX9_advance_101 rfl faX9_9 rfl rfl rfl (r := .ref 8) rfl ?_
      refine w_aload_n 105 dX9_advance_104 rfl rfl ?_
      refine w_getiv 108 dX9_advance_105 rfl faX9_20 rfl rfl rfl (v := nI q) (by dsimp only; rw [upd2_off (by decide)]; exact hq) ?_
      refine w_baldv 109 dX9_advance_108 rfl rfl rfl (by decide) (by omega) (v := tp q) (by dsimp only; rw [upd2_ne (by decide)]; exact hT.2.1 _ (by omega)) ?_
      refine w_bipush 111 dX9_advance_109 rfl (v := nI 48) rfl ?_
      refine w_iclt 135 114 dX9_advance_111 rfl rfl (fun c111 => ?_) (fun c111 => ?_)
      · skip
        have hnd := isDn1 hb c111
        refine w_aload_n 136 dX9_advance_135 rfl rfl ?_
        refine w_aload_n 137 dX9_advance_136 rfl rfl ?_
        refine w_getr 140 dX9_advance_137 rfl faX9_9 rfl rfl rfl (r := .ref 8) rfl ?_
        refine w_aload_n 141 dX9_advance_140 rfl rfl ?_
        refine w_getiv 144 dX9_advance_141 rfl faX9_20 rfl rfl rfl (v := nI q) (by dsimp only; rw [upd2_off (by decide)]; exact hq) ?_
        refine w_baldv 145 dX9_advance_144 rfl rfl rfl (by decide) (by omega) (v := tp q) (by dsimp only; rw [upd2_ne (by decide)]; exact hT.2.1 _ (by omega)) ?_
        refine w_bipush 147 dX9_advance_145 rfl (v := nI 59) rfl ?_
        refine w_icne 154 150 dX9_advance_147 rfl rfl (fun c147 => ?_) (fun c147 => ?_)
        · skip
          refine w_iconst 155 dX9_advance_154 rfl (v := nI 4) rfl ?_
          refine w_puti 158 dX9_advance_155 rfl faX9_26 rfl rfl rfl rfl ?_
          refine w_aload_n 159 dX9_advance_158 rfl rfl ?_
          refine w_dup_r 160 dX9_advance_159 rfl ?_
          refine w_getiv 163 dX9_advance_160 rfl faX9_20 rfl rfl rfl (v := nI q) (by dsimp only; rw [upd2_off (by decide), upd2_off (by decide)]; exact hq) ?_
          refine w_iconst 164 dX9_advance_163 rfl (v := nI 1) rfl ?_
          refine w_iaddN 165 dX9_advance_164 rfl ?_
          refine w_puti 168 dX9_advance_165 rfl faX9_20 rfl rfl rfl rfl ?_
          refine wr_v dX9_advance_168 rfl ?_
          have t := tk_oth hS hqn hnl hnd
          rw [if_neg (fun z => c147 ((b_eq hb (by decide)).mpr z))] at t
          refine h _ ⟨by simp [upd2, he], by rw [t.2]; simp [upd2], by rw [t.1]; simp [upd2], by rw [hS]; simp [upd2], fun z => ?_, fun z => ?_⟩ ⟨fun x hx => by simp at hx; simp [upd2_ne hx], by simp [upd2]⟩
          · rw [t.1] at z; omega
          · rw [t.1] at z; omega
        · skip
          refine w_iconst 151 dX9_advance_150 rfl (v := nI 3) rfl ?_
          refine w_goto 155 dX9_advance_151 rfl ?_
          refine w_puti 158 dX9_advance_155 rfl faX9_26 rfl rfl rfl rfl ?_
          refine w_aload_n 159 dX9_advance_158 rfl rfl ?_
          refine w_dup_r 160 dX9_advance_159 rfl ?_
          refine w_getiv 163 dX9_advance_160 rfl faX9_20 rfl rfl rfl (v := nI q) (by dsimp only; rw [upd2_off (by decide), upd2_off (by decide)]; exact hq) ?_
          refine w_iconst 164 dX9_advance_163 rfl (v := nI 1) rfl ?_
          refine w_iaddN 165 dX9_advance_164 rfl ?_
          refine w_puti 168 dX9_advance_165 rfl faX9_20 rfl rfl rfl rfl ?_
          refine wr_v dX9_advance_168 rfl ?_
          have t := tk_oth hS hqn hnl hnd
          rw [if_pos ((b_eq hb (by decide)).mp c147)] at t
          refine h _ ⟨by simp [upd2, he], by rw [t.2]; simp [upd2], by rw [t.1]; simp [upd2], by rw [hS]; simp [upd2], fun z => ?_, fun z => ?_⟩ ⟨fun x hx => by simp at hx; simp [upd2_ne hx], by simp [upd2]⟩
          · rw [t.1] at z; omega
          · rw [t.1] at z; omega
      · skip
        refine w_aload_n 115 dX9_advance_114 rfl rfl ?_
        refine w_getr 118 dX9_advance_115 rfl faX9_9 rfl rfl rfl (r := .ref 8) rfl ?_
        refine w_aload_n 119 dX9_advance_118 rfl rfl ?_
        refine w_getiv 122 dX9_advance_119 rfl faX9_20 rfl rfl rfl (v := nI q) (by dsimp only; rw [upd2_off (by decide)]; exact hq) ?_
        refine w_baldv 123 dX9_advance_122 rfl rfl rfl (by decide) (by omega) (v := tp q) (by dsimp only; rw [upd2_ne (by decide)]; exact hT.2.1 _ (by omega)) ?_
        refine w_bipush 125 dX9_advance_123 rfl (v := nI 57) rfl ?_
        refine w_icgt 135 128 dX9_advance_125 rfl rfl (fun c125 => ?_) (fun c125 => ?_)
        · skip
          have hnd := isDn2 hb c125
          refine w_aload_n 136 dX9_advance_135 rfl rfl ?_
          refine w_aload_n 137 dX9_advance_136 rfl rfl ?_
          refine w_getr 140 dX9_advance_137 rfl faX9_9 rfl rfl rfl (r := .ref 8) rfl ?_
          refine w_aload_n 141 dX9_advance_140 rfl rfl ?_
          refine w_getiv 144 dX9_advance_141 rfl faX9_20 rfl rfl rfl (v := nI q) (by dsimp only; rw [upd2_off (by decide)]; exact hq) ?_
          refine w_baldv 145 dX9_advance_144 rfl rfl rfl (by decide) (by omega) (v := tp q) (by dsimp only; rw [upd2_ne (by decide)]; exact hT.2.1 _ (by omega)) ?_
          refine w_bipush 147 dX9_advance_145 rfl (v := nI 59) rfl ?_
          refine w_icne 154 150 dX9_advance_147 rfl rfl (fun c147 => ?_) (fun c147 => ?_)
          · skip
            refine w_iconst 155 dX9_advance_154 rfl (v := nI 4) rfl ?_
            refine w_puti 158 dX9_advance_155 rfl faX9_26 rfl rfl rfl rfl ?_
            refine w_aload_n 159 dX9_advance_158 rfl rfl ?_
            refine w_dup_r 160 dX9_advance_159 rfl ?_
            refine w_getiv 163 dX9_advance_160 rfl faX9_20 rfl rfl rfl (v := nI q) (by dsimp only; rw [upd2_off (by decide), upd2_off (by decide)]; exact hq) ?_
            refine w_iconst 164 dX9_advance_163 rfl (v := nI 1) rfl ?_
            refine w_iaddN 165 dX9_advance_164 rfl ?_
            refine w_puti 168 dX9_advance_165 rfl faX9_20 rfl rfl rfl rfl ?_
            refine wr_v dX9_advance_168 rfl ?_
            have t := tk_oth hS hqn hnl hnd
            rw [if_neg (fun z => c147 ((b_eq hb (by decide)).mpr z))] at t
            refine h _ ⟨by simp [upd2, he], by rw [t.2]; simp [upd2], by rw [t.1]; simp [upd2], by rw [hS]; simp [upd2], fun z => ?_, fun z => ?_⟩ ⟨fun x hx => by simp at hx; simp [upd2_ne hx], by simp [upd2]⟩
            · rw [t.1] at z; omega
            · rw [t.1] at z; omega
          · skip
            refine w_iconst 151 dX9_advance_150 rfl (v := nI 3) rfl ?_
            refine w_goto 155 dX9_advance_151 rfl ?_
            refine w_puti 158 dX9_advance_155 rfl faX9_26 rfl rfl rfl rfl ?_
            refine w_aload_n 159 dX9_advance_158 rfl rfl ?_
            refine w_dup_r 160 dX9_advance_159 rfl ?_
            refine w_getiv 163 dX9_advance_160 rfl faX9_20 rfl rfl rfl (v := nI q) (by dsimp only; rw [upd2_off (by decide), upd2_off (by decide)]; exact hq) ?_
            refine w_iconst 164 dX9_advance_163 rfl (v := nI 1) rfl ?_
            refine w_iaddN 165 dX9_advance_164 rfl ?_
            refine w_puti 168 dX9_advance_165 rfl faX9_20 rfl rfl rfl rfl ?_
            refine wr_v dX9_advance_168 rfl ?_
            have t := tk_oth hS hqn hnl hnd
            rw [if_pos ((b_eq hb (by decide)).mp c147)] at t
            refine h _ ⟨by simp [upd2, he], by rw [t.2]; simp [upd2], by rw [t.1]; simp [upd2], by rw [hS]; simp [upd2], fun z => ?_, fun z => ?_⟩ ⟨fun x hx => by simp at hx; simp [upd2_ne hx], by simp [upd2]⟩
            · rw [t.1] at z; omega
            · rw [t.1] at z; omega
        · skip
          refine w_aload_n 129 dX9_advance_128 rfl rfl ?_
          have hd := isDI hb c111 c125
          refine w_inv0 132 dX9_advance_129 rfl mlX9_32 rfl rfl (d' := 0) (by decide) (Nat.le_of_ble_eq_true rfl) (c_X9_takeDigits (hT.cong (by dsimp only; rw [upd2_ne (by decide)])) (e := e) (q := q) (by dsimp only; rw [upd2_off (by decide)]; exact he) (by dsimp only; rw [upd2_off (by decide)]; exact hq) (by dsimp only; rw [upd2_at]) hqe ?_)
          refine w_goto 168 dX9_advance_132 rfl ?_
          refine wr_v dX9_advance_168 rfl ?_
          have t := tk_dig hS hqn hnl hd.1
          refine h _ ⟨by simp [upd2, he], by rw [t.2.1]; simp [upd2], by rw [t.1]; simp [upd2], by rw [hS]; simp [upd2], fun z => ?_, fun z => ?_⟩ ⟨fun x hx => by simp at hx; simp [upd2_ne hx], by simp [upd2]⟩
          · rw [t.1] at z; split at z <;> omega
          · rw [t.2.2]; simp [upd2]
    · skip
      refine w_aload_n 80 dX9_advance_79 rfl rfl ?_
      refine w_getr 83 dX9_advance_80 rfl faX9_9 rfl rfl rfl (r := .ref 8) rfl ?_
      refine w_aload_n 84 dX9_advance_83 rfl rfl ?_
      refine w_getiv 87 dX9_advance_84 rfl faX9_20 rfl rfl rfl (v := nI q) (by dsimp only; rw [upd2_off (by decide)]; exact hq) ?_
      refine w_baldv 88 dX9_advance_87 rfl rfl rfl (by decide) (by omega) (v := tp q) (by dsimp only; rw [upd2_ne (by decide)]; exact hT.2.1 _ (by omega)) ?_
      refine w_bipush 90 dX9_advance_88 rfl (v := nI 122) rfl ?_
      refine w_icgt 100 93 dX9_advance_90 rfl rfl (fun c90 => ?_) (fun c90 => ?_)
      · skip
        have hnl := isLn2 hb c90
        refine w_aload_n 101 dX9_advance_100 rfl rfl ?_
        refine w_getr 104 dX9_advance_101 rfl faX9_9 rfl rfl rfl (r := .ref 8) rfl ?_
        refine w_aload_n 105 dX9_advance_104 rfl rfl ?_
        refine w_getiv 108 dX9_advance_105 rfl faX9_20 rfl rfl rfl (v := nI q) (by dsimp only; rw [upd2_off (by decide)]; exact hq) ?_
        refine w_baldv 109 dX9_advance_108 rfl rfl rfl (by decide) (by omega) (v := tp q) (by dsimp only; rw [upd2_ne (by decide)]; exact hT.2.1 _ (by omega)) ?_
        refine w_bipush 111 dX9_advance_109 rfl (v := nI 48) rfl ?_
        refine w_iclt 135 114 dX9_advance_111 rfl rfl (fun c111 => ?_) (fun c111 => ?_)
        · skip
          have hnd := isDn1 hb c111
          refine w_aload_n 136 dX9_advance_135 rfl rfl ?_
          refine w_aload_n 137 dX9_advance_136 rfl rfl ?_
          refine w_getr 140 dX9_advance_137 rfl faX9_9 rfl rfl rfl (r := .ref 8) rfl ?_
          refine w_aload_n 141 dX9_advance_140 rfl rfl ?_
          refine w_getiv 144 dX9_advance_141 rfl faX9_20 rfl rfl rfl (v := nI q) (by dsimp only; rw [upd2_off (by decide)]; exact hq) ?_
          refine w_baldv 145 dX9_advance_144 rfl rfl rfl (by decide) (by omega) (v := tp q) (by dsimp only; rw [upd2_ne (by decide)]; exact hT.2.1 _ (by omega)) ?_
          refine w_bipush 147 dX9_advance_145 rfl (v := nI 59) rfl ?_
          refine w_icne 154 150 dX9_advance_147 rfl rfl (fun c147 => ?_) (fun c147 => ?_)
          · skip
            refine w_iconst 155 dX9_advance_154 rfl (v := nI 4) rfl ?_
            refine w_puti 158 dX9_advance_155 rfl faX9_26 rfl rfl rfl rfl ?_
            refine w_aload_n 159 dX9_advance_158 rfl rfl ?_
            refine w_dup_r 160 dX9_advance_159 rfl ?_
            refine w_getiv 163 dX9_advance_160 rfl faX9_20 rfl rfl rfl (v := nI q) (by dsimp only; rw [upd2_off (by decide), upd2_off (by decide)]; exact hq) ?_
            refine w_iconst 164 dX9_advance_163 rfl (v := nI 1) rfl ?_
            refine w_iaddN 165 dX9_advance_164 rfl ?_
            refine w_puti 168 dX9_advance_165 rfl faX9_20 rfl rfl rfl rfl ?_
            refine wr_v dX9_advance_168 rfl ?_
            have t := tk_oth hS hqn hnl hnd
            rw [if_neg (fun z => c147 ((b_eq hb (by decide)).mpr z))] at t
            refine h _ ⟨by simp [upd2, he], by rw [t.2]; simp [upd2], by rw [t.1]; simp [upd2], by rw [hS]; simp [upd2], fun z => ?_, fun z => ?_⟩ ⟨fun x hx => by simp at hx; simp [upd2_ne hx], by simp [upd2]⟩
            · rw [t.1] at z; omega
            · rw [t.1] at z; omega
          · skip
            refine w_iconst 151 dX9_advance_150 rfl (v := nI 3) rfl ?_
            refine w_goto 155 dX9_advance_151 rfl ?_
            refine w_puti 158 dX9_advance_155 rfl faX9_26 rfl rfl rfl rfl ?_
            refine w_aload_n 159 dX9_advance_158 rfl rfl ?_
            refine w_dup_r 160 dX9_advance_159 rfl ?_
            refine w_getiv 163 dX9_advance_160 rfl faX9_20 rfl rfl rfl (v := nI q) (by dsimp only; rw [upd2_off (by decide), upd2_off (by decide)]; exact hq) ?_
            refine w_iconst 164 dX9_advance_163 rfl (v := nI 1) rfl ?_
            refine w_iaddN 165 dX9_advance_164 rfl ?_
            refine w_puti 168 dX9_advance_165 rfl faX9_20 rfl rfl rfl rfl ?_
            refine wr_v dX9_advance_168 rfl ?_
            have t := tk_oth hS hqn hnl hnd
            rw [if_pos ((b_eq hb (by decide)).mp c147)] at t
            refine h _ ⟨by simp [upd2, he], by rw [t.2]; simp [upd2], by rw [t.1]; simp [upd2], by rw [hS]; simp [upd2], fun z => ?_, fun z => ?_⟩ ⟨fun x hx => by simp at hx; simp [upd2_ne hx], by simp [upd2]⟩
            · rw [t.1] at z; omega
            · rw [t.1] at z; omega
        · skip
          refine w_aload_n 115 dX9_advance_114 rfl rfl ?_
          refine w_getr 118 dX9_advance_115 rfl faX9_9 rfl rfl rfl (r := .ref 8) rfl ?_
          refine w_aload_n 119 dX9_advance_118 rfl rfl ?_
          refine w_getiv 122 dX9_advance_119 rfl faX9_20 rfl rfl rfl (v := nI q) (by dsimp only; rw [upd2_off (by decide)]; exact hq) ?_
          refine w_baldv 123 dX9_advance_122 rfl rfl rfl (by decide) (by omega) (v := tp q) (by dsimp only; rw [upd2_ne (by decide)]; exact hT.2.1 _ (by omega)) ?_
          refine w_bipush 125 dX9_advance_123 rfl (v := nI 57) rfl ?_
          refine w_icgt 135 128 dX9_advance_125 rfl rfl (fun c125 => ?_) (fun c125 => ?_)
          · skip
            have hnd := isDn2 hb c125
            refine w_aload_n 136 dX9_advance_135 rfl rfl ?_
            refine w_aload_n 137 dX9_advance_136 rfl rfl ?_
            refine w_getr 140 dX9_advance_137 rfl faX9_9 rfl rfl rfl (r := .ref 8) rfl ?_
            refine w_aload_n 141 dX9_advance_140 rfl rfl ?_
            refine w_getiv 144 dX9_advance_141 rfl faX9_20 rfl rfl rfl (v := nI q) (by dsimp only; rw [upd2_off (by decide)]; exact hq) ?_
            refine w_baldv 145 dX9_advance_144 rfl rfl rfl (by decide) (by omega) (v := tp q) (by dsimp only; rw [upd2_ne (by decide)]; exact hT.2.1 _ (by omega)) ?_
            refine w_bipush 147 dX9_advance_145 rfl (v := nI 59) rfl ?_
            refine w_icne 154 150 dX9_advance_147 rfl rfl (fun c147 => ?_) (fun c147 => ?_)
            · skip
              refine w_iconst 155 dX9_advance_154 rfl (v := nI 4) rfl ?_
              refine w_puti 158 dX9_advance_155 rfl faX9_26 rfl rfl rfl rfl ?_
              refine w_aload_n 159 dX9_advance_158 rfl rfl ?_
              refine w_dup_r 160 dX9_advance_159 rfl ?_
              refine w_getiv 163 dX9_advance_160 rfl faX9_20 rfl rfl rfl (v := nI q) (by dsimp only; rw [upd2_off (by decide), upd2_off (by decide)]; exact hq) ?_
              refine w_iconst 164 dX9_advance_163 rfl (v := nI 1) rfl ?_
              refine w_iaddN 165 dX9_advance_164 rfl ?_
              refine w_puti 168 dX9_advance_165 rfl faX9_20 rfl rfl rfl rfl ?_
              refine wr_v dX9_advance_168 rfl ?_
              have t := tk_oth hS hqn hnl hnd
              rw [if_neg (fun z => c147 ((b_eq hb (by decide)).mpr z))] at t
              refine h _ ⟨by simp [upd2, he], by rw [t.2]; simp [upd2], by rw [t.1]; simp [upd2], by rw [hS]; simp [upd2], fun z => ?_, fun z => ?_⟩ ⟨fun x hx => by simp at hx; simp [upd2_ne hx], by simp [upd2]⟩
              · rw [t.1] at z; omega
              · rw [t.1] at z; omega
            · skip
              refine w_iconst 151 dX9_advance_150 rfl (v := nI 3) rfl ?_
              refine w_goto 155 dX9_advance_151 rfl ?_
              refine w_puti 158 dX9_advance_155 rfl faX9_26 rfl rfl rfl rfl ?_
              refine w_aload_n 159 dX9_advance_158 rfl rfl ?_
              refine w_dup_r 160 dX9_advance_159 rfl ?_
              refine w_getiv 163 dX9_advance_160 rfl faX9_20 rfl rfl rfl (v := nI q) (by dsimp only; rw [upd2_off (by decide), upd2_off (by decide)]; exact hq) ?_
              refine w_iconst 164 dX9_advance_163 rfl (v := nI 1) rfl ?_
              refine w_iaddN 165 dX9_advance_164 rfl ?_
              refine w_puti 168 dX9_advance_165 rfl faX9_20 rfl rfl rfl rfl ?_
              refine wr_v dX9_advance_168 rfl ?_
              have t := tk_oth hS hqn hnl hnd
              rw [if_pos ((b_eq hb (by decide)).mp c147)] at t
              refine h _ ⟨by simp [upd2, he], by rw [t.2]; simp [upd2], by rw [t.1]; simp [upd2], by rw [hS]; simp [upd2], fun z => ?_, fun z => ?_⟩ ⟨fun x hx => by simp at hx; simp [upd2_ne hx], by simp [upd2]⟩
              · rw [t.1] at z; omega
              · rw [t.1] at z; omega
          · skip
            refine w_aload_n 129 dX9_advance_128 rfl rfl ?_
            have hd := isDI hb c111 c125
            refine w_inv0 132 dX9_advance_129 rfl mlX9_32 rfl rfl (d' := 0) (by decide) (Nat.le_of_ble_eq_true rfl) (c_X9_takeDigits (hT.cong (by dsimp only; rw [upd2_ne (by decide)])) (e := e) (q := q) (by dsimp only; rw [upd2_off (by decide)]; exact he) (by dsimp only; rw [upd2_off (by decide)]; exact hq) (by dsimp only; rw [upd2_at]) hqe ?_)
            refine w_goto 168 dX9_advance_132 rfl ?_
            refine wr_v dX9_advance_168 rfl ?_
            have t := tk_dig hS hqn hnl hd.1
            refine h _ ⟨by simp [upd2, he], by rw [t.2.1]; simp [upd2], by rw [t.1]; simp [upd2], by rw [hS]; simp [upd2], fun z => ?_, fun z => ?_⟩ ⟨fun x hx => by simp at hx; simp [upd2_ne hx], by simp [upd2]⟩
            · rw [t.1] at z; split at z <;> omega
            · rw [t.2.2]; simp [upd2]
      · skip
        refine w_aload_n 94 dX9_advance_93 rfl rfl ?_
        have hl := isLI hb c76 c90
        refine w_inv0 97 dX9_advance_94 rfl mlX9_29 rfl rfl (d' := 0) (by decide) (Nat.le_of_ble_eq_true rfl) (c_X9_takeLetters (hT.cong (by dsimp only; rw [upd2_ne (by decide)])) (e := e) (q := q) (by dsimp only; rw [upd2_off (by decide)]; exact he) (by dsimp only; rw [upd2_off (by decide)]; exact hq) (by dsimp only; rw [upd2_at]) hqe ?_)
        refine w_goto 168 dX9_advance_97 rfl ?_
        refine wr_v dX9_advance_168 rfl ?_
        have t := tk_let hS hqn hl.1
        refine h _ ⟨by simp [upd2, he], by rw [t.2.1]; simp [upd2], by rw [t.1]; simp [upd2], by rw [hS]; simp [upd2], fun z => ?_, fun z => ?_⟩ ⟨fun x hx => by simp at hx; simp [upd2_ne hx], by simp [upd2]⟩
        · rw [t.2.2]; simp [upd2]
        · rw [t.1] at z; split at z <;> omega
  · skip
    refine w_aload_n 58 dX9_advance_57 rfl rfl ?_
    refine w_iconst 59 dX9_advance_58 rfl (v := nI 0) rfl ?_
    refine w_puti 62 dX9_advance_59 rfl faX9_26 rfl rfl rfl rfl ?_
    refine w_goto 168 dX9_advance_62 rfl ?_
    refine wr_v dX9_advance_168 rfl ?_
    have t := tk_end hS (by omega)
    refine h _ ⟨by simp [upd2, he], by rw [t.2]; simp [upd2, hq], by rw [t.1]; simp [upd2], by rw [hS]; simp [upd2], fun z => ?_, fun z => ?_⟩ ⟨fun x hx => by simp at hx; simp [upd2_ne hx], by simp [upd2]⟩
    · rw [t.1] at z; omega
    · rw [t.1] at z; omega

set_option maxRecDepth 4000 in
theorem c_X9_advance {K : Option Value → AH → Prop} {A : AH} {tp : Nat → Int32} {e p : Nat} (hT : TB tp e A) (he : A.1 7 2 = nI e) (hp : A.1 7 3 = nI p) (hpe : p ≤ e) (h : ∀ A', TK tp e p A' → OffT A A' → K none A') : Ct yX9_advance mX9_advance 1 dC gC [.ref 7] A K := by
  refine Ct.of [some (.ref 7)] rfl rfl rfl (Nat.le_of_ble_eq_true rfl) ?_
  have lp0 : ∀ (nf : Nat) (k : Nat), p + k ≤ e → (∀ j, j < k → (fun i => decide (gB tp i = 32)) (p + j) = true) → e - (p + k) < nf → WP mX9_advance 1 dC gC 0 [some (.ref 7)] [] (upd2 A.1 7 3 (nI (p + k)), A.2) K := by
    intro nf
    induction nf with
    | zero => intros; omega
    | succ nf ih =>
      intro k hk ha hms
      have h900 := hT.1
      refine w_aload_n 1 dX9_advance_0 rfl rfl ?_
      refine w_getiv 4 dX9_advance_1 rfl faX9_20 rfl rfl rfl (v := nI (p + k)) (by dsimp only; rw [upd2_at]) ?_
      refine w_aload_n 5 dX9_advance_4 rfl rfl ?_
      refine w_getiv 8 dX9_advance_5 rfl faX9_17 rfl rfl rfl (v := nI e) (by dsimp only; rw [upd2_off (by decide)]; exact he) ?_
      refine w_icgeN 38 11 dX9_advance_8 rfl rfl (by omega) (by omega) (fun c8 => ?_) (fun c8 => ?_)
      · skip
        refine a_X9_advance (hT.cong (by dsimp only; rw [upd2_ne (by decide)])) (p := p) (q := p + k) (by dsimp only; rw [upd2_off (by decide)]; exact he) (by dsimp only; rw [upd2_at]) (by omega) (run_at (by omega) ha (fun z => absurd z (by omega))) (fun A' h1 h2 => h A' h1 ⟨fun x hx => ⟨(h2.1 x hx).1.trans (upd2_ne (by simpa using hx)), (h2.1 x hx).2⟩, by rw [h2.2]; dsimp only; rw [upd2_off (by decide)]⟩)
      · skip
        refine w_aload_n 12 dX9_advance_11 rfl rfl ?_
        refine w_getr 15 dX9_advance_12 rfl faX9_9 rfl rfl rfl (r := .ref 8) rfl ?_
        refine w_aload_n 16 dX9_advance_15 rfl rfl ?_
        refine w_getiv 19 dX9_advance_16 rfl faX9_20 rfl rfl rfl (v := nI (p + k)) (by dsimp only; rw [upd2_at]) ?_
        have hb := hT.2.2 (p + k) (by omega)
        refine w_baldv 20 dX9_advance_19 rfl rfl rfl (by decide) (by omega) (v := tp (p + k)) (by dsimp only; rw [upd2_ne (by decide)]; exact hT.2.1 _ (by omega)) ?_
        refine w_bipush 22 dX9_advance_20 rfl (v := nI 32) rfl ?_
        refine w_icne 38 25 dX9_advance_22 rfl rfl (fun c22 => ?_) (fun c22 => ?_)
        · skip
          refine a_X9_advance (hT.cong (by dsimp only; rw [upd2_ne (by decide)])) (p := p) (q := p + k) (by dsimp only; rw [upd2_off (by decide)]; exact he) (by dsimp only; rw [upd2_at]) (by omega) (run_at (by omega) ha (fun z => decide_eq_false (fun z => c22 ((b_eq hb (by decide)).mpr z)))) (fun A' h1 h2 => h A' h1 ⟨fun x hx => ⟨(h2.1 x hx).1.trans (upd2_ne (by simpa using hx)), (h2.1 x hx).2⟩, by rw [h2.2]; dsimp only; rw [upd2_off (by decide)]⟩)
        · skip
          refine w_aload_n 26 dX9_advance_25 rfl rfl ?_
          refine w_dup_r 27 dX9_advance_26 rfl ?_
          refine w_getiv 30 dX9_advance_27 rfl faX9_20 rfl rfl rfl (v := nI (p + k)) (by dsimp only; rw [upd2_at]) ?_
          refine w_iconst 31 dX9_advance_30 rfl (v := nI 1) rfl ?_
          refine w_iaddN 32 dX9_advance_31 rfl ?_
          refine w_puti 35 dX9_advance_32 rfl faX9_20 rfl rfl rfl rfl ?_
          refine w_goto 0 dX9_advance_35 rfl ?_
          refine wp_eq rfl rfl ?_ (ih (k + 1) (by omega) (fun j hj => ?_) (by omega))
          · rw [upd2_2]
            rfl
          · by_cases z : j = k
            · subst z; exact decide_eq_true ((b_eq hb (by decide)).mp c22)
            · exact ha j (by omega)
  refine wp_eq rfl rfl ?_ (lp0 _ 0 (by omega) (fun j hj => absurd hj (by omega)) (Nat.lt_succ_self _))
  rw [Nat.add_zero, upd2_s hp]

set_option maxRecDepth 4000 in
theorem c_X9_rewind {K : Option Value → AH → Prop} {A : AH} {n c : Nat} (hc : A.1 7 1 = nI c) (hc9 : c ≤ 900) (hn : n ≤ c) (h : K none (upd2 (upd2 A.1 7 2 (nI n)) 7 3 (nI 0), A.2)) : Ct yX9_rewind mX9_rewind 0 dC gC [.ref 7, .int (nI n)] A K := by
  refine Ct.of [some (.ref 7), some (.int (nI n))] rfl rfl rfl (Nat.le_of_ble_eq_true rfl) ?_
  refine w_aload_n 1 dX9_rewind_0 rfl rfl ?_
  refine w_iload_n 2 dX9_rewind_1 rfl rfl ?_
  refine w_ifltN 17 5 dX9_rewind_2 rfl rfl (by omega) ?_
  refine w_iload_n 6 dX9_rewind_5 rfl rfl ?_
  refine w_aload_n 7 dX9_rewind_6 rfl rfl ?_
  refine w_getiv 10 dX9_rewind_7 rfl faX9_13 rfl rfl rfl hc ?_
  refine w_icgtN 17 13 dX9_rewind_10 rfl rfl (by omega) (by omega) (fun c10 => (by omega)) (fun c10 => ?_)
  refine w_iload_n 14 dX9_rewind_13 rfl rfl ?_
  refine w_goto 18 dX9_rewind_14 rfl ?_
  refine w_puti 21 dX9_rewind_18 rfl faX9_17 rfl rfl rfl rfl ?_
  refine w_aload_n 22 dX9_rewind_21 rfl rfl ?_
  refine w_iconst 23 dX9_rewind_22 rfl (v := nI 0) rfl ?_
  refine w_puti 26 dX9_rewind_23 rfl faX9_20 rfl rfl rfl rfl ?_
  refine wr_v dX9_rewind_26 rfl ?_
  exact h
