/-! ===== the tape is read ===== -/
theorem lorE {c d : Nat} (h : d < 32) : (lN c <<< ((nI 5).toInt64 &&& 63)) ||| lN d = lN (c * 32 + d) := by
  apply Int64.toBitVec_inj.mp
  show (BitVec.ofNat 64 c <<< (5 : Nat)) ||| BitVec.ofNat 64 d = BitVec.ofNat 64 (c * 32 + d)
  apply BitVec.eq_of_getLsbD_eq
  intro i hi
  rw [BitVec.getLsbD_or, BitVec.getLsbD_shiftLeft, BitVec.getLsbD_ofNat, BitVec.getLsbD_ofNat, BitVec.getLsbD_ofNat]
  rw [show c * 32 + d = 2 ^ 5 * c + d by omega, Nat.testBit_two_pow_mul_add c h i]
  by_cases q : i < 5
  · simp [q, hi]
  · have hd : d.testBit i = false := Nat.testBit_lt_two_pow (Nat.lt_of_lt_of_le h (show 2 ^ 5 ≤ 2 ^ i from Nat.pow_le_pow_right (by decide) (by omega)))
    simp [q, hi, hd, show i - 5 < 64 by omega]
def TB (tp : Nat → Int32) (e : Nat) (A : AH) : Prop := e ≤ 900 ∧ (∀ i, i < e → A.1 8 i = tp i) ∧ ∀ i, i < e → isB (tp i)
theorem isLI {b : Int32} (h : isB b) (h1 : ¬ b < nI 97) (h2 : ¬ nI 122 < b) : isL (bv b) = true ∧ b = nI (bv b) := by
  rw [b_lt h (by decide)] at h1
  rw [b_gt h (by decide)] at h2
  have : bv b < 128 ∧ 97 ≤ bv b := by omega
  exact ⟨decide_eq_true (by omega), (b_eq h this.1).mpr rfl⟩
theorem isLn1 {b : Int32} (h : isB b) (h1 : b < nI 97) : isL (bv b) = false := by
  rw [b_lt h (by decide)] at h1
  have := bv_lt b
  exact decide_eq_false (by omega)
theorem isLn2 {b : Int32} (h : isB b) (h1 : nI 122 < b) : isL (bv b) = false := by
  rw [b_gt h (by decide)] at h1
  exact decide_eq_false (by omega)
theorem isDI {b : Int32} (h : isB b) (h1 : ¬ b < nI 48) (h2 : ¬ nI 57 < b) : isD (bv b) = true ∧ b = nI (bv b) := by
  rw [b_lt h (by decide)] at h1
  rw [b_gt h (by decide)] at h2
  have : bv b < 128 ∧ 48 ≤ bv b := by omega
  exact ⟨decide_eq_true (by omega), (b_eq h this.1).mpr rfl⟩
theorem isDn1 {b : Int32} (h : isB b) (h1 : b < nI 48) : isD (bv b) = false := by
  rw [b_lt h (by decide)] at h1
  have := bv_lt b
  exact decide_eq_false (by omega)
theorem isDn2 {b : Int32} (h : isB b) (h1 : nI 57 < b) : isD (bv b) = false := by
  rw [b_gt h (by decide)] at h1
  exact decide_eq_false (by omega)
theorem isL_b {v : Nat} (h : isL v = true) : 97 ≤ v ∧ v ≤ 122 := of_decide_eq_true h
theorem isD_b {v : Nat} (h : isD v = true) : 48 ≤ v ∧ v ≤ 57 := of_decide_eq_true h
abbrev gB (tp : Nat → Int32) : Nat → Nat := fun i => bv (tp i)
theorem run_at {P : Nat → Bool} {e q k : Nat} (h : q + k ≤ e) (ha : ∀ j, j < k → P (q + j) = true) (hb : q + k < e → P (q + k) = false) : run P q (e - q) = q + k := run_eq (by omega) (by omega) (fun j h1 h2 => by have := ha (j - q) (by omega); rwa [show q + (j - q) = j by omega] at this) (fun z => hb (by omega))
set_option maxRecDepth 4000 in
theorem c_X9_takeLetters {K : Option Value → AH → Prop} {A : AH} {tp : Nat → Int32} {e q : Nat} (hT : TB tp e A) (he : A.1 7 2 = nI e) (hq : A.1 7 3 = nI q) (hs : A.1 7 5 = nI q) (hqe : q ≤ e) (h : K none (upd2 (upd2 A.1 7 3 (nI (lrn (gB tp) e q))) 7 4 (nI (if lrn (gB tp) e q - q ≤ 8 then 1 else 4)), upd2 A.2 7 6 (lN (lc (gB tp) q (lrn (gB tp) e q - q))))) : Ct yX9_takeLetters mX9_takeLetters 0 dC gC [.ref 7] A K := by
  refine Ct.of [some (.ref 7)] rfl rfl rfl (Nat.le_of_ble_eq_true rfl) ?_
  have lp5 : ∀ (nf : Nat) (k : Nat), q + k ≤ e → (∀ j, j < k → isL (gB tp (q + j)) = true) → e - (q + k) < nf → WP mX9_takeLetters 0 dC gC 5 [some (.ref 7)] [] (upd2 A.1 7 3 (nI (q + k)), upd2 A.2 7 6 (lN (lc (gB tp) q k))) K := by
    intro nf
    induction nf with
    | zero => intros; omega
    | succ nf ih =>
      intro k hk ha hms
      have h900 := hT.1
      refine w_aload_n 6 dX9_takeLetters_5 rfl rfl ?_
      refine w_getiv 9 dX9_takeLetters_6 rfl faX9_20 rfl rfl rfl (v := nI (q + k)) (by dsimp only; rw [upd2_at]) ?_
      refine w_aload_n 10 dX9_takeLetters_9 rfl rfl ?_
      refine w_getiv 13 dX9_takeLetters_10 rfl faX9_17 rfl rfl rfl (by dsimp only; rw [upd2_off (by decide)]; exact he) ?_
      refine w_icgeN 83 16 dX9_takeLetters_13 rfl rfl (by omega) (by omega) (fun c13 => ?_) (fun c13 => ?_)
      · skip
        have er : lrn (gB tp) e q = q + k := run_at (by omega) ha (fun z => absurd z (by omega))
        refine w_aload_n 84 dX9_takeLetters_83 rfl rfl ?_
        refine w_aload_n 85 dX9_takeLetters_84 rfl rfl ?_
        refine w_getiv 88 dX9_takeLetters_85 rfl faX9_20 rfl rfl rfl (v := nI (q + k)) (by dsimp only; rw [upd2_at]) ?_
        refine w_aload_n 89 dX9_takeLetters_88 rfl rfl ?_
        refine w_getiv 92 dX9_takeLetters_89 rfl faX9_23 rfl rfl rfl (v := nI q) (by dsimp only; rw [upd2_off (by decide)]; exact hs) ?_
        refine w_isubN 93 dX9_takeLetters_92 rfl (by omega) ?_
        refine w_bipush 95 dX9_takeLetters_93 rfl (v := nI 8) rfl ?_
        refine w_icgtN 102 98 dX9_takeLetters_95 rfl rfl (by omega) (by omega) (fun c95 => ?_) (fun c95 => ?_)
        · skip
          refine w_iconst 103 dX9_takeLetters_102 rfl (v := nI 4) rfl ?_
          refine w_puti 106 dX9_takeLetters_103 rfl faX9_26 rfl rfl rfl rfl ?_
          refine wr_v dX9_takeLetters_106 rfl ?_
          rw [er, show q + k - q = k by omega, if_neg (by omega)] at h
          exact h
        · skip
          refine w_iconst 99 dX9_takeLetters_98 rfl (v := nI 1) rfl ?_
          refine w_goto 103 dX9_takeLetters_99 rfl ?_
          refine w_puti 106 dX9_takeLetters_103 rfl faX9_26 rfl rfl rfl rfl ?_
          refine wr_v dX9_takeLetters_106 rfl ?_
          rw [er, show q + k - q = k by omega, if_pos (by omega)] at h
          exact h
      · skip
        refine w_aload_n 17 dX9_takeLetters_16 rfl rfl ?_
        refine w_getr 20 dX9_takeLetters_17 rfl faX9_9 rfl rfl rfl (r := .ref 8) rfl ?_
        refine w_aload_n 21 dX9_takeLetters_20 rfl rfl ?_
        refine w_getiv 24 dX9_takeLetters_21 rfl faX9_20 rfl rfl rfl (v := nI (q + k)) (by dsimp only; rw [upd2_at]) ?_
        have hb := hT.2.2 (q + k) (by omega)
        refine w_baldv 25 dX9_takeLetters_24 rfl rfl rfl (by decide) (by omega) (v := tp (q + k)) (by dsimp only; rw [upd2_ne (by decide)]; exact hT.2.1 _ (by omega)) ?_
        refine w_bipush 27 dX9_takeLetters_25 rfl (v := nI 97) rfl ?_
        refine w_icltN 83 30 dX9_takeLetters_27 rfl rfl (by omega) (by omega) (fun c27 => ?_) (fun c27 => ?_)
        · skip
          have er : lrn (gB tp) e q = q + k := run_at (by omega) ha (fun z => isLn1 hb c27)
          refine w_aload_n 84 dX9_takeLetters_83 rfl rfl ?_
          refine w_aload_n 85 dX9_takeLetters_84 rfl rfl ?_
          refine w_getiv 88 dX9_takeLetters_85 rfl faX9_20 rfl rfl rfl (v := nI (q + k)) (by dsimp only; rw [upd2_at]) ?_
          refine w_aload_n 89 dX9_takeLetters_88 rfl rfl ?_
          refine w_getiv 92 dX9_takeLetters_89 rfl faX9_23 rfl rfl rfl (v := nI q) (by dsimp only; rw [upd2_off (by decide)]; exact hs) ?_
          refine w_isubN 93 dX9_takeLetters_92 rfl (by omega) ?_
          refine w_bipush 95 dX9_takeLetters_93 rfl (v := nI 8) rfl ?_
          refine w_icgtN 102 98 dX9_takeLetters_95 rfl rfl (by omega) (by omega) (fun c95 => ?_) (fun c95 => ?_)
          · skip
            refine w_iconst 103 dX9_takeLetters_102 rfl (v := nI 4) rfl ?_
            refine w_puti 106 dX9_takeLetters_103 rfl faX9_26 rfl rfl rfl rfl ?_
            refine wr_v dX9_takeLetters_106 rfl ?_
            rw [er, show q + k - q = k by omega, if_neg (by omega)] at h
            exact h
          · skip
            refine w_iconst 99 dX9_takeLetters_98 rfl (v := nI 1) rfl ?_
            refine w_goto 103 dX9_takeLetters_99 rfl ?_
            refine w_puti 106 dX9_takeLetters_103 rfl faX9_26 rfl rfl rfl rfl ?_
            refine wr_v dX9_takeLetters_106 rfl ?_
            rw [er, show q + k - q = k by omega, if_pos (by omega)] at h
            exact h
        · skip
          refine w_aload_n 31 dX9_takeLetters_30 rfl rfl ?_
          refine w_getr 34 dX9_takeLetters_31 rfl faX9_9 rfl rfl rfl (r := .ref 8) rfl ?_
          refine w_aload_n 35 dX9_takeLetters_34 rfl rfl ?_
          refine w_getiv 38 dX9_takeLetters_35 rfl faX9_20 rfl rfl rfl (v := nI (q + k)) (by dsimp only; rw [upd2_at]) ?_
          refine w_baldv 39 dX9_takeLetters_38 rfl rfl rfl (by decide) (by omega) (v := tp (q + k)) (by dsimp only; rw [upd2_ne (by decide)]; exact hT.2.1 _ (by omega)) ?_
          refine w_bipush 41 dX9_takeLetters_39 rfl (v := nI 122) rfl ?_
          refine w_icgtN 83 44 dX9_takeLetters_41 rfl rfl (by omega) (by omega) (fun c41 => ?_) (fun c41 => ?_)
          · skip
            have er : lrn (gB tp) e q = q + k := run_at (by omega) ha (fun z => isLn2 hb c41)
            refine w_aload_n 84 dX9_takeLetters_83 rfl rfl ?_
            refine w_aload_n 85 dX9_takeLetters_84 rfl rfl ?_
            refine w_getiv 88 dX9_takeLetters_85 rfl faX9_20 rfl rfl rfl (v := nI (q + k)) (by dsimp only; rw [upd2_at]) ?_
            refine w_aload_n 89 dX9_takeLetters_88 rfl rfl ?_
            refine w_getiv 92 dX9_takeLetters_89 rfl faX9_23 rfl rfl rfl (v := nI q) (by dsimp only; rw [upd2_off (by decide)]; exact hs) ?_
            refine w_isubN 93 dX9_takeLetters_92 rfl (by omega) ?_
            refine w_bipush 95 dX9_takeLetters_93 rfl (v := nI 8) rfl ?_
            refine w_icgtN 102 98 dX9_takeLetters_95 rfl rfl (by omega) (by omega) (fun c95 => ?_) (fun c95 => ?_)
            · skip
              refine w_iconst 103 dX9_takeLetters_102 rfl (v := nI 4) rfl ?_
              refine w_puti 106 dX9_takeLetters_103 rfl faX9_26 rfl rfl rfl rfl ?_
              refine wr_v dX9_takeLetters_106 rfl ?_
              rw [er, show q + k - q = k by omega, if_neg (by omega)] at h
              exact h
            · skip
              refine w_iconst 99 dX9_takeLetters_98 rfl (v := nI 1) rfl ?_
              refine w_goto 103 dX9_takeLetters_99 rfl ?_
              refine w_puti 106 dX9_takeLetters_103 rfl faX9_26 rfl rfl rfl rfl ?_
              refine wr_v dX9_takeLetters_106 rfl ?_
              rw [er, show q + k - q = k by omega, if_pos (by omega)] at h
              exact h
          · skip
            have hl := isLI hb c27 c41
            have hl2 := isL_b hl.1
            refine w_aload_n 45 dX9_takeLetters_44 rfl rfl ?_
            refine w_aload_n 46 dX9_takeLetters_45 rfl rfl ?_
            refine w_getjv 49 dX9_takeLetters_46 rfl faX9_35 rfl rfl rfl (v := lN (lc (gB tp) q k)) (by dsimp only; rw [upd2_at]) ?_
            refine w_iconst 50 dX9_takeLetters_49 rfl (v := nI 5) rfl ?_
            refine w_lshl 51 dX9_takeLetters_50 rfl ?_
            refine w_aload_n 52 dX9_takeLetters_51 rfl rfl ?_
            refine w_getr 55 dX9_takeLetters_52 rfl faX9_9 rfl rfl rfl (r := .ref 8) rfl ?_
            refine w_aload_n 56 dX9_takeLetters_55 rfl rfl ?_
            refine w_getiv 59 dX9_takeLetters_56 rfl faX9_20 rfl rfl rfl (v := nI (q + k)) (by dsimp only; rw [upd2_at]) ?_
            refine w_baldv 60 dX9_takeLetters_59 rfl rfl rfl (by decide) (by omega) (v := nI (gB tp (q + k))) (by dsimp only; rw [upd2_ne (by decide), hT.2.1 _ (by omega)]; exact hl.2) ?_
            refine w_bipush 62 dX9_takeLetters_60 rfl (v := nI 97) rfl ?_
            refine w_isubN 63 dX9_takeLetters_62 rfl hl2.1 ?_
            refine w_iconst 64 dX9_takeLetters_63 rfl (v := nI 1) rfl ?_
            refine w_iaddN 65 dX9_takeLetters_64 rfl ?_
            refine w_i2lN 66 dX9_takeLetters_65 rfl (by omega) ?_
            refine w_lor 67 dX9_takeLetters_66 rfl ?_
            refine w_topl (lorE (show gB tp (q + k) - 97 + 1 < 32 by omega)) ?_
            rw [show lc (gB tp) q k * 32 + (gB tp (q + k) - 97 + 1) = lc (gB tp) q (k + 1) by show _ = lc (gB tp) q k * 32 + (gB tp (q + k) - 96); omega]
            refine w_putj 70 dX9_takeLetters_67 rfl faX9_35 rfl rfl rfl rfl ?_
            refine w_aload_n 71 dX9_takeLetters_70 rfl rfl ?_
            refine w_dup_r 72 dX9_takeLetters_71 rfl ?_
            refine w_getiv 75 dX9_takeLetters_72 rfl faX9_20 rfl rfl rfl (v := nI (q + k)) (by dsimp only; rw [upd2_at]) ?_
            refine w_iconst 76 dX9_takeLetters_75 rfl (v := nI 1) rfl ?_
            refine w_iaddN 77 dX9_takeLetters_76 rfl ?_
            refine w_puti 80 dX9_takeLetters_77 rfl faX9_20 rfl rfl rfl rfl ?_
            refine w_goto 5 dX9_takeLetters_80 rfl ?_
            refine wp_eq rfl rfl ?_ (ih (k + 1) (by omega) (fun j hj => ?_) (by omega))
            · rw [upd2_2, upd2_2]
              rfl
            · by_cases z : j = k
              · subst z; exact hl.1
              · exact ha j (by omega)
  refine w_aload_n 1 dX9_takeLetters_0 rfl rfl ?_
  refine w_lconst 2 dX9_takeLetters_1 rfl (v := lN 0) rfl ?_
  refine w_putj 5 dX9_takeLetters_2 rfl faX9_35 rfl rfl rfl rfl ?_
  refine wp_eq rfl rfl ?_ (lp5 _ 0 (by omega) (fun j hj => absurd hj (by omega)) (Nat.lt_succ_self _))
  rw [Nat.add_zero, upd2_s hq]
  rfl
