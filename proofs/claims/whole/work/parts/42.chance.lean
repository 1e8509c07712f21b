/-! ===== rests, chances ===== -/
set_option maxRecDepth 4000 in
theorem a_X11_rests {K : Option Value → AH → Prop} {A : AH} {x : Int32} (h : K (some (.int (nI (cntTo (prB x) 4)))) A) : WP mX11_rests 3 dC gC 23 [some (.ref 0), some (.int x), none, none] [] A K := by
  have lp27 : ∀ (nf : Nat) (i : Nat), i ≤ 4 → 4 - i < nf → WP mX11_rests 3 dC gC 27 [some (.ref 0), some (.int x), some (.int (nI (cntTo (prB x) i))), some (.int (nI i))] [] A K := by
    intro nf
    induction nf with
    | zero => intros; omega
    | succ nf ih =>
      intro i hi hms
      refine w_iload_n 28 dX11_rests_27 rfl rfl ?_
      refine w_iconst 29 dX11_rests_28 rfl (v := nI 4) rfl ?_
      refine w_icgeN 70 32 dX11_rests_29 rfl rfl (by omega) (by omega) (fun c29 => ?_) (fun c29 => ?_)
      · skip
        have e : i = 4 := by omega
        subst e
        refine w_iload_n 71 dX11_rests_70 rfl rfl ?_
        refine wr_i dX11_rests_71 rfl ?_
        exact h
      · skip
        refine w_iload_n 33 dX11_rests_32 rfl rfl ?_
        refine w_iload_n 34 dX11_rests_33 rfl rfl ?_
        refine w_iconst 35 dX11_rests_34 rfl (v := nI 2) rfl ?_
        refine w_icltN 42 38 dX11_rests_35 rfl rfl (by omega) (by omega) (fun c35 => ?_) (fun c35 => ?_)
        · skip
          refine w_iconst 43 dX11_rests_42 rfl (v := nI 0) rfl ?_
          refine w_iload_n 44 dX11_rests_43 rfl rfl ?_
          refine w_iconst 45 dX11_rests_44 rfl (v := nI 2) rfl ?_
          refine w_iremN 46 dX11_rests_45 rfl (by omega) (by omega) (by omega) ?_
          refine w_iconst 47 dX11_rests_46 rfl (v := nI 1) rfl ?_
          refine w_icneN 54 50 dX11_rests_47 rfl rfl (by omega) (by omega) (fun c47 => ?_) (fun c47 => ?_)
          · skip
            refine w_iconst 55 dX11_rests_54 rfl (v := nI 0) rfl ?_
            refine w_invs3 58 dX11_rests_55 rfl slX11_290 (d' := 1) (by decide) (Nat.le_of_ble_eq_true rfl) (c_X11_isRest (p := false) (q := false) ?_)
            rw [show rsB x false false = prB x i by simp [prB, Nat.not_le.mpr c35, c47]]
            refine w_ifeqB 64 61 dX11_rests_58 rfl rfl (fun c58 => ?_) (fun c58 => ?_)
            · skip
              refine w_inc3 67 dX11_rests_64 rfl (by decide) rfl (v := nI (_ + 1)) (nI_1 _) ?_
              refine w_goto 27 dX11_rests_67 rfl ?_
              refine wp_to ?_ rfl rfl (ih (i + 1) (by omega) (by omega))
              simp [lle, cntTo, c58]
            · skip
              refine w_inc2 64 dX11_rests_61 rfl (by decide) rfl (v := nI (_ + 1)) (nI_1 _) ?_
              refine w_inc3 67 dX11_rests_64 rfl (by decide) rfl (v := nI (_ + 1)) (nI_1 _) ?_
              refine w_goto 27 dX11_rests_67 rfl ?_
              refine wp_to ?_ rfl rfl (ih (i + 1) (by omega) (by omega))
              simp [lle, cntTo, c58]
          · skip
            refine w_iconst 51 dX11_rests_50 rfl (v := nI 1) rfl ?_
            refine w_goto 55 dX11_rests_51 rfl ?_
            refine w_invs3 58 dX11_rests_55 rfl slX11_290 (d' := 1) (by decide) (Nat.le_of_ble_eq_true rfl) (c_X11_isRest (p := false) (q := true) ?_)
            rw [show rsB x false true = prB x i by simp [prB, Nat.not_le.mpr c35, c47]]
            refine w_ifeqB 64 61 dX11_rests_58 rfl rfl (fun c58 => ?_) (fun c58 => ?_)
            · skip
              refine w_inc3 67 dX11_rests_64 rfl (by decide) rfl (v := nI (_ + 1)) (nI_1 _) ?_
              refine w_goto 27 dX11_rests_67 rfl ?_
              refine wp_to ?_ rfl rfl (ih (i + 1) (by omega) (by omega))
              simp [lle, cntTo, c58]
            · skip
              refine w_inc2 64 dX11_rests_61 rfl (by decide) rfl (v := nI (_ + 1)) (nI_1 _) ?_
              refine w_inc3 67 dX11_rests_64 rfl (by decide) rfl (v := nI (_ + 1)) (nI_1 _) ?_
              refine w_goto 27 dX11_rests_67 rfl ?_
              refine wp_to ?_ rfl rfl (ih (i + 1) (by omega) (by omega))
              simp [lle, cntTo, c58]
        · skip
          refine w_iconst 39 dX11_rests_38 rfl (v := nI 1) rfl ?_
          refine w_goto 43 dX11_rests_39 rfl ?_
          refine w_iload_n 44 dX11_rests_43 rfl rfl ?_
          refine w_iconst 45 dX11_rests_44 rfl (v := nI 2) rfl ?_
          refine w_iremN 46 dX11_rests_45 rfl (by omega) (by omega) (by omega) ?_
          refine w_iconst 47 dX11_rests_46 rfl (v := nI 1) rfl ?_
          refine w_icneN 54 50 dX11_rests_47 rfl rfl (by omega) (by omega) (fun c47 => ?_) (fun c47 => ?_)
          · skip
            refine w_iconst 55 dX11_rests_54 rfl (v := nI 0) rfl ?_
            refine w_invs3 58 dX11_rests_55 rfl slX11_290 (d' := 1) (by decide) (Nat.le_of_ble_eq_true rfl) (c_X11_isRest (p := true) (q := false) ?_)
            rw [show rsB x true false = prB x i by simp [prB, c35, c47]]
            refine w_ifeqB 64 61 dX11_rests_58 rfl rfl (fun c58 => ?_) (fun c58 => ?_)
            · skip
              refine w_inc3 67 dX11_rests_64 rfl (by decide) rfl (v := nI (_ + 1)) (nI_1 _) ?_
              refine w_goto 27 dX11_rests_67 rfl ?_
              refine wp_to ?_ rfl rfl (ih (i + 1) (by omega) (by omega))
              simp [lle, cntTo, c58]
            · skip
              refine w_inc2 64 dX11_rests_61 rfl (by decide) rfl (v := nI (_ + 1)) (nI_1 _) ?_
              refine w_inc3 67 dX11_rests_64 rfl (by decide) rfl (v := nI (_ + 1)) (nI_1 _) ?_
              refine w_goto 27 dX11_rests_67 rfl ?_
              refine wp_to ?_ rfl rfl (ih (i + 1) (by omega) (by omega))
              simp [lle, cntTo, c58]
          · skip
            refine w_iconst 51 dX11_rests_50 rfl (v := nI 1) rfl ?_
            refine w_goto 55 dX11_rests_51 rfl ?_
            refine w_invs3 58 dX11_rests_55 rfl slX11_290 (d' := 1) (by decide) (Nat.le_of_ble_eq_true rfl) (c_X11_isRest (p := true) (q := true) ?_)
            rw [show rsB x true true = prB x i by simp [prB, c35, c47]]
            refine w_ifeqB 64 61 dX11_rests_58 rfl rfl (fun c58 => ?_) (fun c58 => ?_)
            · skip
              refine w_inc3 67 dX11_rests_64 rfl (by decide) rfl (v := nI (_ + 1)) (nI_1 _) ?_
              refine w_goto 27 dX11_rests_67 rfl ?_
              refine wp_to ?_ rfl rfl (ih (i + 1) (by omega) (by omega))
              simp [lle, cntTo, c58]
            · skip
              refine w_inc2 64 dX11_rests_61 rfl (by decide) rfl (v := nI (_ + 1)) (nI_1 _) ?_
              refine w_inc3 67 dX11_rests_64 rfl (by decide) rfl (v := nI (_ + 1)) (nI_1 _) ?_
              refine w_goto 27 dX11_rests_67 rfl ?_
              refine wp_to ?_ rfl rfl (ih (i + 1) (by omega) (by omega))
              simp [lle, cntTo, c58]
  refine w_iconst 24 dX11_rests_23 rfl (v := nI 0) rfl ?_
  refine w_ist2 25 dX11_rests_24 rfl (by decide) rfl ?_
  refine w_iconst 26 dX11_rests_25 rfl (v := nI 0) rfl ?_
  refine w_ist3 27 dX11_rests_26 rfl (by decide) rfl ?_
  exact lp27 _ 0 (Nat.zero_le _) (Nat.lt_succ_self _)

set_option maxRecDepth 4000 in
theorem c_X11_rests {K : Option Value → AH → Prop} {A : AH} {w : WT} {s : Nat → Nat} (hC : CI w s A) {x : Int32} (h : ∀ A', Qk A A' → A'.1 0 8 = nI (tX (okW1 w) (tB 9 x)) → K (some (.int (rRests w x))) A') : Ct yX11_rests mX11_rests 3 dC gC [.ref 0, .int x] A K := by
  refine Ct.of [some (.ref 0), some (.int x), none, none] rfl rfl rfl (Nat.le_of_ble_eq_true rfl) ?_
  refine w_aload_n 1 dX11_rests_0 rfl rfl ?_
  refine w_aload_n 2 dX11_rests_1 rfl rfl ?_
  refine w_inv0 5 dX11_rests_2 rfl mlX11_157 rfl rfl (d' := 2) (by decide) (Nat.le_of_ble_eq_true rfl) (c_X11_needWeb hC ?_)
  refine w_iload_n 6 dX11_rests_5 rfl rfl ?_
  refine w_iconst 7 dX11_rests_6 rfl (v := nI 0) rfl ?_
  refine w_bipush 9 dX11_rests_7 rfl (v := nI 9) rfl ?_
  refine w_invs3 12 dX11_rests_9 rfl slX11_83 (d' := 0) (by decide) (Nat.le_of_ble_eq_true rfl) (c_X11_withinN ?_)
  refine w_invs2 15 dX11_rests_12 rfl slX11_126 (d' := 0) (by decide) (Nat.le_of_ble_eq_true rfl) (c_X11_firstOfN (Nat.lt_of_le_of_lt (t1_le _) (by decide)) ?_)
  rw [tX_first]
  refine w_inv1 18 dX11_rests_15 rfl mlX11_87 rfl rfl (d' := 0) (by decide) (Nat.le_of_ble_eq_true rfl) (c_X11_refused (Nat.lt_of_le_of_lt (tX_le (tB_le _ _)) (by decide)) ?_)
  refine w_ifeqB 23 21 dX11_rests_18 rfl rfl (fun c18 => ?_) (fun c18 => ?_)
  · skip
    have hz : tX (okW1 w) (tB 9 x) = 0 := Decidable.not_not.mp (of_decide_eq_false c18)
    have hC1 := hC.off (hC.ref (nI (tX (okW1 w) (tB 9 x))))
    skip
    exact a_X11_rests (kq (h _ (hC.ref _) (by dsimp only; rw [upd2_at])) (by unfold rRests; rw [if_pos hz]))
  · skip
    refine w_iconst 22 dX11_rests_21 rfl (v := (-1)) rfl ?_
    refine wr_i dX11_rests_22 rfl ?_
    exact kq (h _ (hC.ref _) (by dsimp only; rw [upd2_at])) (by unfold rRests; rw [if_neg (of_decide_eq_true c18)])

set_option maxRecDepth 4000 in
theorem a_X11_rest {K : Option Value → AH → Prop} {A : AH} {x : Int32} (h : K (some (.int (enc2 ((fst1 (prB x) 4).map (fun k => k / 2 * 10 + k % 2))))) A) : WP mX11_rest 3 dC gC 23 [some (.ref 0), some (.int x), none] [] A K := by
  have lp25 : ∀ (nf : Nat) (i : Nat), i ≤ 4 → fst1 (prB x) i = none → 4 - i < nf → WP mX11_rest 3 dC gC 25 [some (.ref 0), some (.int x), some (.int (nI i))] [] A K := by
    intro nf
    induction nf with
    | zero => intros; omega
    | succ nf ih =>
      intro i hi hf hms
      refine w_iload_n 26 dX11_rest_25 rfl rfl ?_
      refine w_iconst 27 dX11_rest_26 rfl (v := nI 4) rfl ?_
      refine w_icgeN 76 30 dX11_rest_27 rfl rfl (by omega) (by omega) (fun c27 => ?_) (fun c27 => ?_)
      · skip
        have e : i = 4 := by omega
        subst e
        refine w_bipush 78 dX11_rest_76 rfl (v := (-2)) rfl ?_
        refine wr_i dX11_rest_78 rfl ?_
        exact kq h (by rw [hf]; rfl)
      · skip
        refine w_iload_n 31 dX11_rest_30 rfl rfl ?_
        refine w_iload_n 32 dX11_rest_31 rfl rfl ?_
        refine w_iconst 33 dX11_rest_32 rfl (v := nI 2) rfl ?_
        refine w_icltN 40 36 dX11_rest_33 rfl rfl (by omega) (by omega) (fun c33 => ?_) (fun c33 => ?_)
        · skip
          refine w_iconst 41 dX11_rest_40 rfl (v := nI 0) rfl ?_
          refine w_iload_n 42 dX11_rest_41 rfl rfl ?_
          refine w_iconst 43 dX11_rest_42 rfl (v := nI 2) rfl ?_
          refine w_iremN 44 dX11_rest_43 rfl (by omega) (by omega) (by omega) ?_
          refine w_iconst 45 dX11_rest_44 rfl (v := nI 1) rfl ?_
          refine w_icneN 52 48 dX11_rest_45 rfl rfl (by omega) (by omega) (fun c45 => ?_) (fun c45 => ?_)
          · skip
            refine w_iconst 53 dX11_rest_52 rfl (v := nI 0) rfl ?_
            refine w_invs3 56 dX11_rest_53 rfl slX11_290 (d' := 1) (by decide) (Nat.le_of_ble_eq_true rfl) (c_X11_isRest (p := false) (q := false) ?_)
            rw [show rsB x false false = prB x i by simp [prB, Nat.not_le.mpr c33, c45]]
            refine w_ifeqB 70 59 dX11_rest_56 rfl rfl (fun c56 => ?_) (fun c56 => ?_)
            · skip
              refine w_inc2 73 dX11_rest_70 rfl (by decide) rfl (v := nI (_ + 1)) (nI_1 _) ?_
              refine w_goto 25 dX11_rest_73 rfl ?_
              exact ih (i + 1) (by omega) (by simp [fst1, hf, c56]) (by omega)
            · skip
              refine w_iload_n 60 dX11_rest_59 rfl rfl ?_
              refine w_iconst 61 dX11_rest_60 rfl (v := nI 2) rfl ?_
              refine w_idivN 62 dX11_rest_61 rfl (by omega) (by omega) (by omega) ?_
              refine w_bipush 64 dX11_rest_62 rfl (v := nI 10) rfl ?_
              refine w_imulN 65 dX11_rest_64 rfl ?_
              refine w_iload_n 66 dX11_rest_65 rfl rfl ?_
              refine w_iconst 67 dX11_rest_66 rfl (v := nI 2) rfl ?_
              refine w_iremN 68 dX11_rest_67 rfl (by omega) (by omega) (by omega) ?_
              refine w_iaddN 69 dX11_rest_68 rfl ?_
              refine wr_i dX11_rest_69 rfl ?_
              exact kq h (by rw [fst1_some hf c56 c27]; rfl)
          · skip
            refine w_iconst 49 dX11_rest_48 rfl (v := nI 1) rfl ?_
            refine w_goto 53 dX11_rest_49 rfl ?_
            refine w_invs3 56 dX11_rest_53 rfl slX11_290 (d' := 1) (by decide) (Nat.le_of_ble_eq_true rfl) (c_X11_isRest (p := false) (q := true) ?_)
            rw [show rsB x false true = prB x i by simp [prB, Nat.not_le.mpr c33, c45]]
            refine w_ifeqB 70 59 dX11_rest_56 rfl rfl (fun c56 => ?_) (fun c56 => ?_)
            · skip
              refine w_inc2 73 dX11_rest_70 rfl (by decide) rfl (v := nI (_ + 1)) (nI_1 _) ?_
              refine w_goto 25 dX11_rest_73 rfl ?_
              exact ih (i + 1) (by omega) (by simp [fst1, hf, c56]) (by omega)
            · skip
              refine w_iload_n 60 dX11_rest_59 rfl rfl ?_
              refine w_iconst 61 dX11_rest_60 rfl (v := nI 2) rfl ?_
              refine w_idivN 62 dX11_rest_61 rfl (by omega) (by omega) (by omega) ?_
              refine w_bipush 64 dX11_rest_62 rfl (v := nI 10) rfl ?_
              refine w_imulN 65 dX11_rest_64 rfl ?_
              refine w_iload_n 66 dX11_rest_65 rfl rfl ?_
              refine w_iconst 67 dX11_rest_66 rfl (v := nI 2) rfl ?_
              refine w_iremN 68 dX11_rest_67 rfl (by omega) (by omega) (by omega) ?_
              refine w_iaddN 69 dX11_rest_68 rfl ?_
              refine wr_i dX11_rest_69 rfl ?_
              exact kq h (by rw [fst1_some hf c56 c27]; rfl)
        · skip
          refine w_iconst 37 dX11_rest_36 rfl (v := nI 1) rfl ?_
          refine w_goto 41 dX11_rest_37 rfl ?_
          refine w_iload_n 42 dX11_rest_41 rfl rfl ?_
          refine w_iconst 43 dX11_rest_42 rfl (v := nI 2) rfl ?_
          refine w_iremN 44 dX11_rest_43 rfl (by omega) (by omega) (by omega) ?_
          refine w_iconst 45 dX11_rest_44 rfl (v := nI 1) rfl ?_
          refine w_icneN 52 48 dX11_rest_45 rfl rfl (by omega) (by omega) (fun c45 => ?_) (fun c45 => ?_)
          · skip
            refine w_iconst 53 dX11_rest_52 rfl (v := nI 0) rfl ?_
            refine w_invs3 56 dX11_rest_53 rfl slX11_290 (d' := 1) (by decide) (Nat.le_of_ble_eq_true rfl) (c_X11_isRest (p := true) (q := false) ?_)
            rw [show rsB x true false = prB x i by simp [prB, c33, c45]]
            refine w_ifeqB 70 59 dX11_rest_56 rfl rfl (fun c56 => ?_) (fun c56 => ?_)
            · skip
              refine w_inc2 73 dX11_rest_70 rfl (by decide) rfl (v := nI (_ + 1)) (nI_1 _) ?_
              refine w_goto 25 dX11_rest_73 rfl ?_
              exact ih (i + 1) (by omega) (by simp [fst1, hf, c56]) (by omega)
            · skip
              refine w_iload_n 60 dX11_rest_59 rfl rfl ?_
              refine w_iconst 61 dX11_rest_60 rfl (v := nI 2) rfl ?_
              refine w_idivN 62 dX11_rest_61 rfl (by omega) (by omega) (by omega) ?_
              refine w_bipush 64 dX11_rest_62 rfl (v := nI 10) rfl ?_
              refine w_imulN 65 dX11_rest_64 rfl ?_
              refine w_iload_n 66 dX11_rest_65 rfl rfl ?_
              refine w_iconst 67 dX11_rest_66 rfl (v := nI 2) rfl ?_
              refine w_iremN 68 dX11_rest_67 rfl (by omega) (by omega) (by omega) ?_
              refine w_iaddN 69 dX11_rest_68 rfl ?_
              refine wr_i dX11_rest_69 rfl ?_
              exact kq h (by rw [fst1_some hf c56 c27]; rfl)
          · skip
            refine w_iconst 49 dX11_rest_48 rfl (v := nI 1) rfl ?_
            refine w_goto 53 dX11_rest_49 rfl ?_
            refine w_invs3 56 dX11_rest_53 rfl slX11_290 (d' := 1) (by decide) (Nat.le_of_ble_eq_true rfl) (c_X11_isRest (p := true) (q := true) ?_)
            rw [show rsB x true true = prB x i by simp [prB, c33, c45]]
            refine w_ifeqB 70 59 dX11_rest_56 rfl rfl (fun c56 => ?_) (fun c56 => ?_)
            · skip
              refine w_inc2 73 dX11_rest_70 rfl (by decide) rfl (v := nI (_ + 1)) (nI_1 _) ?_
              refine w_goto 25 dX11_rest_73 rfl ?_
              exact ih (i + 1) (by omega) (by simp [fst1, hf, c56]) (by omega)
            · skip
              refine w_iload_n 60 dX11_rest_59 rfl rfl ?_
              refine w_iconst 61 dX11_rest_60 rfl (v := nI 2) rfl ?_
              refine w_idivN 62 dX11_rest_61 rfl (by omega) (by omega) (by omega) ?_
              refine w_bipush 64 dX11_rest_62 rfl (v := nI 10) rfl ?_
              refine w_imulN 65 dX11_rest_64 rfl ?_
              refine w_iload_n 66 dX11_rest_65 rfl rfl ?_
              refine w_iconst 67 dX11_rest_66 rfl (v := nI 2) rfl ?_
              refine w_iremN 68 dX11_rest_67 rfl (by omega) (by omega) (by omega) ?_
              refine w_iaddN 69 dX11_rest_68 rfl ?_
              refine wr_i dX11_rest_69 rfl ?_
              exact kq h (by rw [fst1_some hf c56 c27]; rfl)
  refine w_iconst 24 dX11_rest_23 rfl (v := nI 0) rfl ?_
  refine w_ist2 25 dX11_rest_24 rfl (by decide) rfl ?_
  exact lp25 _ 0 (Nat.zero_le _) rfl (Nat.lt_succ_self _)

set_option maxRecDepth 4000 in
theorem c_X11_rest {K : Option Value → AH → Prop} {A : AH} {w : WT} {s : Nat → Nat} (hC : CI w s A) {x : Int32} (h : ∀ A', Qk A A' → A'.1 0 8 = nI (tX (okW1 w) (tB 9 x)) → K (some (.int (rRest w x))) A') : Ct yX11_rest mX11_rest 3 dC gC [.ref 0, .int x] A K := by
  refine Ct.of [some (.ref 0), some (.int x), none] rfl rfl rfl (Nat.le_of_ble_eq_true rfl) ?_
  refine w_aload_n 1 dX11_rest_0 rfl rfl ?_
  refine w_aload_n 2 dX11_rest_1 rfl rfl ?_
  refine w_inv0 5 dX11_rest_2 rfl mlX11_157 rfl rfl (d' := 2) (by decide) (Nat.le_of_ble_eq_true rfl) (c_X11_needWeb hC ?_)
  refine w_iload_n 6 dX11_rest_5 rfl rfl ?_
  refine w_iconst 7 dX11_rest_6 rfl (v := nI 0) rfl ?_
  refine w_bipush 9 dX11_rest_7 rfl (v := nI 9) rfl ?_
  refine w_invs3 12 dX11_rest_9 rfl slX11_83 (d' := 0) (by decide) (Nat.le_of_ble_eq_true rfl) (c_X11_withinN ?_)
  refine w_invs2 15 dX11_rest_12 rfl slX11_126 (d' := 0) (by decide) (Nat.le_of_ble_eq_true rfl) (c_X11_firstOfN (Nat.lt_of_le_of_lt (t1_le _) (by decide)) ?_)
  rw [tX_first]
  refine w_inv1 18 dX11_rest_15 rfl mlX11_87 rfl rfl (d' := 0) (by decide) (Nat.le_of_ble_eq_true rfl) (c_X11_refused (Nat.lt_of_le_of_lt (tX_le (tB_le _ _)) (by decide)) ?_)
  refine w_ifeqB 23 21 dX11_rest_18 rfl rfl (fun c18 => ?_) (fun c18 => ?_)
  · skip
    have hz : tX (okW1 w) (tB 9 x) = 0 := Decidable.not_not.mp (of_decide_eq_false c18)
    have hC1 := hC.off (hC.ref (nI (tX (okW1 w) (tB 9 x))))
    skip
    exact a_X11_rest (kq (h _ (hC.ref _) (by dsimp only; rw [upd2_at])) (by unfold rRest; rw [if_pos hz]))
  · skip
    refine w_iconst 22 dX11_rest_21 rfl (v := (-1)) rfl ?_
    refine wr_i dX11_rest_22 rfl ?_
    exact kq (h _ (hC.ref _) (by dsimp only; rw [upd2_at])) (by unfold rRest; rw [if_neg (of_decide_eq_true c18)])

set_option maxRecDepth 4000 in
theorem c_X11_power {K : Option Value → AH → Prop} {dm : Nat × Nat} {G : Nat → Nat → Value} {A : AH} {b e : Nat} (he : e < 2 ^ 31) (h : K (some (.long (lN (b ^ e)))) A) : Ct yX11_power mX11_power 0 dm G [.long (lN b), .int (nI e)] A K := by
  refine Ct.of [some (.long (lN b)), none, some (.int (nI e)), none, none, none] rfl rfl rfl (Nat.le_of_ble_eq_true rfl) ?_
  have lp5 : ∀ (nf : Nat) (i : Nat), i ≤ e → e - i < nf → WP mX11_power 0 dm G 5 [some (.long (lN b)), none, some (.int (nI e)), some (.long (lN (b ^ i))), none, some (.int (nI i))] [] A K := by
    intro nf
    induction nf with
    | zero => intros; omega
    | succ nf ih =>
      intro i hi hms
      refine w_iload 7 dX11_power_5 rfl rfl ?_
      refine w_iload_n 8 dX11_power_7 rfl rfl ?_
      refine w_icgeN 21 11 dX11_power_8 rfl rfl (by omega) (by omega) (fun c8 => ?_) (fun c8 => ?_)
      · skip
        have e1 : i = e := by omega
        subst e1
        refine w_lload_n 22 dX11_power_21 rfl rfl ?_
        refine wr_l dX11_power_22 rfl ?_
        exact h
      · skip
        refine w_lload_n 12 dX11_power_11 rfl rfl ?_
        refine w_lload_n 13 dX11_power_12 rfl rfl ?_
        refine w_lmulN 14 dX11_power_13 rfl ?_
        refine w_lst3 15 dX11_power_14 rfl (by decide) rfl ?_
        refine w_inc5 18 dX11_power_15 rfl (by decide) rfl (v := nI (_ + 1)) (nI_1 _) ?_
        refine w_goto 5 dX11_power_18 rfl ?_
        exact ih (i + 1) (by omega) (by omega)
  refine w_lconst 1 dX11_power_0 rfl (v := lN 1) rfl ?_
  refine w_lst3 2 dX11_power_1 rfl (by decide) rfl ?_
  refine w_iconst 3 dX11_power_2 rfl (v := nI 0) rfl ?_
  refine w_ist5 5 dX11_power_3 rfl (by decide) rfl ?_
  exact lp5 _ 0 (Nat.zero_le _) (Nat.lt_succ_self _)

theorem c_X11_power100 {K : Option Value → AH → Prop} {dm : Nat × Nat} {G : Nat → Nat → Value} {A : AH} {e : Nat} (he : e < 2 ^ 31) (h : K (some (.long (lN (100 ^ e)))) A) : Ct yX11_power mX11_power 0 dm G [.long 100, .int (nI e)] A K := by
  rw [show (100 : Int64) = lN 100 by decide]
  exact c_X11_power he h
def chF (c H l : Nat) : Nat := (100 - c) ^ popc l * c ^ popc (H &&& (255 ^^^ l))
set_option maxRecDepth 4000 in
theorem c_X11_chanceOf {K : Option Value → AH → Prop} {A : AH} {w : WT} {s : Nat → Nat} {l H : Nat} (hC : CI w s A) (hl : l < 256) (hH : H < 256) (h : K (some (.long (lN (chF (tbz w 0 0 1) H l)))) A) : Ct yX11_chanceOf mX11_chanceOf 2 dC gC [.ref 0, .int (nI l), .int (nI H)] A K := by
  refine Ct.of [some (.ref 0), some (.int (nI l)), some (.int (nI H)), none] rfl rfl rfl (Nat.le_of_ble_eq_true rfl) ?_
  have hc := hC.2.1.2.2.2.2.2.2.2
  have hp1 := popc_le l
  have hp2 := popc_le (H &&& (255 ^^^ l))
  refine w_aload_n 1 dX11_chanceOf_0 rfl rfl ?_
  refine w_getr 4 dX11_chanceOf_1 rfl faX11_19 rfl rfl rfl (r := .ref 26) rfl ?_
  refine w_inv0 7 dX11_chanceOf_4 rfl mlX11_307 rfl rfl (d' := 1) (by decide) (Nat.le_of_ble_eq_true rfl) (c_X10_clerksInHundred_26 hC.1 ?_)
  refine w_ist3 8 dX11_chanceOf_7 rfl (by decide) rfl ?_
  refine w_bipush 10 dX11_chanceOf_8 rfl (v := nI 100) rfl ?_
  refine w_iload_n 11 dX11_chanceOf_10 rfl rfl ?_
  refine w_isubN 12 dX11_chanceOf_11 rfl (by omega) ?_
  refine w_i2lN 13 dX11_chanceOf_12 rfl (by omega) ?_
  refine w_iload_n 14 dX11_chanceOf_13 rfl rfl ?_
  refine w_invs1 17 dX11_chanceOf_14 rfl slX11_214 (d' := 0) (by decide) (Nat.le_of_ble_eq_true rfl) (c_J6_bitCount_0f7a4 hl ?_)
  refine w_invs2 20 dX11_chanceOf_17 rfl slX11_300 (d' := 0) (by decide) (Nat.le_of_ble_eq_true rfl) (c_X11_power (by omega) ?_)
  refine w_iload_n 21 dX11_chanceOf_20 rfl rfl ?_
  refine w_i2lN 22 dX11_chanceOf_21 rfl (by omega) ?_
  refine w_iload_n 23 dX11_chanceOf_22 rfl rfl ?_
  refine w_iload_n 24 dX11_chanceOf_23 rfl rfl ?_
  refine w_iconst 25 dX11_chanceOf_24 rfl (v := (-1)) rfl ?_
  refine w_ixor 26 dX11_chanceOf_25 rfl ?_
  refine w_iand 27 dX11_chanceOf_26 rfl ?_
  refine w_top (not_and hH) ?_
  refine w_invs1 30 dX11_chanceOf_27 rfl slX11_214 (d' := 0) (by decide) (Nat.le_of_ble_eq_true rfl) (c_J6_bitCount_0f7a4 (Nat.lt_of_le_of_lt Nat.and_le_left hH) ?_)
  refine w_invs2 33 dX11_chanceOf_30 rfl slX11_300 (d' := 0) (by decide) (Nat.le_of_ble_eq_true rfl) (c_X11_power (by omega) ?_)
  refine w_lmulN 34 dX11_chanceOf_33 rfl ?_
  refine wr_l dX11_chanceOf_34 rfl ?_
  exact h

theorem sumB_m0 (f : Nat → Nat) : ∀ n, sumB f 0 n = 0
  | 0 => rfl
  | n + 1 => by
    have := sumB_m0 f n
    simp only [sumB, sumTo, Nat.zero_testBit] at this ⊢
    simp at this ⊢
    exact this
theorem bearV_le8 {nn : Nat} {e1 e2 es : Nat → Nat} (h : okE e1 e2 es) {m : Nat} (hm : m < 256) (a b : Nat) : bearV nn e1 e2 es m a b ≤ 792 := by
  have hf : ∀ s, bearF e1 e2 es m s ≤ 792 := fun s => by
    have hx : acr e1 e2 s 13 &&& m < 256 := Nat.lt_of_le_of_lt Nat.and_le_right hm
    unfold bearF
    rw [sumB_13, show (acr e1 e2 s 13 &&& m) / 256 % 32 = 0 by omega, sumB_m0]
    exact sumB_le (n := 8) (fun i hi => (h i (by omega)).2.2)
  unfold bearV
  cases hm : mo (bearF e1 e2 es m) (sideP a b) (2 ^ nn) with
  | none => simp
  | some v => exact mo_le hf hm
/-- all ways to leave: the chances come to one hundred to the power -/
def gT (x y H l i : Nat) : Nat := if l.testBit i then (if H.testBit i then x else 0) else (if H.testBit i then y else 1)
theorem prodTo_cong {f g : Nat → Nat} : ∀ {n : Nat}, (∀ i, i < n → f i = g i) → prodTo f n = prodTo g n
  | 0, _ => rfl
  | n + 1, h => by simp only [prodTo]; rw [prodTo_cong (fun i hi => h i (by omega)), h n (by omega)]
theorem sumTo_mul (f : Nat → Nat) (c : Nat) : ∀ n, sumTo (fun i => f i * c) n = sumTo f n * c
  | 0 => by simp [sumTo]
  | n + 1 => by simp only [sumTo]; rw [sumTo_mul f c n, Nat.add_mul]
theorem sumTo_mono {f g : Nat → Nat} : ∀ {n : Nat}, (∀ i, i < n → f i ≤ g i) → sumTo f n ≤ sumTo g n
  | 0, _ => Nat.le_refl _
  | n + 1, h => by simp only [sumTo]; exact Nat.add_le_add (sumTo_mono (fun i hi => h i (by omega))) (h n (by omega))
theorem sumTo_up {f : Nat → Nat} {a b : Nat} (h : a ≤ b) : sumTo f a ≤ sumTo f b := by
  obtain ⟨c, rfl⟩ := Nat.exists_eq_add_of_le h
  rw [sumTo_split]; omega
theorem gSum (x y H : Nat) (h1 : 1 ≤ x + y) : ∀ n, sumTo (fun l => prodTo (gT x y H l) n) (2 ^ n) ≤ (x + y) ^ n
  | 0 => by simp [sumTo, prodTo]
  | n + 1 => by
    have ih := gSum x y H h1 n
    rw [show 2 ^ (n + 1) = 2 ^ n + 2 ^ n by rw [Nat.pow_succ]; omega, sumTo_split]
    have e1 : sumTo (fun l => prodTo (gT x y H l) (n + 1)) (2 ^ n) = sumTo (fun l => prodTo (gT x y H l) n) (2 ^ n) * (if H.testBit n then y else 1) := by
      rw [← sumTo_mul]
      refine sumTo_cong (fun l hl => ?_)
      simp only [prodTo]
      congr 1
      rw [gT, Nat.testBit_lt_two_pow hl]
      simp
    have e2 : sumTo (fun i => prodTo (gT x y H (2 ^ n + i)) (n + 1)) (2 ^ n) = sumTo (fun l => prodTo (gT x y H l) n) (2 ^ n) * (if H.testBit n then x else 0) := by
      rw [← sumTo_mul]
      refine sumTo_cong (fun l hl => ?_)
      simp only [prodTo]
      congr 1
      · refine prodTo_cong (fun i hi => ?_)
        rw [gT, gT, Nat.testBit_two_pow_add_gt hi]
      · rw [gT, Nat.testBit_two_pow_add_eq, Nat.testBit_lt_two_pow hl]
        simp
    rw [e1, e2, Nat.pow_succ, ← Nat.mul_add]
    refine Nat.mul_le_mul ih ?_
    split <;> omega
theorem gTerm {x y H l : Nat} (hs : ∀ i, l.testBit i = true → H.testBit i = true) : ∀ {n : Nat}, n ≤ 8 → prodTo (gT x y H l) n = x ^ cntTo (fun i => l.testBit i) n * y ^ cntTo (fun i => (H &&& (255 ^^^ l)).testBit i) n
  | 0, _ => rfl
  | n + 1, hn => by
    have h2 : (255 : Nat).testBit n = true := by
      rw [show (255 : Nat) = 2 ^ 8 - 1 from rfl, Nat.testBit_two_pow_sub_one]; simp; omega
    have hx : (H &&& (255 ^^^ l)).testBit n = (H.testBit n && !l.testBit n) := by
      rw [Nat.testBit_and, Nat.testBit_xor, h2, Bool.true_xor]
    simp only [prodTo, cntTo, hx]
    rw [gTerm hs (by omega), gT]
    by_cases hl : l.testBit n = true
    · have := hs n hl
      simp [hl, this, Nat.pow_succ, Nat.mul_comm, Nat.mul_left_comm]
      rw [Nat.mul_assoc]
    · by_cases hH : H.testBit n = true
      · simp [hl, hH, Nat.pow_succ, Nat.mul_assoc]
      · simp [hl, hH]
theorem chSum {c H : Nat} (hc : c ≤ 100) (hH : H < 256) {f : Nat → Nat} (hf : ∀ l, f l ≤ 1) : sumTo (fun l => if subM l H then f l * chF c H l else 0) (H + 1) ≤ 10000000000000000 := by
  refine Nat.le_trans (sumTo_up (show H + 1 ≤ 2 ^ 8 by omega)) ?_
  refine Nat.le_trans (sumTo_mono (g := fun l => prodTo (gT (100 - c) c H l) 8) (fun l hl => ?_)) ?_
  · split
    · rename_i q
      rw [gTerm ((subM_iff hl).mp q) (Nat.le_refl 8)]
      show f l * chF c H l ≤ chF c H l
      exact Nat.le_trans (Nat.mul_le_mul_right _ (hf l)) (by omega)
    · omega
  · have := gSum (100 - c) c H (by omega) 8
    rw [show 100 - c + c = 100 by omega] at this
    exact this
def boF (w : WT) (s : Nat → Nat) (a b m l : Nat) : Nat := if subM l (HM w s 0) then (if m ≤ BV w s 0 l a b then 1 else 0) * chF (tbz w 0 0 1) (HM w s 0) l else 0
def meF (w : WT) (s : Nat → Nat) (a b l : Nat) : Nat := if subM l (HM w s 0) then BV w s 0 l a b * chF (tbz w 0 0 1) (HM w s 0) l else 0
def rBearOdds (w : WT) (s : Nat → Nat) (a b m : Int32) (lo : Bool) : Int64 := if tX (ok2 w a b) (tB 800 m) = 0 then sh lo (sumTo (boF w s (cl a) (cl b) (cl m)) (HM w s 0 + 1)) (100 ^ popc (HM w s 0)) else -1
def rMean (w : WT) (s : Nat → Nat) (a b : Int32) (lo : Bool) : Int64 := if t1 (ok2 w a b) = 0 then sh lo (sumTo (meF w s (cl a) (cl b)) (HM w s 0 + 1)) (100 ^ popc (HM w s 0)) else -1
theorem p100 (m : Nat) : 100 ^ popc m < 2 ^ 63 := Nat.lt_of_le_of_lt (Nat.pow_le_pow_right (by decide) (popc_le m)) (by decide)
theorem boS {w : WT} (hw : okT w) (s : Nat → Nat) (a b m : Nat) : sumTo (boF w s a b m) (HM w s 0 + 1) < 2 ^ 63 :=
  Nat.lt_of_le_of_lt (chSum hw.2.2.2.2.2.2.2 (HM_lt w s 0) (f := fun l => if m ≤ BV w s 0 l a b then 1 else 0) (fun l => by split <;> omega)) (by decide)
theorem meS {w : WT} (hw : okT w) {s : Nat → Nat} (hs : okS s) (a b : Nat) : sumTo (meF w s a b) (HM w s 0 + 1) < 2 ^ 63 := by
  have h1 := chSum hw.2.2.2.2.2.2.2 (HM_lt w s 0) (f := fun _ => 1) (fun _ => Nat.le_refl 1)
  have h2 : sumTo (meF w s a b) (HM w s 0 + 1) ≤ sumTo (fun l => (if subM l (HM w s 0) then 1 * chF (tbz w 0 0 1) (HM w s 0) l else 0) * 792) (HM w s 0 + 1) := sumTo_mono (fun l hl => by
    have hH := HM_lt w s 0
    dsimp only [meF]
    split
    · have := bearV_le8 (nn := w.1 1) (okW hs hw.2.2.1 0) (show l < 256 by omega) a b
      rw [Nat.one_mul, Nat.mul_comm]
      exact Nat.mul_le_mul_left _ this
    · omega)
  rw [sumTo_mul] at h2
  omega
set_option maxRecDepth 4000 in
theorem a_X11_bearOdds {K : Option Value → AH → Prop} {A : AH} {w : WT} {s : Nat → Nat} {a b m : Nat} {lo : Bool} (hC : CI w s A) (hR : BRw w s 0 A) (hq : RepQ (w.1 1) (e1W w s) (e2W w s) a b A) (h32 : cntTo (sideP a b) (2 ^ w.1 1) ≤ 32) (hm : m ≤ 800) (h : ∀ x y, K (some (.long (sh lo (sumTo (boF w s a b m) (HM w s 0 + 1)) (100 ^ popc (HM w s 0))))) (A.1, upd2 (upd2 A.2 59 0 x) 59 1 y)) : WP mX11_bearOdds 5 dC gC 51 [some (.ref 0), some (.int (nI a)), some (.int (nI b)), some (.int (nI m)), some (.int (b2i lo)), some (.int (nI (HM w s 0))), none, none, none] [] A K := by
  have hH := HM_lt w s 0
  have lp57 : ∀ (nf : Nat) (i : Nat), i ≤ HM w s 0 + 1 → HM w s 0 + 1 - i < nf → WP mX11_bearOdds 5 dC gC 57 [some (.ref 0), some (.int (nI a)), some (.int (nI b)), some (.int (nI m)), some (.int (b2i lo)), some (.int (nI (HM w s 0))), some (.long (lN (sumTo (boF w s a b m) i))), none, some (.int (nI i))] [] A K := by
    intro nf
    induction nf with
    | zero => intros; omega
    | succ nf ih =>
      intro i hi hms
      have hbl := BV_le hC.2.2.2.1 hC.2.1.2.2.1 0 i a b
      refine w_iload 59 dX11_bearOdds_57 rfl rfl ?_
      refine w_iload 61 dX11_bearOdds_59 rfl rfl ?_
      refine w_icgtN 106 64 dX11_bearOdds_61 rfl rfl (by omega) (by omega) (fun c61 => ?_) (fun c61 => ?_)
      · skip
        have e : i = HM w s 0 + 1 := by omega
        subst e
        refine w_aload_n 107 dX11_bearOdds_106 rfl rfl ?_
        refine w_getr 110 dX11_bearOdds_107 rfl faX11_61 rfl rfl rfl (r := .ref 59) rfl ?_
        refine w_lload 112 dX11_bearOdds_110 rfl rfl ?_
        refine w_ldc2 115 dX11_bearOdds_112 rfl kcX11_298 ?_
        refine w_topl (show _ = lN 100 from rfl) ?_
        refine w_iload 117 dX11_bearOdds_115 rfl rfl ?_
        refine w_invs1 120 dX11_bearOdds_117 rfl slX11_214 (d' := 0) (by decide) (Nat.le_of_ble_eq_true rfl) (c_J6_bitCount_0f7a4 hH ?_)
        refine w_invs2 123 dX11_bearOdds_120 rfl slX11_300 (d' := 0) (by decide) (Nat.le_of_ble_eq_true rfl) (c_X11_power100 (by have := popc_le (HM w s 0); omega) ?_)
        refine w_inv2 126 dX11_bearOdds_123 rfl mlX11_251 rfl rfl (d' := 1) (by decide) (Nat.le_of_ble_eq_true rfl) (c_X6_set (boS hC.2.1 s a b m) (p100 _) ?_)
        refine w_aload_n 127 dX11_bearOdds_126 rfl rfl ?_
        refine w_getr 130 dX11_bearOdds_127 rfl faX11_61 rfl rfl rfl (r := .ref 59) rfl ?_
        refine w_iload 132 dX11_bearOdds_130 rfl rfl ?_
        refine w_inv1 135 dX11_bearOdds_132 rfl mlX11_255 rfl rfl (d' := 0) (by decide) (Nat.le_of_ble_eq_true rfl) (c_X6_part (by dsimp only; rw [upd2_off (by decide), upd2_at]) (by dsimp only; rw [upd2_at]) ?_)
        refine wr_l dX11_bearOdds_135 rfl ?_
        exact h _ _
      · skip
        refine w_iload 66 dX11_bearOdds_64 rfl rfl ?_
        refine w_iload 68 dX11_bearOdds_66 rfl rfl ?_
        refine w_invs2 71 dX11_bearOdds_68 rfl slX11_229 (d' := 0) (by decide) (Nat.le_of_ble_eq_true rfl) (c_X11_isWithin ?_)
        rw [isW (show i < 256 by omega)]
        refine w_ifeqB 100 74 dX11_bearOdds_71 rfl rfl (fun c71 => ?_) (fun c71 => ?_)
        · skip
          refine w_inc8 103 dX11_bearOdds_100 rfl (by decide) rfl (v := nI (_ + 1)) (nI_1 _) ?_
          refine w_goto 57 dX11_bearOdds_103 rfl ?_
          refine wp_to ?_ rfl rfl (ih (i + 1) (by omega) (by omega))
          simp [lle, sumTo, boF, c71]
        · skip
          refine w_aload_n 75 dX11_bearOdds_74 rfl rfl ?_
          refine w_getr 78 dX11_bearOdds_75 rfl faX11_40 rfl rfl rfl (r := .ref 48) rfl ?_
          refine w_iload 80 dX11_bearOdds_78 rfl rfl ?_
          refine w_inv1 83 dX11_bearOdds_80 rfl mlX11_184 rfl rfl (d' := 1) (by decide) (Nat.le_of_ble_eq_true rfl) (c_X0_borneBy hq hR.2.2.2.2 hR.2.2.2.1 h32 ?_)
          refine w_iload_n 84 dX11_bearOdds_83 rfl rfl ?_
          refine w_icltN 100 87 dX11_bearOdds_84 rfl rfl (show BV w s 0 i a b < 2 ^ 31 by omega) (by omega) (fun c84 => ?_) (fun c84 => ?_)
          · skip
            refine w_inc8 103 dX11_bearOdds_100 rfl (by decide) rfl (v := nI (_ + 1)) (nI_1 _) ?_
            refine w_goto 57 dX11_bearOdds_103 rfl ?_
            have c84 : BV w s 0 i a b < m := c84
            refine wp_to ?_ rfl rfl (ih (i + 1) (by omega) (by omega))
            simp [lle, sumTo, boF, c71, Nat.not_le.mpr c84]
          · skip
            refine w_lload 89 dX11_bearOdds_87 rfl rfl ?_
            refine w_aload_n 90 dX11_bearOdds_89 rfl rfl ?_
            refine w_iload 92 dX11_bearOdds_90 rfl rfl ?_
            refine w_iload 94 dX11_bearOdds_92 rfl rfl ?_
            refine w_inv2 97 dX11_bearOdds_94 rfl mlX11_294 rfl rfl (d' := 2) (by decide) (Nat.le_of_ble_eq_true rfl) (c_X11_chanceOf hC (by omega) hH ?_)
            refine w_laddN 98 dX11_bearOdds_97 rfl ?_
            refine w_lst6 100 dX11_bearOdds_98 rfl (by decide) rfl ?_
            refine w_inc8 103 dX11_bearOdds_100 rfl (by decide) rfl (v := nI (_ + 1)) (nI_1 _) ?_
            refine w_goto 57 dX11_bearOdds_103 rfl ?_
            have c84 : m ≤ BV w s 0 i a b := c84
            refine wp_to ?_ rfl rfl (ih (i + 1) (by omega) (by omega))
            simp [lle, sumTo, boF, c71, c84]
  refine w_lconst 52 dX11_bearOdds_51 rfl (v := lN 0) rfl ?_
  refine w_lst6 54 dX11_bearOdds_52 rfl (by decide) rfl ?_
  refine w_iconst 55 dX11_bearOdds_54 rfl (v := nI 0) rfl ?_
  refine w_ist8 57 dX11_bearOdds_55 rfl (by decide) rfl ?_
  exact lp57 _ 0 (Nat.zero_le _) (Nat.lt_succ_self _)

set_option maxRecDepth 4000 in
theorem c_X11_bearOdds {K : Option Value → AH → Prop} {A : AH} {w : WT} {s : Nat → Nat} (hC : CI w s A) {a b m : Int32} {lo : Bool} (h : ∀ A', Qk A A' → A'.1 0 8 = nI (tX (ok2 w a b) (tB 800 m)) → K (some (.long (rBearOdds w s a b m lo))) A') : Ct yX11_bearOdds mX11_bearOdds 5 dC gC [.ref 0, .int a, .int b, .int m, .int (b2i lo)] A K := by
  refine Ct.of [some (.ref 0), some (.int a), some (.int b), some (.int m), some (.int (b2i lo)), none, none, none, none] rfl rfl rfl (Nat.le_of_ble_eq_true rfl) ?_
  refine w_aload_n 1 dX11_bearOdds_0 rfl rfl ?_
  refine w_aload_n 2 dX11_bearOdds_1 rfl rfl ?_
  refine w_iload_n 3 dX11_bearOdds_2 rfl rfl ?_
  refine w_iload_n 4 dX11_bearOdds_3 rfl rfl ?_
  refine w_inv2 7 dX11_bearOdds_4 rfl mlX11_167 rfl rfl (d' := 4) (by decide) (Nat.le_of_ble_eq_true rfl) (c_X11_needTwoNails hC ?_)
  refine w_iload_n 8 dX11_bearOdds_7 rfl rfl ?_
  refine w_iconst 9 dX11_bearOdds_8 rfl (v := nI 0) rfl ?_
  refine w_sipush 12 dX11_bearOdds_9 rfl (v := nI 800) rfl ?_
  refine w_invs3 15 dX11_bearOdds_12 rfl slX11_83 (d' := 0) (by decide) (Nat.le_of_ble_eq_true rfl) (c_X11_withinN ?_)
  refine w_invs2 18 dX11_bearOdds_15 rfl slX11_126 (d' := 0) (by decide) (Nat.le_of_ble_eq_true rfl) (c_X11_firstOfN (Nat.lt_of_le_of_lt (t1_le _) (by decide)) ?_)
  rw [tX_first]
  refine w_inv1 21 dX11_bearOdds_18 rfl mlX11_87 rfl rfl (d' := 0) (by decide) (Nat.le_of_ble_eq_true rfl) (c_X11_refused (Nat.lt_of_le_of_lt (tX_le (tB_le _ _)) (by decide)) ?_)
  refine w_ifeqB 28 24 dX11_bearOdds_21 rfl rfl (fun c21 => ?_) (fun c21 => ?_)
  · skip
    have hz : tX (ok2 w a b) (tB 800 m) = 0 := Decidable.not_not.mp (of_decide_eq_false c21)
    have hC1 := hC.off (hC.ref (nI (tX (ok2 w a b) (tB 800 m))))
    obtain ⟨k1, k2⟩ := tX_0 hz
    have hw7 := hC.2.1.2.2.1.1
    obtain ⟨a, b, rfl, rfl, ha, hb, hab⟩ := ok2_of k1 hw7
    obtain ⟨m, rfl, hm⟩ := tB_of (by decide) k2
    have h32 := h32of hw7 ha hb hab
    refine w_aload_n 29 dX11_bearOdds_28 rfl rfl ?_
    refine w_iconst 30 dX11_bearOdds_29 rfl (v := nI 0) rfl ?_
    refine w_inv1 33 dX11_bearOdds_30 rfl mlX11_145 rfl rfl (d' := 4) (by decide) (Nat.le_of_ble_eq_true rfl) (c_X11_goBehind hC1 (by decide) (fun A2 hR hQ => ?_))
    refine w_aload_n 34 dX11_bearOdds_33 rfl rfl ?_
    refine w_getr 37 dX11_bearOdds_34 rfl faX11_40 rfl rfl rfl (r := .ref 48) rfl ?_
    refine w_iload_n 38 dX11_bearOdds_37 rfl rfl ?_
    refine w_iload_n 39 dX11_bearOdds_38 rfl rfl ?_
    refine w_inv2 42 dX11_bearOdds_39 rfl mlX11_173 rfl rfl (d' := 2) (by decide) (Nat.le_of_ble_eq_true rfl) (c_X0_part hR.1 hR.2.1 hR.2.2.1 hR.2.2.2.1 (by omega) (by omega) hab (fun A3 hq h73 hO3 => ?_))
    have hR3 : BRw w s 0 A3 := hR.off h73 hO3
    have hQ3 := hQ.tr (Qi.sub hQ.2 hO3 (by decide) (by decide) (by decide))
    have hC3 := hC1.off hQ3.q
    have hH := HM_lt w s 0
    refine w_aload_n 43 dX11_bearOdds_42 rfl rfl ?_
    refine w_getr 46 dX11_bearOdds_43 rfl faX11_40 rfl rfl rfl (r := .ref 48) rfl ?_
    refine w_inv0 49 dX11_bearOdds_46 rfl mlX11_161 rfl rfl (d' := 0) (by decide) (Nat.le_of_ble_eq_true rfl) (c_X0_heldH hR3 ?_)
    refine w_ist5 51 dX11_bearOdds_49 rfl (by decide) rfl ?_
    exact a_X11_bearOdds hC3 hR3 hq h32 hm (fun x y => have hQ4 := hQ3.tr (Qi.set hQ3.2 x y); kl (h _ (hC.fin hQ4).1 (hC.fin hQ4).2) (by unfold rBearOdds; rw [if_pos hz, cl_nI (show a < 2 ^ 31 by omega), cl_nI (show b < 2 ^ 31 by omega), cl_nI (show m < 2 ^ 31 by omega)]))
  · skip
    refine w_ldc2 27 dX11_bearOdds_24 rfl kcX11_241 ?_
    refine wr_l dX11_bearOdds_27 rfl ?_
    exact kl (h _ (hC.ref _) (by dsimp only; rw [upd2_at])) (by unfold rBearOdds; rw [if_neg (of_decide_eq_true c21)])

set_option maxRecDepth 4000 in
theorem a_X11_mean {K : Option Value → AH → Prop} {A : AH} {w : WT} {s : Nat → Nat} {a b : Nat} {lo : Bool} (hC : CI w s A) (hR : BRw w s 0 A) (hq : RepQ (w.1 1) (e1W w s) (e2W w s) a b A) (h32 : cntTo (sideP a b) (2 ^ w.1 1) ≤ 32) (h : ∀ x y, K (some (.long (sh lo (sumTo (meF w s a b) (HM w s 0 + 1)) (100 ^ popc (HM w s 0))))) (A.1, upd2 (upd2 A.2 59 0 x) 59 1 y)) : WP mX11_mean 5 dC gC 40 [some (.ref 0), some (.int (nI a)), some (.int (nI b)), some (.int (b2i lo)), some (.int (nI (HM w s 0))), none, none, none] [] A K := by
  have hH := HM_lt w s 0
  have lp46 : ∀ (nf : Nat) (i : Nat), i ≤ HM w s 0 + 1 → HM w s 0 + 1 - i < nf → WP mX11_mean 5 dC gC 46 [some (.ref 0), some (.int (nI a)), some (.int (nI b)), some (.int (b2i lo)), some (.int (nI (HM w s 0))), some (.long (lN (sumTo (meF w s a b) i))), none, some (.int (nI i))] [] A K := by
    intro nf
    induction nf with
    | zero => intros; omega
    | succ nf ih =>
      intro i hi hms
      have hbl := BV_le hC.2.2.2.1 hC.2.1.2.2.1 0 i a b
      refine w_iload 48 dX11_mean_46 rfl rfl ?_
      refine w_iload 50 dX11_mean_48 rfl rfl ?_
      refine w_icgtN 93 53 dX11_mean_50 rfl rfl (by omega) (by omega) (fun c50 => ?_) (fun c50 => ?_)
      · skip
        have e : i = HM w s 0 + 1 := by omega
        subst e
        refine w_aload_n 94 dX11_mean_93 rfl rfl ?_
        refine w_getr 97 dX11_mean_94 rfl faX11_61 rfl rfl rfl (r := .ref 59) rfl ?_
        refine w_lload 99 dX11_mean_97 rfl rfl ?_
        refine w_ldc2 102 dX11_mean_99 rfl kcX11_298 ?_
        refine w_topl (show _ = lN 100 from rfl) ?_
        refine w_iload 104 dX11_mean_102 rfl rfl ?_
        refine w_invs1 107 dX11_mean_104 rfl slX11_214 (d' := 0) (by decide) (Nat.le_of_ble_eq_true rfl) (c_J6_bitCount_0f7a4 hH ?_)
        refine w_invs2 110 dX11_mean_107 rfl slX11_300 (d' := 0) (by decide) (Nat.le_of_ble_eq_true rfl) (c_X11_power100 (by have := popc_le (HM w s 0); omega) ?_)
        refine w_inv2 113 dX11_mean_110 rfl mlX11_251 rfl rfl (d' := 1) (by decide) (Nat.le_of_ble_eq_true rfl) (c_X6_set (meS hC.2.1 hC.2.2.2.1 a b) (p100 _) ?_)
        refine w_aload_n 114 dX11_mean_113 rfl rfl ?_
        refine w_getr 117 dX11_mean_114 rfl faX11_61 rfl rfl rfl (r := .ref 59) rfl ?_
        refine w_iload_n 118 dX11_mean_117 rfl rfl ?_
        refine w_inv1 121 dX11_mean_118 rfl mlX11_255 rfl rfl (d' := 0) (by decide) (Nat.le_of_ble_eq_true rfl) (c_X6_part (by dsimp only; rw [upd2_off (by decide), upd2_at]) (by dsimp only; rw [upd2_at]) ?_)
        refine wr_l dX11_mean_121 rfl ?_
        exact h _ _
      · skip
        refine w_iload 55 dX11_mean_53 rfl rfl ?_
        refine w_iload 57 dX11_mean_55 rfl rfl ?_
        refine w_invs2 60 dX11_mean_57 rfl slX11_229 (d' := 0) (by decide) (Nat.le_of_ble_eq_true rfl) (c_X11_isWithin ?_)
        rw [isW (show i < 256 by omega)]
        refine w_ifeqB 87 63 dX11_mean_60 rfl rfl (fun c60 => ?_) (fun c60 => ?_)
        · skip
          refine w_inc7 90 dX11_mean_87 rfl (by decide) rfl (v := nI (_ + 1)) (nI_1 _) ?_
          refine w_goto 46 dX11_mean_90 rfl ?_
          refine wp_to ?_ rfl rfl (ih (i + 1) (by omega) (by omega))
          simp [lle, sumTo, meF, c60]
        · skip
          refine w_lload 65 dX11_mean_63 rfl rfl ?_
          refine w_aload_n 66 dX11_mean_65 rfl rfl ?_
          refine w_getr 69 dX11_mean_66 rfl faX11_40 rfl rfl rfl (r := .ref 48) rfl ?_
          refine w_iload 71 dX11_mean_69 rfl rfl ?_
          refine w_inv1 74 dX11_mean_71 rfl mlX11_184 rfl rfl (d' := 1) (by decide) (Nat.le_of_ble_eq_true rfl) (c_X0_borneBy hq hR.2.2.2.2 hR.2.2.2.1 h32 ?_)
          refine w_i2lN 75 dX11_mean_74 rfl (show BV w s 0 i a b < 2 ^ 31 by omega) ?_
          refine w_aload_n 76 dX11_mean_75 rfl rfl ?_
          refine w_iload 78 dX11_mean_76 rfl rfl ?_
          refine w_iload 80 dX11_mean_78 rfl rfl ?_
          refine w_inv2 83 dX11_mean_80 rfl mlX11_294 rfl rfl (d' := 2) (by decide) (Nat.le_of_ble_eq_true rfl) (c_X11_chanceOf hC (by omega) hH ?_)
          refine w_lmulN 84 dX11_mean_83 rfl ?_
          refine w_laddN 85 dX11_mean_84 rfl ?_
          refine w_lst5 87 dX11_mean_85 rfl (by decide) rfl ?_
          refine w_inc7 90 dX11_mean_87 rfl (by decide) rfl (v := nI (_ + 1)) (nI_1 _) ?_
          refine w_goto 46 dX11_mean_90 rfl ?_
          refine wp_to ?_ rfl rfl (ih (i + 1) (by omega) (by omega))
          simp [lle, sumTo, meF, c60]
          rfl
  refine w_lconst 41 dX11_mean_40 rfl (v := lN 0) rfl ?_
  refine w_lst5 43 dX11_mean_41 rfl (by decide) rfl ?_
  refine w_iconst 44 dX11_mean_43 rfl (v := nI 0) rfl ?_
  refine w_ist7 46 dX11_mean_44 rfl (by decide) rfl ?_
  exact lp46 _ 0 (Nat.zero_le _) (Nat.lt_succ_self _)

set_option maxRecDepth 4000 in
theorem c_X11_mean {K : Option Value → AH → Prop} {A : AH} {w : WT} {s : Nat → Nat} (hC : CI w s A) {a b : Int32} {lo : Bool} (h : ∀ A', Qk A A' → A'.1 0 8 = nI (t1 (ok2 w a b)) → K (some (.long (rMean w s a b lo))) A') : Ct yX11_mean mX11_mean 5 dC gC [.ref 0, .int a, .int b, .int (b2i lo)] A K := by
  refine Ct.of [some (.ref 0), some (.int a), some (.int b), some (.int (b2i lo)), none, none, none, none] rfl rfl rfl (Nat.le_of_ble_eq_true rfl) ?_
  refine w_aload_n 1 dX11_mean_0 rfl rfl ?_
  refine w_aload_n 2 dX11_mean_1 rfl rfl ?_
  refine w_iload_n 3 dX11_mean_2 rfl rfl ?_
  refine w_iload_n 4 dX11_mean_3 rfl rfl ?_
  refine w_inv2 7 dX11_mean_4 rfl mlX11_167 rfl rfl (d' := 4) (by decide) (Nat.le_of_ble_eq_true rfl) (c_X11_needTwoNails hC ?_)
  refine w_inv1 10 dX11_mean_7 rfl mlX11_87 rfl rfl (d' := 0) (by decide) (Nat.le_of_ble_eq_true rfl) (c_X11_refused (Nat.lt_of_le_of_lt (t1_le _) (by decide)) ?_)
  refine w_ifeqB 17 13 dX11_mean_10 rfl rfl (fun c10 => ?_) (fun c10 => ?_)
  · skip
    have hz : t1 (ok2 w a b) = 0 := Decidable.not_not.mp (of_decide_eq_false c10)
    have hC1 := hC.off (hC.ref (nI (t1 (ok2 w a b))))
    have k1 := t1_0 hz
    have hw7 := hC.2.1.2.2.1.1
    obtain ⟨a, b, rfl, rfl, ha, hb, hab⟩ := ok2_of k1 hw7
    have h32 := h32of hw7 ha hb hab
    refine w_aload_n 18 dX11_mean_17 rfl rfl ?_
    refine w_iconst 19 dX11_mean_18 rfl (v := nI 0) rfl ?_
    refine w_inv1 22 dX11_mean_19 rfl mlX11_145 rfl rfl (d' := 4) (by decide) (Nat.le_of_ble_eq_true rfl) (c_X11_goBehind hC1 (by decide) (fun A2 hR hQ => ?_))
    refine w_aload_n 23 dX11_mean_22 rfl rfl ?_
    refine w_getr 26 dX11_mean_23 rfl faX11_40 rfl rfl rfl (r := .ref 48) rfl ?_
    refine w_iload_n 27 dX11_mean_26 rfl rfl ?_
    refine w_iload_n 28 dX11_mean_27 rfl rfl ?_
    refine w_inv2 31 dX11_mean_28 rfl mlX11_173 rfl rfl (d' := 2) (by decide) (Nat.le_of_ble_eq_true rfl) (c_X0_part hR.1 hR.2.1 hR.2.2.1 hR.2.2.2.1 (by omega) (by omega) hab (fun A3 hq h73 hO3 => ?_))
    have hR3 : BRw w s 0 A3 := hR.off h73 hO3
    have hQ3 := hQ.tr (Qi.sub hQ.2 hO3 (by decide) (by decide) (by decide))
    have hC3 := hC1.off hQ3.q
    have hH := HM_lt w s 0
    refine w_aload_n 32 dX11_mean_31 rfl rfl ?_
    refine w_getr 35 dX11_mean_32 rfl faX11_40 rfl rfl rfl (r := .ref 48) rfl ?_
    refine w_inv0 38 dX11_mean_35 rfl mlX11_161 rfl rfl (d' := 0) (by decide) (Nat.le_of_ble_eq_true rfl) (c_X0_heldH hR3 ?_)
    refine w_ist4 40 dX11_mean_38 rfl (by decide) rfl ?_
    exact a_X11_mean hC3 hR3 hq h32 (fun x y => have hQ4 := hQ3.tr (Qi.set hQ3.2 x y); kl (h _ (hC.fin hQ4).1 (hC.fin hQ4).2) (by unfold rMean; rw [if_pos hz, cl_nI (show a < 2 ^ 31 by omega), cl_nI (show b < 2 ^ 31 by omega)]))
  · skip
    refine w_ldc2 16 dX11_mean_13 rfl kcX11_241 ?_
    refine wr_l dX11_mean_16 rfl ?_
    exact kl (h _ (hC.ref _) (by dsimp only; rw [upd2_at])) (by unfold rMean; rw [if_neg (of_decide_eq_true c10)])
