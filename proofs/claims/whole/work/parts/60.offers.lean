/-! ===== the reference: offers, cut ===== -/
def ctS (w : WT) (s : Nat → Nat) (n sd : Nat) : Nat := maskTo (fun e => decide (0 < esW w s n e) && crB (e1W w s) (e2W w s) sd e) (s 1)
def ctO (w : WT) (s : Nat → Nat) (n a b : Nat) : Nat → Option Nat
  | 0 => none
  | sd + 1 => if (sideP a b sd && decide (crW w s n sd 0 = LB w s n 0 a b)) = true then (match ctO w s n a b sd with
    | none => some (ctS w s n sd)
    | some x => if lessB (ctS w s n sd) x then some (ctS w s n sd) else some x) else ctO w s n a b sd
def qCut (w : WT) (s : Nat → Nat) (a b n : Int32) : Int32 := if tY (ok2 w a b) n = 0 then encO (ctO w s (cl n) (cl a) (cl b) (2 ^ w.1 1)) else -1
theorem ctS_lt {w : WT} {s : Nat → Nat} (h8 : s 1 ≤ 8) (n sd : Nat) : ctS w s n sd < 256 := Nat.lt_of_lt_of_le (maskTo_lt _ _) (show 2 ^ s 1 ≤ 2 ^ 8 from Nat.pow_le_pow_right (by decide) h8)
theorem ctO_lt {w : WT} {s : Nat → Nat} (h8 : s 1 ≤ 8) {n a b x : Nat} : ∀ {sd : Nat}, ctO w s n a b sd = some x → x < 256
  | 0, h => by simp [ctO] at h
  | sd + 1, h => by
    simp only [ctO] at h
    split at h
    · split at h
      · cases h; exact ctS_lt h8 n sd
      · rename_i y hy
        split at h
        · cases h; exact ctS_lt h8 n sd
        · cases h; exact ctO_lt h8 hy
    · exact ctO_lt h8 h
theorem enc_m1 {o : Option Nat} (h : ∀ v, o = some v → v < 2 ^ 31) : encO o = -1 ↔ o = none := by
  cases o with
  | none => exact ⟨fun _ => rfl, fun _ => rfl⟩
  | some v => exact ⟨fun z => absurd z (nI_m1 (h v rfl)), fun z => by cases z⟩
set_option maxRecDepth 4000 in
theorem c_X13_laysOffers {K : Option Value → AH → Prop} {A : AH} {r : Value} {w : WT} {s : Nat → Nat} {o : Nat} {y : EY} (hC : MC w s A) (hY : RY y.1 y.2.1 y.2.2.1 y.2.2.2 A) (hy : y.1 ≤ 8) (ho : o < 2 ^ 31) (h : ∀ A', RY (ofY w o y (w.1 5)).1 (ofY w o y (w.1 5)).2.1 (ofY w o y (w.1 5)).2.2.1 (ofY w o y (w.1 5)).2.2.2 A' → QM A A' → K none A') : Ct yX13_laysOffers mX13_laysOffers 1 dM (GG (.ref 111) r) [.ref 100, .int (nI o)] A K := by
  refine Ct.of [some (.ref 100), some (.int (nI o)), none] rfl rfl rfl (Nat.le_of_ble_eq_true rfl) ?_
  have hr := hC.rooms
  have lp2 : ∀ (nf : Nat) (i : Nat) (A' : AH), i ≤ w.1 5 → RY (ofY w o y i).1 (ofY w o y i).2.1 (ofY w o y i).2.2.1 (ofY w o y i).2.2.2 A' → QM A A' → w.1 5 - i < nf → WP mX13_laysOffers 1 dM (GG (.ref 111) r) 2 [some (.ref 100), some (.int (nI o)), some (.int (nI i))] [] A' K := by
    intro nf
    induction nf with
    | zero => intros; omega
    | succ nf ih =>
      intro i A' hi hY2 hQ hms
      have hC2 := hC.q hQ
      have hle := ofY_le (w := w) (o := o) (y := y) i
      refine w_iload_n 3 dX13_laysOffers_2 rfl rfl ?_
      refine w_aload_n 4 dX13_laysOffers_3 rfl rfl ?_
      refine w_getr 7 dX13_laysOffers_4 rfl faX13_343 rfl rfl rfl (r := .ref 111) rfl ?_
      refine w_getiv 10 dX13_laysOffers_7 rfl faX13_298 rfl rfl rfl (hC2.1.2.1 5 (by decide) (by decide)) ?_
      refine w_icgeN 58 13 dX13_laysOffers_10 rfl rfl (by omega) (by omega) (fun c10 => ?_) (fun c10 => ?_)
      · skip
        refine wr_v dX13_laysOffers_58 rfl ?_
        have e : i = w.1 5 := by omega
        subst e
        exact h A' hY2 hQ
      · skip
        refine w_iload_n 14 dX13_laysOffers_13 rfl rfl ?_
        refine w_iload_n 15 dX13_laysOffers_14 rfl rfl ?_
        refine w_invs2 18 dX13_laysOffers_15 rfl slX13_277 (d' := 0) (by decide) (Nat.le_of_ble_eq_true rfl) (c_X13_bit ?_)
        rw [hasB_nI (by omega) (by omega)]
        refine w_ifeqB 52 21 dX13_laysOffers_18 rfl rfl (fun c18 => ?_) (fun c18 => ?_)
        · skip
          refine w_inc2 55 dX13_laysOffers_52 rfl (by decide) rfl (v := nI (_ + 1)) (nI_1 _) ?_
          refine w_goto 2 dX13_laysOffers_55 rfl ?_
          refine ih (i + 1) A' (by omega) ?_ hQ (by omega)
          simp only [ofY, c18]
          exact hY2
        · skip
          have he := hC.ent (J := 5) (by decide) c10
          simp only [eOK] at he
          obtain ⟨q0, q1, q2, q3⟩ := hC2.1.2.2.2.2.2.1 i c10
          refine w_aload_n 22 dX13_laysOffers_21 rfl rfl ?_
          refine w_aload_n 23 dX13_laysOffers_22 rfl rfl ?_
          refine w_getr 26 dX13_laysOffers_23 rfl faX13_343 rfl rfl rfl (r := .ref 111) rfl ?_
          refine w_getr 29 dX13_laysOffers_26 rfl faX13_303 rfl rfl rfl (r := .ref 121) rfl ?_
          refine w_iload_n 30 dX13_laysOffers_29 rfl rfl ?_
          refine w_ialdv 31 dX13_laysOffers_30 rfl rfl rfl (by decide) (by omega) q0 ?_
          refine w_aload_n 32 dX13_laysOffers_31 rfl rfl ?_
          refine w_getr 35 dX13_laysOffers_32 rfl faX13_343 rfl rfl rfl (r := .ref 111) rfl ?_
          refine w_getr 38 dX13_laysOffers_35 rfl faX13_306 rfl rfl rfl (r := .ref 122) rfl ?_
          refine w_iload_n 39 dX13_laysOffers_38 rfl rfl ?_
          refine w_ialdv 40 dX13_laysOffers_39 rfl rfl rfl (by decide) (by omega) q1 ?_
          refine w_aload_n 41 dX13_laysOffers_40 rfl rfl ?_
          refine w_getr 44 dX13_laysOffers_41 rfl faX13_343 rfl rfl rfl (r := .ref 111) rfl ?_
          refine w_getr 47 dX13_laysOffers_44 rfl faX13_309 rfl rfl rfl (r := .ref 123) rfl ?_
          refine w_iload_n 48 dX13_laysOffers_47 rfl rfl ?_
          refine w_ialdv 49 dX13_laysOffers_48 rfl rfl rfl (by decide) (by omega) q2 ?_
          refine w_inv3 52 dX13_laysOffers_49 rfl mlX13_372 rfl rfl (d' := 0) (by decide) (Nat.le_of_ble_eq_true rfl) (c_X13_edge hY2 (by omega) (by omega) (by omega) (by omega) (fun A3 hY3 hQ3 hx3 => ?_))
          refine w_inc2 55 dX13_laysOffers_52 rfl (by decide) rfl (v := nI (_ + 1)) (nI_1 _) ?_
          refine w_goto 2 dX13_laysOffers_55 rfl ?_
          refine ih (i + 1) A3 (by omega) ?_ (hQ.tr hQ3) (by omega)
          simp only [ofY, c18, if_pos]
          exact hY3
  refine w_iconst 1 dX13_laysOffers_0 rfl (v := nI 0) rfl ?_
  refine w_ist2 2 dX13_laysOffers_1 rfl (by decide) rfl ?_
  exact lp2 _ 0 A (Nat.zero_le _) hY QM.rf (Nat.lt_succ_self _)

set_option maxRecDepth 4000 in
theorem c_X13_costOf {K : Option Value → AH → Prop} {A : AH} {r : Value} {w : WT} {s : Nat → Nat} {m : Nat} (hC : MC w s A) (hm : m < 2 ^ 31) (h : K (some (.int (nI (costF w m)))) A) : Ct yX13_costOf mX13_costOf 1 dM (GG (.ref 111) r) [.ref 100, .int (nI m)] A K := by
  refine Ct.of [some (.ref 100), some (.int (nI m)), none, none] rfl rfl rfl (Nat.le_of_ble_eq_true rfl) ?_
  have hr := hC.rooms
  have lp4 : ∀ (nf : Nat) (i : Nat), i ≤ w.1 5 → w.1 5 - i < nf → WP mX13_costOf 1 dM (GG (.ref 111) r) 4 [some (.ref 100), some (.int (nI m)), some (.int (nI (sumTo (fun k => if m.testBit k then w.2 5 k 3 else 0) i))), some (.int (nI i))] [] A K := by
    intro nf
    induction nf with
    | zero => intros; omega
    | succ nf ih =>
      intro i hi hms
      refine w_iload_n 5 dX13_costOf_4 rfl rfl ?_
      refine w_aload_n 6 dX13_costOf_5 rfl rfl ?_
      refine w_getr 9 dX13_costOf_6 rfl faX13_343 rfl rfl rfl (r := .ref 111) rfl ?_
      refine w_getiv 12 dX13_costOf_9 rfl faX13_298 rfl rfl rfl (hC.1.2.1 5 (by decide) (by decide)) ?_
      refine w_icgeN 45 15 dX13_costOf_12 rfl rfl (by omega) (by omega) (fun c12 => ?_) (fun c12 => ?_)
      · skip
        have e : i = w.1 5 := by omega
        subst e
        refine w_iload_n 46 dX13_costOf_45 rfl rfl ?_
        refine wr_i dX13_costOf_46 rfl ?_
        exact h
      · skip
        refine w_iload_n 16 dX13_costOf_15 rfl rfl ?_
        refine w_iload_n 17 dX13_costOf_16 rfl rfl ?_
        refine w_iload_n 18 dX13_costOf_17 rfl rfl ?_
        refine w_invs2 21 dX13_costOf_18 rfl slX13_277 (d' := 0) (by decide) (Nat.le_of_ble_eq_true rfl) (c_X13_bit ?_)
        rw [hasB_nI (by omega) (by omega)]
        refine w_ifeqB 36 24 dX13_costOf_21 rfl rfl (fun c21 => ?_) (fun c21 => ?_)
        · skip
          refine w_iconst 37 dX13_costOf_36 rfl (v := nI 0) rfl ?_
          refine w_iaddN 38 dX13_costOf_37 rfl ?_
          refine w_ist2 39 dX13_costOf_38 rfl (by decide) rfl ?_
          refine w_inc3 42 dX13_costOf_39 rfl (by decide) rfl (v := nI (_ + 1)) (nI_1 _) ?_
          refine w_goto 4 dX13_costOf_42 rfl ?_
          refine wp_eq ?_ rfl rfl (ih (i + 1) (by omega) (by omega))
          simp [sumTo, c21]
        · skip
          refine w_aload_n 25 dX13_costOf_24 rfl rfl ?_
          refine w_getr 28 dX13_costOf_25 rfl faX13_343 rfl rfl rfl (r := .ref 111) rfl ?_
          refine w_getr 31 dX13_costOf_28 rfl faX13_311 rfl rfl rfl (r := .ref 124) rfl ?_
          refine w_iload_n 32 dX13_costOf_31 rfl rfl ?_
          refine w_ialdv 33 dX13_costOf_32 rfl rfl rfl (by decide) (by omega) (hC.1.2.2.2.2.2.1 i c12).2.2.2 ?_
          refine w_goto 37 dX13_costOf_33 rfl ?_
          refine w_iaddN 38 dX13_costOf_37 rfl ?_
          refine w_ist2 39 dX13_costOf_38 rfl (by decide) rfl ?_
          refine w_inc3 42 dX13_costOf_39 rfl (by decide) rfl (v := nI (_ + 1)) (nI_1 _) ?_
          refine w_goto 4 dX13_costOf_42 rfl ?_
          refine wp_eq ?_ rfl rfl (ih (i + 1) (by omega) (by omega))
          simp [sumTo, c21]
  refine w_iconst 1 dX13_costOf_0 rfl (v := nI 0) rfl ?_
  refine w_ist2 2 dX13_costOf_1 rfl (by decide) rfl ?_
  refine w_iconst 3 dX13_costOf_2 rfl (v := nI 0) rfl ?_
  refine w_ist3 4 dX13_costOf_3 rfl (by decide) rfl ?_
  exact lp4 _ 0 (Nat.zero_le _) (Nat.lt_succ_self _)

set_option maxRecDepth 4000 in
theorem c_X13_mending {K : Option Value → AH → Prop} {A : AH} {r : Value} {w : WT} {s : Nat → Nat} (hC : MC w s A) (h : ∀ A', QM A A' → K (some (.int (enc2 (mqB w s (2 ^ w.1 5))))) A') : Ct yX13_mending mX13_mending 5 dM (GG (.ref 111) r) [.ref 100] A K := by
  refine Ct.of [some (.ref 100), none, none] rfl rfl rfl (Nat.le_of_ble_eq_true rfl) ?_
  have hr := hC.rooms
  have h32 := pw5 hr.2.2.2.2.2.1
  have h8 := hC.2.2.2.1.2.1
  have hcl := costF_le hC.okT
  have lp5 : ∀ (nf : Nat) (i : Nat) (A' : AH), i ≤ 2 ^ w.1 5 → QM A A' → 2 ^ w.1 5 - i < nf → WP mX13_mending 5 dM (GG (.ref 111) r) 5 [some (.ref 100), some (.int (enc2 (mqB w s i))), some (.int (nI i))] [] A' K := by
    intro nf
    induction nf with
    | zero => intros; omega
    | succ nf ih =>
      intro i A' hi hQ hms
      have hC2 := hC.q hQ
      have hci := hcl i
      refine w_iload_n 6 dX13_mending_5 rfl rfl ?_
      refine w_iconst 7 dX13_mending_6 rfl (v := nI 1) rfl ?_
      refine w_aload_n 8 dX13_mending_7 rfl rfl ?_
      refine w_getr 11 dX13_mending_8 rfl faX13_343 rfl rfl rfl (r := .ref 111) rfl ?_
      refine w_getiv 14 dX13_mending_11 rfl faX13_298 rfl rfl rfl (hC2.1.2.1 5 (by decide) (by decide)) ?_
      refine w_shl1 15 dX13_mending_14 rfl (by omega) ?_
      refine w_icgeN 75 18 dX13_mending_15 rfl rfl (by omega) (by omega) (fun c15 => ?_) (fun c15 => ?_)
      · skip
        have e : i = 2 ^ w.1 5 := by omega
        subst e
        refine w_iload_n 76 dX13_mending_75 rfl rfl ?_
        refine wr_i dX13_mending_76 rfl ?_
        exact h A' hQ
      · skip
        refine w_iload_n 19 dX13_mending_18 rfl rfl ?_
        refine w_bipush 21 dX13_mending_19 rfl (v := (-2)) rfl ?_
        refine w_iceq 40 24 dX13_mending_21 rfl rfl (fun c21 => ?_) (fun c21 => ?_)
        · skip
          have hno : mqB w s i = none := (enc2_m2 (fun k hk => by have := mqB_lt hk; omega)).mp c21
          have hls : lsO (costF w) i (mqB w s i) = true := by rw [hno]; rfl
          refine w_aload_n 41 dX13_mending_40 rfl rfl ?_
          refine w_iconst 42 dX13_mending_41 rfl (v := nI 0) rfl ?_
          refine w_inv1 45 dX13_mending_42 rfl mlX13_398 rfl rfl (d' := 3) (by decide) (Nat.le_of_ble_eq_true rfl) (c_X13_lays hC2 (by decide) (fun A3 hY hX hQ3 => ?_))
          have hC3 := hC2.q hQ3
          refine w_aload_n 46 dX13_mending_45 rfl rfl ?_
          refine w_iload_n 47 dX13_mending_46 rfl rfl ?_
          refine w_inv1 50 dX13_mending_47 rfl mlX13_433 rfl rfl (d' := 1) (by decide) (Nat.le_of_ble_eq_true rfl) (c_X13_laysOffers (y := (s 1, e1W w s, e2W w s, esW w s 0)) hC3 hY h8 (by omega) (fun A4 hY4 hQ4 => ?_))
          have hC4 := hC3.q hQ4
          have hlt : ldO w s i < 16 := ldN_lt hr.2.2.2.2.1
          refine w_aload_n 51 dX13_mending_50 rfl rfl ?_
          refine w_inv0 54 dX13_mending_51 rfl mlX13_421 rfl rfl (d' := 4) (by decide) (Nat.le_of_ble_eq_true rfl) (c_X13_borneAll hC4 hY4 ?_)
          refine w_invs1 57 dX13_mending_54 rfl slX13_415 (d' := 0) (by decide) (Nat.le_of_ble_eq_true rfl) (c_X13_bits (show ldO w s i < 256 by omega) ?_)
          refine w_aload_n 58 dX13_mending_57 rfl rfl ?_
          refine w_getr 61 dX13_mending_58 rfl faX13_343 rfl rfl rfl (r := .ref 111) rfl ?_
          refine w_getiv 64 dX13_mending_61 rfl faX13_287 rfl rfl rfl (hC4.1.2.1 4 (by decide) (by decide)) ?_
          refine w_icneN 69 67 dX13_mending_64 rfl rfl (Nat.lt_of_le_of_lt (popc_le _) (by decide)) (by omega) (fun c64 => ?_) (fun c64 => ?_)
          · skip
            refine w_inc2 72 dX13_mending_69 rfl (by decide) rfl (v := nI (_ + 1)) (nI_1 _) ?_
            refine w_goto 5 dX13_mending_72 rfl ?_
            refine wp_eq ?_ rfl rfl (ih (i + 1) A4 (by omega) ((hQ.tr hQ3).tr hQ4) (by omega))
            simp only [mqB]
            rw [if_neg (by rw [hls, Bool.true_and, decide_eq_true_eq]; exact c64)]
          · skip
            refine w_iload_n 68 dX13_mending_67 rfl rfl ?_
            refine w_ist1 69 dX13_mending_68 rfl (by decide) rfl ?_
            refine w_inc2 72 dX13_mending_69 rfl (by decide) rfl (v := nI (_ + 1)) (nI_1 _) ?_
            refine w_goto 5 dX13_mending_72 rfl ?_
            refine wp_eq ?_ rfl rfl (ih (i + 1) A4 (by omega) ((hQ.tr hQ3).tr hQ4) (by omega))
            simp only [mqB]
            rw [if_pos (by rw [hls, Bool.true_and, decide_eq_true_eq]; exact c64)]
            rfl
        · skip
          have hex : ∃ b, mqB w s i = some b := by
            cases q : mqB w s i with
            | none => rw [q] at c21; exact absurd rfl c21
            | some b => exact ⟨b, rfl⟩
          obtain ⟨b, hb⟩ := hex
          have hbl := mqB_lt hb
          have hcb := hcl b
          refine w_aload_n 25 dX13_mending_24 rfl rfl ?_
          refine w_iload_n 26 dX13_mending_25 rfl rfl ?_
          refine w_inv1 29 dX13_mending_26 rfl mlX13_430 rfl rfl (d' := 1) (by decide) (Nat.le_of_ble_eq_true rfl) (c_X13_costOf hC2 (by omega) ?_)
          refine w_aload_n 30 dX13_mending_29 rfl rfl ?_
          refine w_iload_n 31 dX13_mending_30 rfl rfl ?_
          rw [hb]
          refine w_inv1 34 dX13_mending_31 rfl mlX13_430 rfl rfl (d' := 1) (by decide) (Nat.le_of_ble_eq_true rfl) (c_X13_costOf (m := b) hC2 (by omega) ?_)
          refine w_icltN 40 37 dX13_mending_34 rfl rfl (by omega) (by omega) (fun c34 => ?_) (fun c34 => ?_)
          · skip
            have hls : lsO (costF w) i (mqB w s i) = true := by rw [hb]; exact decide_eq_true c34
            refine w_aload_n 41 dX13_mending_40 rfl rfl ?_
            refine w_iconst 42 dX13_mending_41 rfl (v := nI 0) rfl ?_
            refine w_inv1 45 dX13_mending_42 rfl mlX13_398 rfl rfl (d' := 3) (by decide) (Nat.le_of_ble_eq_true rfl) (c_X13_lays hC2 (by decide) (fun A3 hY hX hQ3 => ?_))
            have hC3 := hC2.q hQ3
            refine w_aload_n 46 dX13_mending_45 rfl rfl ?_
            refine w_iload_n 47 dX13_mending_46 rfl rfl ?_
            refine w_inv1 50 dX13_mending_47 rfl mlX13_433 rfl rfl (d' := 1) (by decide) (Nat.le_of_ble_eq_true rfl) (c_X13_laysOffers (y := (s 1, e1W w s, e2W w s, esW w s 0)) hC3 hY h8 (by omega) (fun A4 hY4 hQ4 => ?_))
            have hC4 := hC3.q hQ4
            have hlt : ldO w s i < 16 := ldN_lt hr.2.2.2.2.1
            refine w_aload_n 51 dX13_mending_50 rfl rfl ?_
            refine w_inv0 54 dX13_mending_51 rfl mlX13_421 rfl rfl (d' := 4) (by decide) (Nat.le_of_ble_eq_true rfl) (c_X13_borneAll hC4 hY4 ?_)
            refine w_invs1 57 dX13_mending_54 rfl slX13_415 (d' := 0) (by decide) (Nat.le_of_ble_eq_true rfl) (c_X13_bits (show ldO w s i < 256 by omega) ?_)
            refine w_aload_n 58 dX13_mending_57 rfl rfl ?_
            refine w_getr 61 dX13_mending_58 rfl faX13_343 rfl rfl rfl (r := .ref 111) rfl ?_
            refine w_getiv 64 dX13_mending_61 rfl faX13_287 rfl rfl rfl (hC4.1.2.1 4 (by decide) (by decide)) ?_
            refine w_icneN 69 67 dX13_mending_64 rfl rfl (Nat.lt_of_le_of_lt (popc_le _) (by decide)) (by omega) (fun c64 => ?_) (fun c64 => ?_)
            · skip
              refine w_inc2 72 dX13_mending_69 rfl (by decide) rfl (v := nI (_ + 1)) (nI_1 _) ?_
              refine w_goto 5 dX13_mending_72 rfl ?_
              refine wp_eq ?_ rfl rfl (ih (i + 1) A4 (by omega) ((hQ.tr hQ3).tr hQ4) (by omega))
              simp only [mqB]
              rw [if_neg (by rw [hls, Bool.true_and, decide_eq_true_eq]; exact c64)]
              rw [hb]
            · skip
              refine w_iload_n 68 dX13_mending_67 rfl rfl ?_
              refine w_ist1 69 dX13_mending_68 rfl (by decide) rfl ?_
              refine w_inc2 72 dX13_mending_69 rfl (by decide) rfl (v := nI (_ + 1)) (nI_1 _) ?_
              refine w_goto 5 dX13_mending_72 rfl ?_
              refine wp_eq ?_ rfl rfl (ih (i + 1) A4 (by omega) ((hQ.tr hQ3).tr hQ4) (by omega))
              simp only [mqB]
              rw [if_pos (by rw [hls, Bool.true_and, decide_eq_true_eq]; exact c64)]
              rfl
          · skip
            have hls : lsO (costF w) i (mqB w s i) = false := by rw [hb]; exact decide_eq_false (Nat.not_lt.mpr c34)
            refine w_goto 69 dX13_mending_37 rfl ?_
            refine w_inc2 72 dX13_mending_69 rfl (by decide) rfl (v := nI (_ + 1)) (nI_1 _) ?_
            refine w_goto 5 dX13_mending_72 rfl ?_
            refine wp_eq ?_ rfl rfl (ih (i + 1) A' (by omega) (hQ) (by omega))
            simp only [mqB]
            rw [if_neg (by rw [hls]; simp), hb]
  refine w_bipush 2 dX13_mending_0 rfl (v := (-2)) rfl ?_
  refine w_ist1 3 dX13_mending_2 rfl (by decide) rfl ?_
  refine w_iconst 4 dX13_mending_3 rfl (v := nI 0) rfl ?_
  refine w_ist2 5 dX13_mending_4 rfl (by decide) rfl ?_
  exact lp5 _ 0 A (Nat.zero_le _) QM.rf (Nat.lt_succ_self _)

set_option maxRecDepth 4000 in
theorem c_X13_mend {K : Option Value → AH → Prop} {A : AH} {r : Value} {w : WT} {s : Nat → Nat} (hC : MC w s A) (h : ∀ A', QM A A' → A'.1 100 1 = nI (t1 (okW1 w)) → A'.1 100 2 = -1 → K (some (.int (qMend w s))) A') : Ct yX13_mend mX13_mend 6 dM (GG (.ref 111) r) [.ref 100] A K := by
  refine Ct.of [some (.ref 100)] rfl rfl rfl (Nat.le_of_ble_eq_true rfl) ?_
  refine w_aload_n 1 dX13_mend_0 rfl rfl ?_
  refine w_iconst 2 dX13_mend_1 rfl (v := nI 0) rfl ?_
  refine w_puti 5 dX13_mend_2 rfl faX13_46 rfl rfl rfl rfl ?_
  have hQ1 : QM A (upd2 A.1 100 0 (nI 0), A.2) := QM.rf.f (by decide) _
  have hC1 := hC.q hQ1
  have hz : t1 (okW1 w) = 0 := by rw [okW1_t hC]; rfl
  refine w_aload_n 6 dX13_mend_5 rfl rfl ?_
  refine w_getr 9 dX13_mend_6 rfl faX13_343 rfl rfl rfl (r := .ref 111) rfl ?_
  refine w_nnR 20 dX13_mend_9 rfl ?_
  refine w_aload_n 21 dX13_mend_20 rfl rfl ?_
  refine w_aload_n 22 dX13_mend_21 rfl rfl ?_
  refine w_inv0 25 dX13_mend_22 rfl mlX13_436 rfl rfl (d' := 5) (by decide) (Nat.le_of_ble_eq_true rfl) (c_X13_mending hC1 (fun A3 hQ3 => ?_))
  refine w_inv1 28 dX13_mend_25 rfl mlX13_56 rfl rfl (d' := 0) (by decide) (Nat.le_of_ble_eq_true rfl) (c_X13_good (fun A9 hQ9 ht9 hw9 => ?_))
  refine wr_i dX13_mend_28 rfl ?_
  exact kq (h A9 ((hQ1.tr hQ3).tr hQ9) (by rw [hz]; exact ht9) hw9) (by unfold qMend; rw [if_pos hz])

set_option maxRecDepth 4000 in
theorem c_X13_mendCost {K : Option Value → AH → Prop} {A : AH} {r : Value} {w : WT} {s : Nat → Nat} (hC : MC w s A) (h : ∀ A', QM A A' → A'.1 100 1 = nI (t1 (okW1 w)) → A'.1 100 2 = -1 → K (some (.int (qMendCost w s))) A') : Ct yX13_mendCost mX13_mendCost 6 dM (GG (.ref 111) r) [.ref 100] A K := by
  refine Ct.of [some (.ref 100), none] rfl rfl rfl (Nat.le_of_ble_eq_true rfl) ?_
  refine w_aload_n 1 dX13_mendCost_0 rfl rfl ?_
  refine w_iconst 2 dX13_mendCost_1 rfl (v := nI 0) rfl ?_
  refine w_puti 5 dX13_mendCost_2 rfl faX13_46 rfl rfl rfl rfl ?_
  have hQ1 : QM A (upd2 A.1 100 0 (nI 0), A.2) := QM.rf.f (by decide) _
  have hC1 := hC.q hQ1
  have hz : t1 (okW1 w) = 0 := by rw [okW1_t hC]; rfl
  refine w_aload_n 6 dX13_mendCost_5 rfl rfl ?_
  refine w_getr 9 dX13_mendCost_6 rfl faX13_343 rfl rfl rfl (r := .ref 111) rfl ?_
  refine w_nnR 18 dX13_mendCost_9 rfl ?_
  refine w_aload_n 19 dX13_mendCost_18 rfl rfl ?_
  refine w_inv0 22 dX13_mendCost_19 rfl mlX13_436 rfl rfl (d' := 5) (by decide) (Nat.le_of_ble_eq_true rfl) (c_X13_mending hC1 (fun A3 hQ3 => ?_))
  have hC3 := hC1.q hQ3
  have hr := hC.rooms
  have h32 := pw5 hr.2.2.2.2.2.1
  refine w_ist1 23 dX13_mendCost_22 rfl (by decide) rfl ?_
  refine w_aload_n 24 dX13_mendCost_23 rfl rfl ?_
  refine w_iload_n 25 dX13_mendCost_24 rfl rfl ?_
  refine w_bipush 27 dX13_mendCost_25 rfl (v := (-2)) rfl ?_
  refine w_icne 35 30 dX13_mendCost_27 rfl rfl (fun c27 => ?_) (fun c27 => ?_)
  · skip
    have hex : ∃ b, mqB w s (2 ^ w.1 5) = some b := by
      cases q : mqB w s (2 ^ w.1 5) with
      | none => rw [q] at c27; exact absurd rfl c27
      | some b => exact ⟨b, rfl⟩
    obtain ⟨b, hb⟩ := hex
    have hbl := mqB_lt hb
    rw [hb]
    refine w_aload_n 36 dX13_mendCost_35 rfl rfl ?_
    refine w_iload_n 37 dX13_mendCost_36 rfl rfl ?_
    refine w_inv1 40 dX13_mendCost_37 rfl mlX13_430 rfl rfl (d' := 1) (by decide) (Nat.le_of_ble_eq_true rfl) (c_X13_costOf (m := b) hC3 (by omega) ?_)
    refine w_inv1 43 dX13_mendCost_40 rfl mlX13_56 rfl rfl (d' := 0) (by decide) (Nat.le_of_ble_eq_true rfl) (c_X13_good (fun A9 hQ9 ht9 hw9 => ?_))
    refine wr_i dX13_mendCost_43 rfl ?_
    exact kq (h A9 ((hQ1.tr hQ3).tr hQ9) (by rw [hz]; exact ht9) hw9) (by unfold qMendCost; rw [if_pos hz, hb]; rfl)
  · skip
    have hb : mqB w s (2 ^ w.1 5) = none := (enc2_m2 (fun k hk => by have := mqB_lt hk; omega)).mp c27
    refine w_bipush 32 dX13_mendCost_30 rfl (v := (-2)) rfl ?_
    refine w_goto 40 dX13_mendCost_32 rfl ?_
    refine w_inv1 43 dX13_mendCost_40 rfl mlX13_56 rfl rfl (d' := 0) (by decide) (Nat.le_of_ble_eq_true rfl) (c_X13_good (fun A9 hQ9 ht9 hw9 => ?_))
    refine wr_i dX13_mendCost_43 rfl ?_
    exact kq (h A9 ((hQ1.tr hQ3).tr hQ9) (by rw [hz]; exact ht9) hw9) (by unfold qMendCost; rw [if_pos hz, hb]; rfl)

set_option maxRecDepth 4000 in
theorem a_X13_bestOffer {K : Option Value → AH → Prop} {A : AH} {r : Value} {w : WT} {s : Nat → Nat} (hC : MC w s A) (hY0 : RY (s 1) (e1W w s) (e2W w s) (esW w s 0) A) (h : ∀ A', QM A A' → A'.1 100 1 = nI 0 → A'.1 100 2 = -1 → K (some (.int (enc2 (hvF (fun k => popc (ldO w s (2 ^ k))) (popc (ldW w s 0)) (w.1 5)).1))) A') : WP mX13_bestOffer 5 dM (GG (.ref 111) r) 23 [some (.ref 100), none, none, none, none] [] A K := by
  have hr := hC.rooms
  have h8 := hC.2.2.2.1.2.1
  have lp36 : ∀ (nf : Nat) (i : Nat) (A' : AH) (y : Option Value), i ≤ w.1 5 → QM A A' → w.1 5 - i < nf → WP mX13_bestOffer 5 dM (GG (.ref 111) r) 36 [some (.ref 100), some (.int (enc2 (hvF (fun k => popc (ldO w s (2 ^ k))) (popc (ldW w s 0)) i).1)), some (.int (nI (hvF (fun k => popc (ldO w s (2 ^ k))) (popc (ldW w s 0)) i).2)), some (.int (nI i)), y] [] A' K := by
    intro nf
    induction nf with
    | zero => intros; omega
    | succ nf ih =>
      intro i A' y hi hQ hms
      have hC2 := hC.q hQ
      have hle : (hvF (fun k => popc (ldO w s (2 ^ k))) (popc (ldW w s 0)) i).2 ≤ 8 := hvF_le (popc_le _) (fun _ => popc_le _) i
      refine w_iload_n 37 dX13_bestOffer_36 rfl rfl ?_
      refine w_aload_n 38 dX13_bestOffer_37 rfl rfl ?_
      refine w_getr 41 dX13_bestOffer_38 rfl faX13_343 rfl rfl rfl (r := .ref 111) rfl ?_
      refine w_getiv 44 dX13_bestOffer_41 rfl faX13_298 rfl rfl rfl (hC2.1.2.1 5 (by decide) (by decide)) ?_
      refine w_icgeN 88 47 dX13_bestOffer_44 rfl rfl (by omega) (by omega) (fun c44 => ?_) (fun c44 => ?_)
      · skip
        refine w_aload_n 89 dX13_bestOffer_88 rfl rfl ?_
        refine w_iload_n 90 dX13_bestOffer_89 rfl rfl ?_
        have e : i = w.1 5 := by omega
        subst e
        refine w_inv1 93 dX13_bestOffer_90 rfl mlX13_56 rfl rfl (d' := 0) (by decide) (Nat.le_of_ble_eq_true rfl) (c_X13_good (fun A9 hQ9 ht9 hw9 => ?_))
        refine wr_i dX13_bestOffer_93 rfl ?_
        exact h A9 (hQ.tr hQ9) ht9 hw9
      · skip
        refine w_aload_n 48 dX13_bestOffer_47 rfl rfl ?_
        refine w_iconst 49 dX13_bestOffer_48 rfl (v := nI 0) rfl ?_
        refine w_inv1 52 dX13_bestOffer_49 rfl mlX13_398 rfl rfl (d' := 3) (by decide) (Nat.le_of_ble_eq_true rfl) (c_X13_lays hC2 (by decide) (fun A3 hY hX hQ3 => ?_))
        have hC3 := hC2.q hQ3
        refine w_aload_n 53 dX13_bestOffer_52 rfl rfl ?_
        refine w_iconst 54 dX13_bestOffer_53 rfl (v := nI 1) rfl ?_
        refine w_iload_n 55 dX13_bestOffer_54 rfl rfl ?_
        refine w_shl1 56 dX13_bestOffer_55 rfl (by omega) ?_
        refine w_inv1 59 dX13_bestOffer_56 rfl mlX13_433 rfl rfl (d' := 1) (by decide) (Nat.le_of_ble_eq_true rfl) (c_X13_laysOffers (y := (s 1, e1W w s, e2W w s, esW w s 0)) hC3 hY h8 (pow8 (by omega)) (fun A4 hY4 hQ4 => ?_))
        have hC4 := hC3.q hQ4
        have hlt : ldO w s (2 ^ i) < 16 := ldN_lt hr.2.2.2.2.1
        refine w_aload_n 60 dX13_bestOffer_59 rfl rfl ?_
        refine w_inv0 63 dX13_bestOffer_60 rfl mlX13_421 rfl rfl (d' := 4) (by decide) (Nat.le_of_ble_eq_true rfl) (c_X13_borneAll hC4 hY4 ?_)
        refine w_invs1 66 dX13_bestOffer_63 rfl slX13_415 (d' := 0) (by decide) (Nat.le_of_ble_eq_true rfl) (c_X13_bits (show ldO w s (2 ^ i) < 256 by omega) ?_)
        refine w_ist4 68 dX13_bestOffer_66 rfl (by decide) rfl ?_
        refine w_iload 70 dX13_bestOffer_68 rfl rfl ?_
        refine w_iload_n 71 dX13_bestOffer_70 rfl rfl ?_
        refine w_icgtN 77 74 dX13_bestOffer_71 rfl rfl (Nat.lt_of_le_of_lt (popc_le _) (by decide)) (by omega) (fun c71 => ?_) (fun c71 => ?_)
        · skip
          have c71 : (hvF (fun k => popc (ldO w s (2 ^ k))) (popc (ldW w s 0)) i).2 < popc (ldO w s (2 ^ i)) := c71
          refine w_iload 79 dX13_bestOffer_77 rfl rfl ?_
          refine w_ist2 80 dX13_bestOffer_79 rfl (by decide) rfl ?_
          refine w_iload_n 81 dX13_bestOffer_80 rfl rfl ?_
          refine w_ist1 82 dX13_bestOffer_81 rfl (by decide) rfl ?_
          refine w_inc3 85 dX13_bestOffer_82 rfl (by decide) rfl (v := nI (_ + 1)) (nI_1 _) ?_
          refine w_goto 36 dX13_bestOffer_85 rfl ?_
          refine wp_to ?_ rfl rfl (ih (i + 1) A4 none (by omega) ((hQ.tr hQ3).tr hQ4) (by omega))
          simp [lle, hvF, c71, enc2]
          rfl
        · skip
          have c71 : ¬ (hvF (fun k => popc (ldO w s (2 ^ k))) (popc (ldW w s 0)) i).2 < popc (ldO w s (2 ^ i)) := Nat.not_lt.mpr c71
          refine w_goto 82 dX13_bestOffer_74 rfl ?_
          refine w_inc3 85 dX13_bestOffer_82 rfl (by decide) rfl (v := nI (_ + 1)) (nI_1 _) ?_
          refine w_goto 36 dX13_bestOffer_85 rfl ?_
          refine wp_to ?_ rfl rfl (ih (i + 1) A4 none (by omega) ((hQ.tr hQ3).tr hQ4) (by omega))
          simp [lle, hvF, c71]
  refine w_bipush 25 dX13_bestOffer_23 rfl (v := (-2)) rfl ?_
  refine w_ist1 26 dX13_bestOffer_25 rfl (by decide) rfl ?_
  refine w_aload_n 27 dX13_bestOffer_26 rfl rfl ?_
  refine w_inv0 30 dX13_bestOffer_27 rfl mlX13_421 rfl rfl (d' := 4) (by decide) (Nat.le_of_ble_eq_true rfl) (c_X13_borneAll hC hY0 ?_)
  have hl0 : ldW w s 0 < 16 := ldN_lt hr.2.2.2.2.1
  refine w_invs1 33 dX13_bestOffer_30 rfl slX13_415 (d' := 0) (by decide) (Nat.le_of_ble_eq_true rfl) (c_X13_bits (show ldW w s 0 < 256 by omega) ?_)
  refine w_ist2 34 dX13_bestOffer_33 rfl (by decide) rfl ?_
  refine w_iconst 35 dX13_bestOffer_34 rfl (v := nI 0) rfl ?_
  refine w_ist3 36 dX13_bestOffer_35 rfl (by decide) rfl ?_
  exact lp36 _ 0 A none (Nat.zero_le _) QM.rf (Nat.lt_succ_self _)

set_option maxRecDepth 4000 in
theorem c_X13_bestOffer {K : Option Value → AH → Prop} {A : AH} {r : Value} {w : WT} {s : Nat → Nat} (hC : MC w s A) (h : ∀ A', QM A A' → A'.1 100 1 = nI (t1 (okW1 w)) → A'.1 100 2 = -1 → K (some (.int (qBestOffer w s))) A') : Ct yX13_bestOffer mX13_bestOffer 5 dM (GG (.ref 111) r) [.ref 100] A K := by
  refine Ct.of [some (.ref 100), none, none, none, none] rfl rfl rfl (Nat.le_of_ble_eq_true rfl) ?_
  refine w_aload_n 1 dX13_bestOffer_0 rfl rfl ?_
  refine w_iconst 2 dX13_bestOffer_1 rfl (v := nI 0) rfl ?_
  refine w_puti 5 dX13_bestOffer_2 rfl faX13_46 rfl rfl rfl rfl ?_
  have hQ1 : QM A (upd2 A.1 100 0 (nI 0), A.2) := QM.rf.f (by decide) _
  have hC1 := hC.q hQ1
  have hz : t1 (okW1 w) = 0 := by rw [okW1_t hC]; rfl
  refine w_aload_n 6 dX13_bestOffer_5 rfl rfl ?_
  refine w_getr 9 dX13_bestOffer_6 rfl faX13_343 rfl rfl rfl (r := .ref 111) rfl ?_
  refine w_nnR 18 dX13_bestOffer_9 rfl ?_
  refine w_aload_n 19 dX13_bestOffer_18 rfl rfl ?_
  refine w_iconst 20 dX13_bestOffer_19 rfl (v := nI 0) rfl ?_
  refine w_inv1 23 dX13_bestOffer_20 rfl mlX13_398 rfl rfl (d' := 3) (by decide) (Nat.le_of_ble_eq_true rfl) (c_X13_lays hC1 (by decide) (fun A3 hY hX hQ3 => ?_))
  have hC3 := hC1.q hQ3
  have hN := hC3.1.2.1 1 (by decide) (by decide)
  have h8 := hC.2.2.2.1.2.1
  exact a_X13_bestOffer hC3 hY (fun A9 hQ9 ht9 hw9 => kq (h A9 ((hQ1.tr hQ3).tr hQ9) (by rw [hz]; exact ht9) hw9) (by unfold qBestOffer; rw [if_pos hz]))

set_option maxRecDepth 4000 in
theorem a_X13_cut {K : Option Value → AH → Prop} {A : AH} {r : Value} {w : WT} {s : Nat → Nat} {a b n : Nat} {z : Int32} (hY : RY (s 1) (e1W w s) (e2W w s) (esW w s n) A) (hN : A.1 111 2 = nI (w.1 1)) (h7 : w.1 1 ≤ 7) (h8 : s 1 ≤ 8) (ha : a < 7) (hb : b < 7) (h : ∀ A', QM A A' → A'.1 100 1 = nI 0 → A'.1 100 2 = -1 → K (some (.int (encO (ctO w s n a b (2 ^ w.1 1))))) A') : WP mX13_cut 4 dM (GG (.ref 111) r) 44 [some (.ref 100), some (.int (nI a)), some (.int (nI b)), some (.int (nI n)), some (.int z), some (.int (nI (LB w s n 0 a b))), none, none, none, none] [] A K := by
  have lp103 : ∀ (nf : Nat) (sd i : Nat), sd < 128 → i ≤ s 1 → WP mX13_cut 4 dM (GG (.ref 111) r) 152 [some (.ref 100), some (.int (nI a)), some (.int (nI b)), some (.int (nI n)), some (.int z), some (.int (nI (LB w s n 0 a b))), some (.int (encO (ctO w s n a b sd))), some (.int (nI sd)), some (.int (nI (ctS w s n sd))), none] [] A K → s 1 - i < nf → WP mX13_cut 4 dM (GG (.ref 111) r) 103 [some (.ref 100), some (.int (nI a)), some (.int (nI b)), some (.int (nI n)), some (.int z), some (.int (nI (LB w s n 0 a b))), some (.int (encO (ctO w s n a b sd))), some (.int (nI sd)), some (.int (nI (maskTo (fun e => decide (0 < esW w s n e) && crB (e1W w s) (e2W w s) sd e) i))), some (.int (nI i))] [] A K := by
    intro nf
    induction nf with
    | zero => intros; omega
    | succ nf ih =>
      intro sd i hsd hi hk hms
      refine w_iload 105 dX13_cut_103 rfl rfl ?_
      refine w_aload_n 106 dX13_cut_105 rfl rfl ?_
      refine w_getiv 109 dX13_cut_106 rfl faX13_360 rfl rfl rfl hY.1 ?_
      refine w_icgeN 152 112 dX13_cut_109 rfl rfl (by omega) (by omega) (fun c109 => ?_) (fun c109 => ?_)
      · skip
        have e : i = s 1 := by omega
        subst e
        refine wp_to ?_ rfl rfl hk
        simp [lle]
        rfl
      · skip
        refine w_iload 114 dX13_cut_112 rfl rfl ?_
        refine w_aload_n 115 dX13_cut_114 rfl rfl ?_
        refine w_getr 118 dX13_cut_115 rfl faX13_36 rfl rfl rfl (r := .ref 108) rfl ?_
        refine w_iload 120 dX13_cut_118 rfl rfl ?_
        refine w_ialdv 121 dX13_cut_120 rfl rfl rfl (by decide) (by omega) (hY.2.2 i (by omega)).2.2.1 ?_
        refine w_ifleN 142 124 dX13_cut_121 rfl rfl (by have := (hY.2.2 i (by omega)).2.2.2.2.2; omega) (fun c121 => ?_) (fun c121 => ?_)
        · skip
          refine w_iconst 143 dX13_cut_142 rfl (v := nI 0) rfl ?_
          refine w_ior 144 dX13_cut_143 rfl ?_
          refine w_top (mask_or0 _ _) ?_
          refine w_ist8 146 dX13_cut_144 rfl (by decide) rfl ?_
          refine w_inc9 149 dX13_cut_146 rfl (by decide) rfl (v := nI (_ + 1)) (nI_1 _) ?_
          refine w_goto 103 dX13_cut_149 rfl ?_
          refine wp_eq ?_ rfl rfl (ih sd (i + 1) hsd (by omega) hk (by omega))
          simp [maskTo, c121]
        · skip
          refine w_aload_n 125 dX13_cut_124 rfl rfl ?_
          refine w_iload 127 dX13_cut_125 rfl rfl ?_
          refine w_iload 129 dX13_cut_127 rfl rfl ?_
          refine w_inv2 132 dX13_cut_129 rfl mlX13_382 rfl rfl (d' := 1) (by decide) (Nat.le_of_ble_eq_true rfl) (c_X13_isCrossing hY (by omega) c109 ?_)
          refine w_ifeqB 142 135 dX13_cut_132 rfl rfl (fun c132 => ?_) (fun c132 => ?_)
          · skip
            refine w_iconst 143 dX13_cut_142 rfl (v := nI 0) rfl ?_
            refine w_ior 144 dX13_cut_143 rfl ?_
            refine w_top (mask_or0 _ _) ?_
            refine w_ist8 146 dX13_cut_144 rfl (by decide) rfl ?_
            refine w_inc9 149 dX13_cut_146 rfl (by decide) rfl (v := nI (_ + 1)) (nI_1 _) ?_
            refine w_goto 103 dX13_cut_149 rfl ?_
            refine wp_eq ?_ rfl rfl (ih sd (i + 1) hsd (by omega) hk (by omega))
            simp [maskTo, c121, c132]
          · skip
            refine w_iconst 136 dX13_cut_135 rfl (v := nI 1) rfl ?_
            refine w_iload 138 dX13_cut_136 rfl rfl ?_
            refine w_shl1 139 dX13_cut_138 rfl (by omega) ?_
            refine w_goto 143 dX13_cut_139 rfl ?_
            refine w_ior 144 dX13_cut_143 rfl ?_
            refine w_top (mask_or _ _) ?_
            refine w_ist8 146 dX13_cut_144 rfl (by decide) rfl ?_
            refine w_inc9 149 dX13_cut_146 rfl (by decide) rfl (v := nI (_ + 1)) (nI_1 _) ?_
            refine w_goto 103 dX13_cut_149 rfl ?_
            refine wp_eq ?_ rfl rfl (ih sd (i + 1) hsd (by omega) hk (by omega))
            simp [maskTo, c121, c132]
  have lp50 : ∀ (nf : Nat) (sd : Nat) (y y2 : Option Value), sd ≤ 2 ^ w.1 1 → 2 ^ w.1 1 - sd < nf → WP mX13_cut 4 dM (GG (.ref 111) r) 50 [some (.ref 100), some (.int (nI a)), some (.int (nI b)), some (.int (nI n)), some (.int z), some (.int (nI (LB w s n 0 a b))), some (.int (encO (ctO w s n a b sd))), some (.int (nI sd)), y, y2] [] A K := by
    intro nf
    induction nf with
    | zero => intros; omega
    | succ nf ih =>
      intro sd y y2 hsd hms
      have hp := p7 h7
      have hcl : crW w s n sd 0 ≤ 1287 := crs_le hY.2.1 (fun i hi => (hY.2.2 i hi).2.2.2.2.2)
      have hll := LB_le w s n 0 a b
      refine w_iload 52 dX13_cut_50 rfl rfl ?_
      refine w_iconst 53 dX13_cut_52 rfl (v := nI 1) rfl ?_
      refine w_aload_n 54 dX13_cut_53 rfl rfl ?_
      refine w_getr 57 dX13_cut_54 rfl faX13_343 rfl rfl rfl (r := .ref 111) rfl ?_
      refine w_getiv 60 dX13_cut_57 rfl faX13_194 rfl rfl rfl hN ?_
      refine w_shl1 61 dX13_cut_60 rfl (by omega) ?_
      refine w_icgeN 201 64 dX13_cut_61 rfl rfl (by omega) (by omega) (fun c61 => ?_) (fun c61 => ?_)
      · skip
        refine w_aload_n 202 dX13_cut_201 rfl rfl ?_
        refine w_iload 204 dX13_cut_202 rfl rfl ?_
        refine w_inv1 207 dX13_cut_204 rfl mlX13_56 rfl rfl (d' := 0) (by decide) (Nat.le_of_ble_eq_true rfl) (c_X13_good (fun A9 hQ9 ht9 hw9 => ?_))
        refine wr_i dX13_cut_207 rfl ?_
        have e : sd = 2 ^ w.1 1 := by omega
        subst e
        exact h A9 hQ9 ht9 hw9
      · skip
        refine w_iload 66 dX13_cut_64 rfl rfl ?_
        refine w_iload_n 67 dX13_cut_66 rfl rfl ?_
        refine w_invs2 70 dX13_cut_67 rfl slX13_277 (d' := 0) (by decide) (Nat.le_of_ble_eq_true rfl) (c_X13_bit ?_)
        rw [hasB_nI (by omega) (by omega)]
        refine w_ifeqB 195 73 dX13_cut_70 rfl rfl (fun c70 => ?_) (fun c70 => ?_)
        · skip
          refine w_inc7 198 dX13_cut_195 rfl (by decide) rfl (v := nI (_ + 1)) (nI_1 _) ?_
          refine w_goto 50 dX13_cut_198 rfl ?_
          have e9 : ctO w s n a b (sd + 1) = ctO w s n a b sd := by simp only [ctO]; rw [if_neg (by rw [sideP, c70]; simp)]
          refine wp_to ?_ rfl rfl (ih (sd + 1) none none (by omega) (by omega))
          exact ⟨Or.inr rfl, Or.inr rfl, Or.inr rfl, Or.inr rfl, Or.inr rfl, Or.inr rfl, Or.inr (congrArg (fun z => some (Value.int z)) (by rw [e9])), Or.inr rfl, Or.inl rfl, Or.inl rfl, trivial⟩
        · skip
          refine w_iload 75 dX13_cut_73 rfl rfl ?_
          refine w_iload_n 76 dX13_cut_75 rfl rfl ?_
          refine w_invs2 79 dX13_cut_76 rfl slX13_277 (d' := 0) (by decide) (Nat.le_of_ble_eq_true rfl) (c_X13_bit ?_)
          rw [hasB_nI (by omega) (by omega)]
          refine w_ifneB 195 82 dX13_cut_79 rfl rfl (fun c79 => ?_) (fun c79 => ?_)
          · skip
            refine w_inc7 198 dX13_cut_195 rfl (by decide) rfl (v := nI (_ + 1)) (nI_1 _) ?_
            refine w_goto 50 dX13_cut_198 rfl ?_
            have e9 : ctO w s n a b (sd + 1) = ctO w s n a b sd := by simp only [ctO]; rw [if_neg (by rw [sideP, c79]; simp)]
            refine wp_to ?_ rfl rfl (ih (sd + 1) none none (by omega) (by omega))
            exact ⟨Or.inr rfl, Or.inr rfl, Or.inr rfl, Or.inr rfl, Or.inr rfl, Or.inr rfl, Or.inr (congrArg (fun z => some (Value.int z)) (by rw [e9])), Or.inr rfl, Or.inl rfl, Or.inl rfl, trivial⟩
          · skip
            refine w_aload_n 83 dX13_cut_82 rfl rfl ?_
            refine w_iload 85 dX13_cut_83 rfl rfl ?_
            refine w_iconst 86 dX13_cut_85 rfl (v := nI 0) rfl ?_
            refine w_inv2 89 dX13_cut_86 rfl mlX13_386 rfl rfl (d' := 2) (by decide) (Nat.le_of_ble_eq_true rfl) (c_X13_crossing hY (by omega) (by decide) ?_)
            refine w_iload 91 dX13_cut_89 rfl rfl ?_
            refine w_iceqN 97 94 dX13_cut_91 rfl rfl (show crW w s n sd 0 < 2 ^ 31 by omega) (by omega) (fun c91 => ?_) (fun c91 => ?_)
            · skip
              have c91 : crW w s n sd 0 = LB w s n 0 a b := c91
              have hok : (sideP a b sd && decide (crW w s n sd 0 = LB w s n 0 a b)) = true := by rw [sideP, c70, c79, decide_eq_true c91]; rfl
              have hct := ctS_lt (w := w) h8 n sd
              refine w_iconst 98 dX13_cut_97 rfl (v := nI 0) rfl ?_
              refine w_ist8 100 dX13_cut_98 rfl (by decide) rfl ?_
              refine w_iconst 101 dX13_cut_100 rfl (v := nI 0) rfl ?_
              refine w_ist9 103 dX13_cut_101 rfl (by decide) rfl ?_
              refine lp103 _ sd 0 (by omega) (Nat.zero_le _) ?_ (Nat.lt_succ_self _)
              refine w_iload 154 dX13_cut_152 rfl rfl ?_
              refine w_iconst 155 dX13_cut_154 rfl (v := (-1)) rfl ?_
              refine w_iceq 191 158 dX13_cut_155 rfl rfl (fun c155 => ?_) (fun c155 => ?_)
              · skip
                have hno : ctO w s n a b sd = none := (enc_m1 (fun v hv => by have := ctO_lt h8 hv; omega)).mp c155
                refine w_iload 193 dX13_cut_191 rfl rfl ?_
                refine w_ist6 195 dX13_cut_193 rfl (by decide) rfl ?_
                refine w_inc7 198 dX13_cut_195 rfl (by decide) rfl (v := nI (_ + 1)) (nI_1 _) ?_
                refine w_goto 50 dX13_cut_198 rfl ?_
                have e9 : ctO w s n a b (sd + 1) = some (ctS w s n sd) := by simp only [ctO]; rw [if_pos hok, hno]
                refine wp_to ?_ rfl rfl (ih (sd + 1) none none (by omega) (by omega))
                exact ⟨Or.inr rfl, Or.inr rfl, Or.inr rfl, Or.inr rfl, Or.inr rfl, Or.inr rfl, Or.inr (congrArg (fun z => some (Value.int z)) (by rw [e9]; rfl)), Or.inr rfl, Or.inl rfl, Or.inl rfl, trivial⟩
              · skip
                have hex : ∃ x, ctO w s n a b sd = some x := by
                  cases q : ctO w s n a b sd with
                  | none => rw [q] at c155; exact absurd rfl c155
                  | some x => exact ⟨x, rfl⟩
                obtain ⟨x, hx⟩ := hex
                have hxl := ctO_lt h8 hx
                have px := popc_le x
                have pc := popc_le (ctS w s n sd)
                rw [hx]
                rw [show encO (some x) = nI x from rfl]
                refine w_iload 160 dX13_cut_158 rfl rfl ?_
                refine w_invs1 163 dX13_cut_160 rfl slX13_415 (d' := 0) (by decide) (Nat.le_of_ble_eq_true rfl) (c_X13_bits hct ?_)
                refine w_iload 165 dX13_cut_163 rfl rfl ?_
                refine w_invs1 168 dX13_cut_165 rfl slX13_415 (d' := 0) (by decide) (Nat.le_of_ble_eq_true rfl) (c_X13_bits hxl ?_)
                refine w_icltN 191 171 dX13_cut_168 rfl rfl (by omega) (by omega) (fun c168 => ?_) (fun c168 => ?_)
                · skip
                  refine w_iload 193 dX13_cut_191 rfl rfl ?_
                  refine w_ist6 195 dX13_cut_193 rfl (by decide) rfl ?_
                  refine w_inc7 198 dX13_cut_195 rfl (by decide) rfl (v := nI (_ + 1)) (nI_1 _) ?_
                  refine w_goto 50 dX13_cut_198 rfl ?_
                  have e9 : ctO w s n a b (sd + 1) = some (ctS w s n sd) := by simp only [ctO]; rw [if_pos hok, hx]; dsimp only; rw [if_pos (show lessB (ctS w s n sd) x = true from decide_eq_true (Or.inl c168))]
                  refine wp_to ?_ rfl rfl (ih (sd + 1) none none (by omega) (by omega))
                  exact ⟨Or.inr rfl, Or.inr rfl, Or.inr rfl, Or.inr rfl, Or.inr rfl, Or.inr rfl, Or.inr (congrArg (fun z => some (Value.int z)) (by rw [e9]; rfl)), Or.inr rfl, Or.inl rfl, Or.inl rfl, trivial⟩
                · skip
                  refine w_iload 173 dX13_cut_171 rfl rfl ?_
                  refine w_invs1 176 dX13_cut_173 rfl slX13_415 (d' := 0) (by decide) (Nat.le_of_ble_eq_true rfl) (c_X13_bits hct ?_)
                  refine w_iload 178 dX13_cut_176 rfl rfl ?_
                  refine w_invs1 181 dX13_cut_178 rfl slX13_415 (d' := 0) (by decide) (Nat.le_of_ble_eq_true rfl) (c_X13_bits hxl ?_)
                  refine w_icneN 195 184 dX13_cut_181 rfl rfl (by omega) (by omega) (fun c181 => ?_) (fun c181 => ?_)
                  · skip
                    refine w_inc7 198 dX13_cut_195 rfl (by decide) rfl (v := nI (_ + 1)) (nI_1 _) ?_
                    refine w_goto 50 dX13_cut_198 rfl ?_
                    have e9 : ctO w s n a b (sd + 1) = some x := by simp only [ctO]; rw [if_pos hok, hx]; dsimp only; rw [if_neg (by rw [lessB, decide_eq_true_eq]; rintro (q | q) <;> omega)]
                    refine wp_to ?_ rfl rfl (ih (sd + 1) none none (by omega) (by omega))
                    exact ⟨Or.inr rfl, Or.inr rfl, Or.inr rfl, Or.inr rfl, Or.inr rfl, Or.inr rfl, Or.inr (congrArg (fun z => some (Value.int z)) (by rw [e9]; rfl)), Or.inr rfl, Or.inl rfl, Or.inl rfl, trivial⟩
                  · skip
                    refine w_iload 186 dX13_cut_184 rfl rfl ?_
                    refine w_iload 188 dX13_cut_186 rfl rfl ?_
                    refine w_icgeN 195 191 dX13_cut_188 rfl rfl (by omega) (by omega) (fun c188 => ?_) (fun c188 => ?_)
                    · skip
                      refine w_inc7 198 dX13_cut_195 rfl (by decide) rfl (v := nI (_ + 1)) (nI_1 _) ?_
                      refine w_goto 50 dX13_cut_198 rfl ?_
                      have e9 : ctO w s n a b (sd + 1) = some x := by simp only [ctO]; rw [if_pos hok, hx]; dsimp only; rw [if_neg (by rw [lessB, decide_eq_true_eq]; rintro (q | q) <;> omega)]
                      refine wp_to ?_ rfl rfl (ih (sd + 1) none none (by omega) (by omega))
                      exact ⟨Or.inr rfl, Or.inr rfl, Or.inr rfl, Or.inr rfl, Or.inr rfl, Or.inr rfl, Or.inr (congrArg (fun z => some (Value.int z)) (by rw [e9]; rfl)), Or.inr rfl, Or.inl rfl, Or.inl rfl, trivial⟩
                    · skip
                      refine w_iload 193 dX13_cut_191 rfl rfl ?_
                      refine w_ist6 195 dX13_cut_193 rfl (by decide) rfl ?_
                      refine w_inc7 198 dX13_cut_195 rfl (by decide) rfl (v := nI (_ + 1)) (nI_1 _) ?_
                      refine w_goto 50 dX13_cut_198 rfl ?_
                      have e9 : ctO w s n a b (sd + 1) = some (ctS w s n sd) := by simp only [ctO]; rw [if_pos hok, hx]; dsimp only; rw [if_pos (show lessB (ctS w s n sd) x = true from decide_eq_true (Or.inr ⟨c181, c188⟩))]
                      refine wp_to ?_ rfl rfl (ih (sd + 1) none none (by omega) (by omega))
                      exact ⟨Or.inr rfl, Or.inr rfl, Or.inr rfl, Or.inr rfl, Or.inr rfl, Or.inr rfl, Or.inr (congrArg (fun z => some (Value.int z)) (by rw [e9]; rfl)), Or.inr rfl, Or.inl rfl, Or.inl rfl, trivial⟩
            · skip
              have c91 : ¬ crW w s n sd 0 = LB w s n 0 a b := c91
              refine w_goto 195 dX13_cut_94 rfl ?_
              refine w_inc7 198 dX13_cut_195 rfl (by decide) rfl (v := nI (_ + 1)) (nI_1 _) ?_
              refine w_goto 50 dX13_cut_198 rfl ?_
              have e9 : ctO w s n a b (sd + 1) = ctO w s n a b sd := by simp only [ctO]; rw [if_neg (by rw [decide_eq_false c91]; simp)]
              refine wp_to ?_ rfl rfl (ih (sd + 1) none none (by omega) (by omega))
              exact ⟨Or.inr rfl, Or.inr rfl, Or.inr rfl, Or.inr rfl, Or.inr rfl, Or.inr rfl, Or.inr (congrArg (fun z => some (Value.int z)) (by rw [e9])), Or.inr rfl, Or.inl rfl, Or.inl rfl, trivial⟩
  refine w_iconst 45 dX13_cut_44 rfl (v := (-1)) rfl ?_
  refine w_ist6 47 dX13_cut_45 rfl (by decide) rfl ?_
  refine w_iconst 48 dX13_cut_47 rfl (v := nI 0) rfl ?_
  refine w_ist7 50 dX13_cut_48 rfl (by decide) rfl ?_
  exact lp50 _ 0 none none (Nat.zero_le _) (Nat.lt_succ_self _)

set_option maxRecDepth 4000 in
theorem c_X13_cut {K : Option Value → AH → Prop} {A : AH} {r : Value} {w : WT} {s : Nat → Nat} (hC : MC w s A) {a b n : Int32} (h : ∀ A', QM A A' → A'.1 100 1 = nI (tY (ok2 w a b) n) → A'.1 100 2 = -1 → K (some (.int (qCut w s a b n))) A') : Ct yX13_cut mX13_cut 4 dM (GG (.ref 111) r) [.ref 100, .int a, .int b, .int n] A K := by
  refine Ct.of [some (.ref 100), some (.int a), some (.int b), some (.int n), none, none, none, none, none, none] rfl rfl rfl (Nat.le_of_ble_eq_true rfl) ?_
  refine w_aload_n 1 dX13_cut_0 rfl rfl ?_
  refine w_iconst 2 dX13_cut_1 rfl (v := nI 0) rfl ?_
  refine w_puti 5 dX13_cut_2 rfl faX13_46 rfl rfl rfl rfl ?_
  have hQ1 : QM A (upd2 A.1 100 0 (nI 0), A.2) := QM.rf.f (by decide) _
  have hC1 := hC.q hQ1
  refine w_aload_n 6 dX13_cut_5 rfl rfl ?_
  refine w_aload_n 7 dX13_cut_6 rfl rfl ?_
  refine w_iload_n 8 dX13_cut_7 rfl rfl ?_
  refine w_iload_n 9 dX13_cut_8 rfl rfl ?_
  refine w_inv2 12 dX13_cut_9 rfl mlX13_408 rfl rfl (d' := 1) (by decide) (Nat.le_of_ble_eq_true rfl) (c_X13_areTwo hC1 ?_)
  refine w_iload_n 13 dX13_cut_12 rfl rfl ?_
  refine w_inv2 16 dX13_cut_13 rfl mlX13_401 rfl rfl (d' := 1) (by decide) (Nat.le_of_ble_eq_true rfl) (c_X13_refusesYears (b := ok2 w a b) ?_)
  refine w_ist4 18 dX13_cut_16 rfl (by decide) rfl ?_
  refine w_iload 20 dX13_cut_18 rfl rfl ?_
  refine w_ifleN 30 23 dX13_cut_20 rfl rfl (by have := tY_le (ok2 w a b) n; omega) (fun c20 => ?_) (fun c20 => ?_)
  · skip
    have hz : tY (ok2 w a b) n = 0 := c20
    obtain ⟨k1, k2⟩ := tY_0 hz
    have hr := hC.rooms
    obtain ⟨a, b, rfl, rfl, ha, hb, hab⟩ := ok2_of k1 hr.2.1
    obtain ⟨n, rfl, hn⟩ := tI_of k2
    refine w_aload_n 31 dX13_cut_30 rfl rfl ?_
    refine w_iload_n 32 dX13_cut_31 rfl rfl ?_
    refine w_inv1 35 dX13_cut_32 rfl mlX13_398 rfl rfl (d' := 3) (by decide) (Nat.le_of_ble_eq_true rfl) (c_X13_lays hC1 hn (fun A3 hY hX hQ3 => ?_))
    have hC3 := hC1.q hQ3
    have hN := hC3.1.2.1 1 (by decide) (by decide)
    have h8 := hC.2.2.2.1.2.1
    refine w_aload_n 36 dX13_cut_35 rfl rfl ?_
    refine w_iload_n 37 dX13_cut_36 rfl rfl ?_
    refine w_iload_n 38 dX13_cut_37 rfl rfl ?_
    refine w_iconst 39 dX13_cut_38 rfl (v := nI 0) rfl ?_
    refine w_inv3 42 dX13_cut_39 rfl mlX13_411 rfl rfl (d' := 3) (by decide) (Nat.le_of_ble_eq_true rfl) (c_X13_borneBetween hY hN hr.2.1 (by omega) (by omega) (by decide) ?_)
    refine w_ist5 44 dX13_cut_42 rfl (by decide) rfl ?_
    exact a_X13_cut hY hN hr.2.1 h8 (by omega) (by omega) (fun A9 hQ9 ht9 hw9 => kq (h A9 ((hQ1.tr hQ3).tr hQ9) (by rw [hz]; exact ht9) hw9) (by unfold qCut; rw [if_pos hz, cl_nI (show a < 2 ^ 31 by omega), cl_nI (show b < 2 ^ 31 by omega), cl_nI (show n < 2 ^ 31 by omega)]))
  · skip
    refine w_aload_n 24 dX13_cut_23 rfl rfl ?_
    refine w_iload 26 dX13_cut_24 rfl rfl ?_
    refine w_inv1 29 dX13_cut_26 rfl mlX13_52 rfl rfl (d' := 0) (by decide) (Nat.le_of_ble_eq_true rfl) (c_X13_refused (fun A2 hQ2 ht2 hw2 => ?_))
    refine wr_i dX13_cut_29 rfl ?_
    exact kq (h A2 (hQ1.tr hQ2) ht2 hw2) (by unfold qCut; rw [if_neg (Nat.ne_of_gt c20)])

