/-! ===== Clerks ===== -/
def nxt (d : Nat) : Nat := (75 * d + 74) % 65537
def cyT (s : Nat → Nat) (y c : Nat) (x : Nat × Nat) : Nat → Nat × Nat
  | 0 => x
  | t + 1 => if !(cyT s y c x t).2.testBit t && decide (0 < stg s t y) then (nxt (cyT s y c x t).1, if nxt (cyT s y c x t).1 % 100 < c then (cyT s y c x t).2 ||| 2 ^ t else (cyT s y c x t).2) else cyT s y c x t
theorem nxt_lt (d : Nat) : nxt d < 65537 := Nat.mod_lt _ (by decide)
theorem cyT_ok {s : Nat → Nat} {y c : Nat} {x : Nat × Nat} (h1 : x.1 < 65537) (h2 : x.2 < 256) : ∀ {t : Nat}, t ≤ 8 → (cyT s y c x t).1 < 65537 ∧ (cyT s y c x t).2 < 256
  | 0, _ => ⟨h1, h2⟩
  | t + 1, ht => by
    have ih := cyT_ok (s := s) (y := y) (c := c) h1 h2 (t := t) (by omega)
    simp only [cyT]
    split
    · refine ⟨nxt_lt _, ?_⟩
      split
      · exact Nat.or_lt_two_pow (n := 8) ih.2 (Nat.pow_lt_pow_right (by decide) (by omega))
      · exact ih.2
    · exact ih
set_option maxRecDepth 4000 in
theorem c_X1_begin {K : Option Value → AH → Prop} {A : AH} {x : Int32} (h : K none (upd2 (upd2 A.1 58 0 x) 58 1 (nI 0), A.2)) : Ct yX1_begin mX1_begin 0 dC gC [.ref 58, .int x] A K := by
  refine Ct.of [some (.ref 58), some (.int x)] rfl rfl rfl (Nat.le_of_ble_eq_true rfl) ?_
  refine w_aload_n 1 dX1_begin_0 rfl rfl ?_
  refine w_iload_n 2 dX1_begin_1 rfl rfl ?_
  refine w_puti 5 dX1_begin_2 rfl faX1_9 rfl rfl rfl rfl ?_
  refine w_aload_n 6 dX1_begin_5 rfl rfl ?_
  refine w_iconst 7 dX1_begin_6 rfl (v := nI 0) rfl ?_
  refine w_puti 10 dX1_begin_7 rfl faX1_15 rfl rfl rfl rfl ?_
  refine wr_v dX1_begin_10 rfl ?_
  exact h

set_option maxRecDepth 4000 in
theorem c_X1_draw {K : Option Value → AH → Prop} {A : AH} {d : Nat} (hd : A.1 58 0 = nI d) (hd2 : d < 65537) (h : K (some (.int (nI (nxt d)))) (upd2 A.1 58 0 (nI (nxt d)), A.2)) : Ct yX1_draw mX1_draw 0 dC gC [.ref 58] A K := by
  refine Ct.of [some (.ref 58)] rfl rfl rfl (Nat.le_of_ble_eq_true rfl) ?_
  refine w_aload_n 1 dX1_draw_0 rfl rfl ?_
  refine w_bipush 3 dX1_draw_1 rfl (v := nI 75) rfl ?_
  refine w_aload_n 4 dX1_draw_3 rfl rfl ?_
  refine w_getiv 7 dX1_draw_4 rfl faX1_9 rfl rfl rfl hd ?_
  refine w_imulN 8 dX1_draw_7 rfl ?_
  refine w_bipush 10 dX1_draw_8 rfl (v := nI 74) rfl ?_
  refine w_iaddN 11 dX1_draw_10 rfl ?_
  refine w_ldc 13 dX1_draw_11 rfl kcX1_35 ?_
  refine w_top (show _ = nI 65537 from rfl) ?_
  refine w_iremN 14 dX1_draw_13 rfl (by omega) (by omega) (by omega) ?_
  refine w_puti 17 dX1_draw_14 rfl faX1_9 rfl rfl rfl rfl ?_
  refine w_aload_n 18 dX1_draw_17 rfl rfl ?_
  refine w_getiv 21 dX1_draw_18 rfl faX1_9 rfl rfl rfl (show _ = nI (nxt d) from by dsimp only; rw [upd2_at]; rfl) ?_
  refine wr_i dX1_draw_21 rfl ?_
  exact h

set_option maxRecDepth 4000 in
theorem c_X1_passYear {K : Option Value → AH → Prop} {A : AH} {s : Nat → Nat} {y c d0 n0 : Nat} (hS : RepS s A) (hs : okS s) (hy : y ≤ 60) (hc : c ≤ 100) (h0 : A.1 58 0 = nI d0) (h1 : A.1 58 1 = nI n0) (hd0 : d0 < 65537) (hn0 : n0 < 256) (h : ∀ A', A'.1 58 0 = nI (cyT s y c (d0, n0) (s 1)).1 → A'.1 58 1 = nI (cyT s y c (d0, n0) (s 1)).2 → OffL [58] A A' → K none A') : Ct yX1_passYear mX1_passYear 3 dC gC [.ref 58, .ref 43, .int (nI y), .int (nI c)] A K := by
  refine Ct.of [some (.ref 58), some (.ref 43), some (.int (nI y)), some (.int (nI c)), none, none] rfl rfl rfl (Nat.le_of_ble_eq_true rfl) ?_
  have lp3 : ∀ (nf : Nat) (i : Nat) (A' : AH), i ≤ s 1 → OffL [58] A A' → A'.1 58 0 = nI (cyT s y c (d0, n0) i).1 → A'.1 58 1 = nI (cyT s y c (d0, n0) i).2 → s 1 - i < nf → WP mX1_passYear 3 dC gC 3 [some (.ref 58), some (.ref 43), some (.int (nI y)), some (.int (nI c)), some (.int (nI i)), none] [] A' K := by
    intro nf
    induction nf with
    | zero => intros; omega
    | succ nf ih =>
      intro i A' hi hO g0 g1 hms
      have hS2 : RepS s A' := hS.cong (hO 44 (by decide)).1
      have hs8 := hs.2.1
      obtain ⟨k1, k2⟩ := cyT_ok (s := s) (y := y) (c := c) (x := (d0, n0)) hd0 hn0 (t := i) (by omega)
      refine w_iload 5 dX1_passYear_3 rfl rfl ?_
      refine w_aload_n 6 dX1_passYear_5 rfl rfl ?_
      refine w_inv0 9 dX1_passYear_6 rfl mlX1_18 rfl rfl (d' := 0) (by decide) (Nat.le_of_ble_eq_true rfl) (c_X7_threads hS2 ?_)
      refine w_icgeN 76 12 dX1_passYear_9 rfl rfl (by omega) (by omega) (fun c9 => ?_) (fun c9 => ?_)
      · skip
        have e : i = s 1 := by omega
        subst e
        refine wr_v dX1_passYear_76 rfl ?_
        exact h A' g0 g1 hO
      · skip
        refine w_aload_n 13 dX1_passYear_12 rfl rfl ?_
        refine w_getiv 16 dX1_passYear_13 rfl faX1_15 rfl rfl rfl g1 ?_
        refine w_iload 18 dX1_passYear_16 rfl rfl ?_
        refine w_invs2 21 dX1_passYear_18 rfl slX1_24 (d' := 0) (by decide) (Nat.le_of_ble_eq_true rfl) (c_X11_has ?_)
        rw [hasB_nI (by omega) (by omega)]
        refine w_ifneB 38 24 dX1_passYear_21 rfl rfl (fun c21 => ?_) (fun c21 => ?_)
        · skip
          refine w_iconst 39 dX1_passYear_38 rfl (v := nI 0) rfl ?_
          refine w_ist5 41 dX1_passYear_39 rfl (by decide) rfl ?_
          refine w_iload 43 dX1_passYear_41 rfl rfl ?_
          refine w_ifeqN 70 46 dX1_passYear_43 rfl rfl (by decide) (fun _ => ?_) (fun cc => absurd cc (by decide))
          refine w_inc4 73 dX1_passYear_70 rfl (by decide) rfl (v := nI (_ + 1)) (nI_1 _) ?_
          refine w_goto 3 dX1_passYear_73 rfl ?_
          refine wp_to ?_ rfl rfl (ih (i + 1) A' (by omega) hO ?_ ?_ (by omega))
          · simp [lle]
          · rw [g0]; simp [cyT, c21]
          · rw [g1]; simp [cyT, c21]
        · skip
          refine w_aload_n 25 dX1_passYear_24 rfl rfl ?_
          refine w_iload 27 dX1_passYear_25 rfl rfl ?_
          refine w_iload_n 28 dX1_passYear_27 rfl rfl ?_
          refine w_inv2 31 dX1_passYear_28 rfl mlX1_28 rfl rfl (d' := 2) (by decide) (Nat.le_of_ble_eq_true rfl) (c_X7_strength hS2 hs (by omega) hy ?_)
          refine w_ifleN 38 34 dX1_passYear_31 rfl rfl (by have := stg_le hs i y; omega) (fun c31 => ?_) (fun c31 => ?_)
          · skip
            refine w_iconst 39 dX1_passYear_38 rfl (v := nI 0) rfl ?_
            refine w_ist5 41 dX1_passYear_39 rfl (by decide) rfl ?_
            refine w_iload 43 dX1_passYear_41 rfl rfl ?_
            refine w_ifeqN 70 46 dX1_passYear_43 rfl rfl (by decide) (fun _ => ?_) (fun cc => absurd cc (by decide))
            refine w_inc4 73 dX1_passYear_70 rfl (by decide) rfl (v := nI (_ + 1)) (nI_1 _) ?_
            refine w_goto 3 dX1_passYear_73 rfl ?_
            refine wp_to ?_ rfl rfl (ih (i + 1) A' (by omega) hO ?_ ?_ (by omega))
            · simp [lle]
            · rw [g0]; simp [cyT, c21, c31]
            · rw [g1]; simp [cyT, c21, c31]
          · skip
            refine w_iconst 35 dX1_passYear_34 rfl (v := nI 1) rfl ?_
            refine w_goto 39 dX1_passYear_35 rfl ?_
            refine w_ist5 41 dX1_passYear_39 rfl (by decide) rfl ?_
            refine w_iload 43 dX1_passYear_41 rfl rfl ?_
            refine w_ifeqN 70 46 dX1_passYear_43 rfl rfl (by decide) (fun cc => absurd cc (by decide)) (fun _ => ?_)
            refine w_aload_n 47 dX1_passYear_46 rfl rfl ?_
            refine w_inv0 50 dX1_passYear_47 rfl mlX1_32 rfl rfl (d' := 0) (by decide) (Nat.le_of_ble_eq_true rfl) (c_X1_draw g0 k1 ?_)
            refine w_bipush 52 dX1_passYear_50 rfl (v := nI 100) rfl ?_
            refine w_iremN 53 dX1_passYear_52 rfl (by have := nxt_lt (cyT s y c (d0, n0) i).1; omega) (by omega) (by omega) ?_
            refine w_iload_n 54 dX1_passYear_53 rfl rfl ?_
            refine w_icgeN 70 57 dX1_passYear_54 rfl rfl (by omega) (by omega) (fun c54 => ?_) (fun c54 => ?_)
            · skip
              refine w_inc4 73 dX1_passYear_70 rfl (by decide) rfl (v := nI (_ + 1)) (nI_1 _) ?_
              refine w_goto 3 dX1_passYear_73 rfl ?_
              refine wp_to ?_ rfl rfl (ih (i + 1) _ (by omega) (hO.upd (by decide) _ _) ?_ ?_ (by omega))
              · simp [lle]
              · dsimp only; rw [upd2_at]; simp [cyT, c21, c31]
              · dsimp only; rw [upd2_off (by decide), g1]; simp [cyT, c21, c31, Nat.not_lt.mpr c54]
            · skip
              refine w_aload_n 58 dX1_passYear_57 rfl rfl ?_
              refine w_dup_r 59 dX1_passYear_58 rfl ?_
              refine w_getiv 62 dX1_passYear_59 rfl faX1_15 rfl rfl rfl (show _ = nI (cyT s y c (d0, n0) i).2 from by dsimp only; rw [upd2_off (by decide)]; exact g1) ?_
              refine w_iconst 63 dX1_passYear_62 rfl (v := nI 1) rfl ?_
              refine w_iload 65 dX1_passYear_63 rfl rfl ?_
              refine w_shl1 66 dX1_passYear_65 rfl (by omega) ?_
              refine w_ior 67 dX1_passYear_66 rfl ?_
              refine w_top (nI_or _ _) ?_
              refine w_puti 70 dX1_passYear_67 rfl faX1_15 rfl rfl rfl rfl ?_
              refine w_inc4 73 dX1_passYear_70 rfl (by decide) rfl (v := nI (_ + 1)) (nI_1 _) ?_
              refine w_goto 3 dX1_passYear_73 rfl ?_
              refine wp_to ?_ rfl rfl (ih (i + 1) _ (by omega) ((hO.upd (by decide) _ _).upd (by decide) _ _) ?_ ?_ (by omega))
              · simp [lle]
              · dsimp only; rw [upd2_off (by decide), upd2_at]; simp [cyT, c21, c31]
              · dsimp only; rw [upd2_at]; simp [cyT, c21, c31, c54]
  refine w_iconst 1 dX1_passYear_0 rfl (v := nI 0) rfl ?_
  refine w_ist4 3 dX1_passYear_1 rfl (by decide) rfl ?_
  exact lp3 _ 0 A (Nat.zero_le _) OffL.rf h0 h1 (Nat.lt_succ_self _)

/-! ===== Share ===== -/
theorem half {d r : Nat} (h0 : 0 < r) (h : r ≤ d) : 2 * (d % r) < d := by
  have h1 := Nat.mod_lt d h0
  have h2 := Nat.div_add_mod d r
  have h3 : 1 ≤ d / r := (Nat.one_le_div_iff h0).mpr h
  have h4 : r * 1 ≤ r * (d / r) := Nat.mul_le_mul_left r h3
  omega
theorem gcd_step (d r : Nat) : Nat.gcd r (d % r) = Nat.gcd d r := by
  rw [Nat.gcd_comm d r, Nat.gcd_rec r d, Nat.gcd_comm]
set_option maxRecDepth 4000 in
theorem c_X6_commonOf {K : Option Value → AH → Prop} {dm : Nat × Nat} {G : Nat → Nat → Value} {A : AH} {x y : Nat} (hx : x < 2 ^ 63) (hy : y < 2 ^ 63) (h : K (some (.long (lN (Nat.gcd x y)))) A) : Ct yX6_commonOf mX6_commonOf 0 dm G [.long (lN x), .long (lN y)] A K := by
  refine Ct.of [some (.long (lN x)), none, some (.long (lN y)), none, none, none, none, none, none, none, none] rfl rfl rfl (Nat.le_of_ble_eq_true rfl) ?_
  have lp9 : ∀ (nf : Nat) (i j d r : Nat), d < 2 ^ 63 → r < 2 ^ 63 → d * r < 2 ^ j → Nat.gcd d r = Nat.gcd x y → (r ≤ d → i + j ≤ 199) → (d < r → i + j ≤ 198) → 200 - i < nf → WP mX6_commonOf 0 dm G 9 [some (.long (lN x)), none, some (.long (lN y)), none, some (.long (lN d)), none, some (.long (lN r)), none, some (.int (nI i)), none, none] [] A K := by
    intro nf
    induction nf with
    | zero => intros; omega
    | succ nf ih =>
      intro i j d r hd hr hp hg h1 h2 hms
      have hi : i ≤ 199 := by rcases Nat.lt_or_ge d r with q | q <;> omega
      refine w_iload 11 dX6_commonOf_9 rfl rfl ?_
      refine w_sipush 14 dX6_commonOf_11 rfl (v := nI 200) rfl ?_
      refine w_icgeN 45 17 dX6_commonOf_14 rfl rfl (by omega) (by omega) (fun c14 => (by omega)) (fun c14 => ?_)
      refine w_lload 19 dX6_commonOf_17 rfl rfl ?_
      refine w_lconst 20 dX6_commonOf_19 rfl (v := lN 0) rfl ?_
      refine w_lcmp 21 dX6_commonOf_20 rfl ?_
      refine w_ifeqL 45 24 dX6_commonOf_21 rfl rfl (by omega) (by omega) (fun c21 => ?_) (fun c21 => ?_)
      · skip
        refine w_lload 47 dX6_commonOf_45 rfl rfl ?_
        refine wr_l dX6_commonOf_47 rfl ?_
        rw [c21, Nat.gcd_zero_right] at hg
        exact kl h (by rw [hg])
      · skip
        refine w_lload 26 dX6_commonOf_24 rfl rfl ?_
        refine w_lload 28 dX6_commonOf_26 rfl rfl ?_
        refine w_lremN 29 dX6_commonOf_28 rfl (by omega) (by omega) (by omega) ?_
        refine w_lst9 31 dX6_commonOf_29 rfl (by decide) rfl ?_
        refine w_lload 33 dX6_commonOf_31 rfl rfl ?_
        refine w_lst4 35 dX6_commonOf_33 rfl (by decide) rfl ?_
        refine w_lload 37 dX6_commonOf_35 rfl rfl ?_
        refine w_lst6 39 dX6_commonOf_37 rfl (by decide) rfl ?_
        refine w_inc8 42 dX6_commonOf_39 rfl (by decide) rfl (v := nI (_ + 1)) (nI_1 _) ?_
        refine w_goto 9 dX6_commonOf_42 rfl ?_
        have h0 : 0 < r := by omega
        have hml := Nat.mod_lt d h0
        have hge : r ≤ d → r * (d % r) < 2 ^ (j - 1) := fun q => by
          have hh := half h0 q
          have hj : 1 ≤ j := by
            rcases Nat.eq_zero_or_pos j with e | e
            · subst e
              have : 1 * 1 ≤ d * r := Nat.mul_le_mul (by omega) (by omega)
              omega
            · exact e
          have e2 : 2 ^ j = 2 * 2 ^ (j - 1) := by rw [← Nat.pow_succ', show (j - 1).succ = j by omega]
          have h5 : r * (2 * (d % r)) < r * d := Nat.mul_lt_mul_of_pos_left hh h0
          have h6 : r * (2 * (d % r)) = 2 * (r * (d % r)) := by rw [← Nat.mul_assoc, Nat.mul_comm r 2, Nat.mul_assoc]
          have h7 : r * d = d * r := Nat.mul_comm r d
          omega
        rcases Nat.lt_or_ge d r with q | q
        · refine wp_to (by simp [lle]) rfl rfl (ih (i + 1) j r (d % r) hr (by omega) ?_ (by rw [gcd_step]; exact hg) (fun _ => by have := h2 q; omega) (fun z => by omega) (by omega))
          rw [Nat.mod_eq_of_lt q, Nat.mul_comm]; exact hp
        · have h9 := h1 q
          have hj : 1 ≤ j := by
            rcases Nat.eq_zero_or_pos j with e | e
            · subst e
              have : 1 * 1 ≤ d * r := Nat.mul_le_mul (by omega) (by omega)
              omega
            · exact e
          exact wp_to (by simp [lle]) rfl rfl (ih (i + 1) (j - 1) r (d % r) hr (by omega) (hge q) (by rw [gcd_step]; exact hg) (fun _ => by omega) (fun z => by omega) (by omega))
  refine w_lload_n 1 dX6_commonOf_0 rfl rfl ?_
  refine w_lst4 3 dX6_commonOf_1 rfl (by decide) rfl ?_
  refine w_lload_n 4 dX6_commonOf_3 rfl rfl ?_
  refine w_lst6 6 dX6_commonOf_4 rfl (by decide) rfl ?_
  refine w_iconst 7 dX6_commonOf_6 rfl (v := nI 0) rfl ?_
  refine w_ist8 9 dX6_commonOf_7 rfl (by decide) rfl ?_
  refine lp9 201 0 126 x y hx hy ?_ rfl (fun _ => by decide) (fun _ => by decide) (by omega)
  calc x * y ≤ 2 ^ 63 * y := Nat.mul_le_mul_right _ (Nat.le_of_lt hx)
    _ < 2 ^ 63 * 2 ^ 63 := Nat.mul_lt_mul_of_pos_left hy (by decide)
    _ = 2 ^ 126 := by rw [← Nat.pow_add]

def upr (p w : Nat) : Nat := if w = 0 then 0 else p / Nat.gcd p w
def lwr (p w : Nat) : Nat := if w = 0 then 1 else w / Nat.gcd p w
set_option maxRecDepth 4000 in
theorem c_X6_set {K : Option Value → AH → Prop} {A : AH} {p w : Nat} (hp : p < 2 ^ 63) (hw : w < 2 ^ 63) (h : K none (A.1, upd2 (upd2 A.2 59 0 (lN (upr p w))) 59 1 (lN (lwr p w)))) : Ct yX6_set mX6_set 1 dC gC [.ref 59, .long (lN p), .long (lN w)] A K := by
  refine Ct.of [some (.ref 59), some (.long (lN p)), none, some (.long (lN w)), none, none, none, none] rfl rfl rfl (Nat.le_of_ble_eq_true rfl) ?_
  have hg : Nat.gcd p w ≤ max p w := by
    rcases Nat.eq_zero_or_pos p with e | e
    · subst e; rw [Nat.gcd_zero_left]; omega
    · exact Nat.le_trans (Nat.gcd_le_left w e) (by omega)
  have hg2 : Nat.gcd p w < 2 ^ 63 := by omega
  refine w_lload_n 1 dX6_set_0 rfl rfl ?_
  refine w_lload_n 2 dX6_set_1 rfl rfl ?_
  refine w_invs2 5 dX6_set_2 rfl slX6_7 (d' := 0) (by decide) (Nat.le_of_ble_eq_true rfl) (c_X6_commonOf hp hw ?_)
  refine w_lst5 7 dX6_set_5 rfl (by decide) rfl ?_
  refine w_lload_n 8 dX6_set_7 rfl rfl ?_
  refine w_lconst 9 dX6_set_8 rfl (v := lN 0) rfl ?_
  refine w_lcmp 10 dX6_set_9 rfl ?_
  refine w_ifeqL 20 13 dX6_set_10 rfl rfl (by omega) (by omega) (fun c10 => ?_) (fun c10 => ?_)
  · skip
    refine w_iconst 21 dX6_set_20 rfl (v := nI 1) rfl ?_
    refine w_goto 25 dX6_set_21 rfl ?_
    refine w_ist7 27 dX6_set_25 rfl (by decide) rfl ?_
    refine w_aload_n 28 dX6_set_27 rfl rfl ?_
    refine w_iload 30 dX6_set_28 rfl rfl ?_
    refine w_ifeqN 37 33 dX6_set_30 rfl rfl (by decide) (fun cc => absurd cc (by decide)) (fun _ => ?_)
    refine w_lconst 34 dX6_set_33 rfl (v := lN 0) rfl ?_
    refine w_goto 41 dX6_set_34 rfl ?_
    refine w_putj 44 dX6_set_41 rfl faX6_13 rfl rfl rfl rfl ?_
    refine w_aload_n 45 dX6_set_44 rfl rfl ?_
    refine w_iload 47 dX6_set_45 rfl rfl ?_
    refine w_ifeqN 54 50 dX6_set_47 rfl rfl (by decide) (fun cc => absurd cc (by decide)) (fun _ => ?_)
    refine w_lconst 51 dX6_set_50 rfl (v := lN 1) rfl ?_
    refine w_goto 58 dX6_set_51 rfl ?_
    refine w_putj 61 dX6_set_58 rfl faX6_17 rfl rfl rfl rfl ?_
    refine wr_v dX6_set_61 rfl ?_
    rw [show upr p w = 0 by simp [upr, c10], show lwr p w = 1 by simp [lwr, c10]] at h
    exact h
  · skip
    refine w_lload 15 dX6_set_13 rfl rfl ?_
    refine w_lconst 16 dX6_set_15 rfl (v := lN 0) rfl ?_
    refine w_lcmp 17 dX6_set_16 rfl ?_
    refine w_ifneL 24 20 dX6_set_17 rfl rfl (by omega) (by omega) (fun c17 => ?_) (fun c17 => (by exact absurd (Nat.eq_zero_of_gcd_eq_zero_right c17) c10))
    refine w_iconst 25 dX6_set_24 rfl (v := nI 0) rfl ?_
    refine w_ist7 27 dX6_set_25 rfl (by decide) rfl ?_
    refine w_aload_n 28 dX6_set_27 rfl rfl ?_
    refine w_iload 30 dX6_set_28 rfl rfl ?_
    refine w_ifeqN 37 33 dX6_set_30 rfl rfl (by decide) (fun _ => ?_) (fun cc => absurd cc (by decide))
    refine w_lload_n 38 dX6_set_37 rfl rfl ?_
    refine w_lload 40 dX6_set_38 rfl rfl ?_
    refine w_ldivN 41 dX6_set_40 rfl (by omega) (by omega) (by omega) ?_
    refine w_putj 44 dX6_set_41 rfl faX6_13 rfl rfl rfl rfl ?_
    refine w_aload_n 45 dX6_set_44 rfl rfl ?_
    refine w_iload 47 dX6_set_45 rfl rfl ?_
    refine w_ifeqN 54 50 dX6_set_47 rfl rfl (by decide) (fun _ => ?_) (fun cc => absurd cc (by decide))
    refine w_lload_n 55 dX6_set_54 rfl rfl ?_
    refine w_lload 57 dX6_set_55 rfl rfl ?_
    refine w_ldivN 58 dX6_set_57 rfl (by omega) (by omega) (by omega) ?_
    refine w_putj 61 dX6_set_58 rfl faX6_17 rfl rfl rfl rfl ?_
    refine wr_v dX6_set_61 rfl ?_
    rw [show upr p w = p / Nat.gcd p w by simp [upr, c10], show lwr p w = w / Nat.gcd p w by simp [lwr, c10]] at h
    exact h

set_option maxRecDepth 4000 in
theorem c_X6_part {K : Option Value → AH → Prop} {A : AH} {b : Bool} {u v : Nat} (hu : A.2 59 0 = lN u) (hv : A.2 59 1 = lN v) (h : K (some (.long (lN (if b then v else u)))) A) : Ct yX6_part mX6_part 0 dC gC [.ref 59, .int (b2i b)] A K := by
  refine Ct.of [some (.ref 59), some (.int (b2i b))] rfl rfl rfl (Nat.le_of_ble_eq_true rfl) ?_
  refine w_iload_n 1 dX6_part_0 rfl rfl ?_
  refine w_ifeqB 11 4 dX6_part_1 rfl rfl (fun c1 => ?_) (fun c1 => ?_)
  · skip
    refine w_aload_n 12 dX6_part_11 rfl rfl ?_
    refine w_getjv 15 dX6_part_12 rfl faX6_13 rfl rfl rfl hu ?_
    refine wr_l dX6_part_15 rfl ?_
    exact kl h (by rw [c1]; rfl)
  · skip
    refine w_aload_n 5 dX6_part_4 rfl rfl ?_
    refine w_getjv 8 dX6_part_5 rfl faX6_17 rfl rfl rfl hv ?_
    refine w_goto 15 dX6_part_8 rfl ?_
    refine wr_l dX6_part_15 rfl ?_
    exact kl h (by rw [c1]; rfl)
