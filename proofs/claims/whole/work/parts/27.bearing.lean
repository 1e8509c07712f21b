/-! ===== Bearing ===== -/
def sumB (f : Nat → Nat) (m n : Nat) : Nat := sumTo (fun i => if m.testBit i then f i else 0) n
theorem sumB_lt {f : Nat → Nat} {m i : Nat} (h : m < 2 ^ i) : sumB f m (i + 1) = sumB f m i := by
  simp [sumB, sumTo, Nat.testBit_lt_two_pow h]
theorem sumB_pow {f : Nat → Nat} {r i : Nat} (h : r < 2 ^ i) : sumB f (2 ^ i + r) (i + 1) = sumB f r i + f i := by
  have h1 : (2 ^ i + r).testBit i = true := by rw [Nat.testBit_two_pow_add_eq, Nat.testBit_lt_two_pow h]; rfl
  have h2 : sumTo (fun j => if (2 ^ i + r).testBit j then f j else 0) i = sumTo (fun j => if r.testBit j then f j else 0) i := sumTo_cong (fun j hj => by rw [Nat.testBit_two_pow_add_gt hj])
  simp only [sumB, sumTo, h1, if_pos, h2]
theorem sumB_0 {f : Nat → Nat} : sumB f 0 0 = 0 := rfl
theorem sumB_le {f : Nat → Nat} {m n : Nat} (hf : ∀ i, i < n → f i ≤ 99) : sumB f m n ≤ 99 * n := sumTo_le (fun i hi => by split; exact hf i hi; omega)
def RepE (e1 e2 es : Nat → Nat) (A : AH) : Prop := ∀ i, i < 13 → A.1 49 i = nI (e1 i) ∧ A.1 50 i = nI (e2 i) ∧ A.1 51 i = nI (es i)
def okE (e1 e2 es : Nat → Nat) : Prop := ∀ i, i < 13 → e1 i < 7 ∧ e2 i < 7 ∧ es i ≤ 99
def RepTS (es : Nat → Nat) (A : AH) : Prop := ∀ m, m < 256 → A.1 52 m = nI (sumB es m 8)
def RepOS (es : Nat → Nat) (A : AH) : Prop := ∀ m, m < 32 → A.1 53 m = nI (sumB (fun i => es (8 + i)) m 5)
theorem p8 {i : Nat} (h : i < 8) : 2 ^ i ≤ 128 := show 2 ^ i ≤ 2 ^ 7 from Nat.pow_le_pow_right (by decide) (by omega)
theorem p5 {i : Nat} (h : i < 5) : 2 ^ i ≤ 16 := show 2 ^ i ≤ 2 ^ 4 from Nat.pow_le_pow_right (by decide) (by omega)
set_option maxRecDepth 4000 in
theorem c_X0_fillSums_52 {K : Option Value → AH → Prop} {A : AH} {es : Nat → Nat} (hE : ∀ i, i < 8 → A.1 51 (0 + i) = nI (es (0 + i))) (h0 : A.1 52 0 = nI 0) (h : ∀ A', (∀ m, m < 256 → A'.1 52 m = nI (sumB es m 8)) → OffL [52] A A' → K none A') : Ct yX0_fillSums mX0_fillSums 0 dC gC [.ref 48, .ref 52, .int (nI 0), .int (nI 8)] A K := by
  refine Ct.of [some (.ref 48), some (.ref 52), some (.int (nI 0)), some (.int (nI 8)), none, none, none] rfl rfl rfl (Nat.le_of_ble_eq_true rfl) ?_
  have lp18 : ∀ (n : Nat) (i r : Nat) (A' : AH), i < 8 → r ≤ 2 ^ i → OffL [52] A A' → (∀ m, m < 2 ^ i + r → A'.1 52 m = nI (sumB es m (i + 1))) → (∀ A'', OffL [52] A A'' → (∀ m, m < 2 ^ (i + 1) → A''.1 52 m = nI (sumB es m (i + 1))) → WP mX0_fillSums 0 dC gC 71 [some (.ref 48), some (.ref 52), some (.int (nI 0)), some (.int (nI 8)), some (.int (nI i)), none, none] [] A'' K) → 2 ^ i - r < n → WP mX0_fillSums 0 dC gC 18 [some (.ref 48), some (.ref 52), some (.int (nI 0)), some (.int (nI 8)), some (.int (nI i)), some (.int (nI (2 ^ i))), some (.int (nI r))] [] A' K := by
    intro n
    induction n with
    | zero => intros; omega
    | succ n ih =>
      intro i r A' hi hr hO hz hk hms
      have hp := p8 hi
      have hp2 : 2 ^ (i + 1) = 2 * 2 ^ i := Nat.pow_succ'
      refine w_iload 20 dX0_fillSums_18 rfl rfl ?_
      refine w_iload 22 dX0_fillSums_20 rfl rfl ?_
      refine w_icgeN 71 25 dX0_fillSums_22 rfl rfl (by omega) (by omega) (fun c22 => ?_) (fun c22 => ?_)
      · skip
        refine wp_to ?_ rfl rfl (hk A' hO (fun m hm => hz m (by omega)))
        simp [lle]
      · skip
        refine w_iload_n 26 dX0_fillSums_25 rfl rfl ?_
        refine w_iload 28 dX0_fillSums_26 rfl rfl ?_
        refine w_iaddN 29 dX0_fillSums_28 rfl ?_
        refine w_bipush 31 dX0_fillSums_29 rfl (v := nI 13) rfl ?_
        refine w_icgeN 65 34 dX0_fillSums_31 rfl rfl (by omega) (by omega) (fun c31 => (by omega)) (fun c31 => ?_)
        refine w_iload 36 dX0_fillSums_34 rfl rfl ?_
        refine w_iload 38 dX0_fillSums_36 rfl rfl ?_
        refine w_iaddN 39 dX0_fillSums_38 rfl ?_
        refine w_aload_n 40 dX0_fillSums_39 rfl rfl ?_
        refine w_alen 41 dX0_fillSums_40 rfl rfl rfl (by decide) (v := nI 256) rfl ?_
        refine w_icgeN 65 44 dX0_fillSums_41 rfl rfl (by omega) (by omega) (fun c41 => (by omega)) (fun c41 => ?_)
        refine w_aload_n 45 dX0_fillSums_44 rfl rfl ?_
        refine w_iload 47 dX0_fillSums_45 rfl rfl ?_
        refine w_iload 49 dX0_fillSums_47 rfl rfl ?_
        refine w_iaddN 50 dX0_fillSums_49 rfl ?_
        refine w_aload_n 51 dX0_fillSums_50 rfl rfl ?_
        refine w_iload 53 dX0_fillSums_51 rfl rfl ?_
        refine w_ialdv 54 dX0_fillSums_53 rfl rfl rfl (by decide) (by omega) (hz r (by omega)) ?_
        refine w_aload_n 55 dX0_fillSums_54 rfl rfl ?_
        refine w_getr 58 dX0_fillSums_55 rfl faX0_18 rfl rfl rfl (r := .ref 51) rfl ?_
        refine w_iload_n 59 dX0_fillSums_58 rfl rfl ?_
        refine w_iload 61 dX0_fillSums_59 rfl rfl ?_
        refine w_iaddN 62 dX0_fillSums_61 rfl ?_
        refine w_ialdv 63 dX0_fillSums_62 rfl rfl rfl (by decide) (by omega) (show _ = nI (es (0 + i)) from by rw [(hO 51 (by decide)).1]; exact hE _ (by omega)) ?_
        refine w_iaddN 64 dX0_fillSums_63 rfl ?_
        refine w_iastN 65 dX0_fillSums_64 rfl rfl rfl (by decide) (by omega) ?_
        refine w_inc6 68 dX0_fillSums_65 rfl (by decide) rfl (v := nI (_ + 1)) (nI_1 _) ?_
        refine w_goto 18 dX0_fillSums_68 rfl ?_
        refine wp_eq rfl rfl rfl (ih i (r + 1) _ hi (by omega) (hO.upd (by decide) _ _) (fun m hm => ?_) hk (by omega))
        dsimp only
        by_cases e : m = 2 ^ i + r
        · subst e
          rw [upd2_at, sumB_pow (by omega), sumB_lt (by omega)]
          try rw [Nat.zero_add]
        · rw [upd2_off e]
          exact hz m (by omega)
  have lp3 : ∀ (n : Nat) (i : Nat) (A' : AH), i ≤ 8 → OffL [52] A A' → (∀ m, m < 2 ^ i → A'.1 52 m = nI (sumB es m i)) → 8 - i < n → WP mX0_fillSums 0 dC gC 3 [some (.ref 48), some (.ref 52), some (.int (nI 0)), some (.int (nI 8)), some (.int (nI i)), none, none] [] A' K := by
    intro n
    induction n with
    | zero => intros; omega
    | succ n ih =>
      intro i A' hi hO hz hms
      refine w_iload 5 dX0_fillSums_3 rfl rfl ?_
      refine w_iload_n 6 dX0_fillSums_5 rfl rfl ?_
      refine w_icgeN 77 9 dX0_fillSums_6 rfl rfl (by omega) (by omega) (fun c6 => ?_) (fun c6 => ?_)
      · skip
        have e : i = 8 := by omega
        subst e
        refine wr_v dX0_fillSums_77 rfl ?_
        exact h A' hz hO
      · skip
        refine w_iconst 10 dX0_fillSums_9 rfl (v := nI 1) rfl ?_
        refine w_iload 12 dX0_fillSums_10 rfl rfl ?_
        refine w_shl1 13 dX0_fillSums_12 rfl (by omega) ?_
        refine w_ist5 15 dX0_fillSums_13 rfl (by decide) rfl ?_
        refine w_iconst 16 dX0_fillSums_15 rfl (v := nI 0) rfl ?_
        refine w_ist6 18 dX0_fillSums_16 rfl (by decide) rfl ?_
        have hp := p8 c6
        refine lp18 _ i 0 A' c6 (Nat.zero_le _) hO (fun m hm => by rw [sumB_lt (by omega)]; exact hz m (by omega)) (fun A'' hO hz => ?_) (Nat.lt_succ_self _)
        refine w_inc4 74 dX0_fillSums_71 rfl (by decide) rfl (v := nI (_ + 1)) (nI_1 _) ?_
        refine w_goto 3 dX0_fillSums_74 rfl ?_
        exact ih (i + 1) A'' (by omega) hO hz (by omega)
  refine w_iconst 1 dX0_fillSums_0 rfl (v := nI 0) rfl ?_
  refine w_ist4 3 dX0_fillSums_1 rfl (by decide) rfl ?_
  exact lp3 _ 0 A (Nat.zero_le _) OffL.rf (fun m hm => by rw [show m = 0 by omega, sumB_0]; exact h0) (Nat.lt_succ_self _)

set_option maxRecDepth 4000 in
theorem c_X0_fillSums_53 {K : Option Value → AH → Prop} {A : AH} {es : Nat → Nat} (hE : ∀ i, i < 5 → A.1 51 (8 + i) = nI (es (8 + i))) (h0 : A.1 53 0 = nI 0) (h : ∀ A', (∀ m, m < 32 → A'.1 53 m = nI (sumB (fun i => es (8 + i)) m 5)) → OffL [53] A A' → K none A') : Ct yX0_fillSums mX0_fillSums 0 dC gC [.ref 48, .ref 53, .int (nI 8), .int (nI 5)] A K := by
  refine Ct.of [some (.ref 48), some (.ref 53), some (.int (nI 8)), some (.int (nI 5)), none, none, none] rfl rfl rfl (Nat.le_of_ble_eq_true rfl) ?_
  have lp18 : ∀ (n : Nat) (i r : Nat) (A' : AH), i < 5 → r ≤ 2 ^ i → OffL [53] A A' → (∀ m, m < 2 ^ i + r → A'.1 53 m = nI (sumB (fun i => es (8 + i)) m (i + 1))) → (∀ A'', OffL [53] A A'' → (∀ m, m < 2 ^ (i + 1) → A''.1 53 m = nI (sumB (fun i => es (8 + i)) m (i + 1))) → WP mX0_fillSums 0 dC gC 71 [some (.ref 48), some (.ref 53), some (.int (nI 8)), some (.int (nI 5)), some (.int (nI i)), none, none] [] A'' K) → 2 ^ i - r < n → WP mX0_fillSums 0 dC gC 18 [some (.ref 48), some (.ref 53), some (.int (nI 8)), some (.int (nI 5)), some (.int (nI i)), some (.int (nI (2 ^ i))), some (.int (nI r))] [] A' K := by
    intro n
    induction n with
    | zero => intros; omega
    | succ n ih =>
      intro i r A' hi hr hO hz hk hms
      have hp := p5 hi
      have hp2 : 2 ^ (i + 1) = 2 * 2 ^ i := Nat.pow_succ'
      refine w_iload 20 dX0_fillSums_18 rfl rfl ?_
      refine w_iload 22 dX0_fillSums_20 rfl rfl ?_
      refine w_icgeN 71 25 dX0_fillSums_22 rfl rfl (by omega) (by omega) (fun c22 => ?_) (fun c22 => ?_)
      · skip
        refine wp_to ?_ rfl rfl (hk A' hO (fun m hm => hz m (by omega)))
        simp [lle]
      · skip
        refine w_iload_n 26 dX0_fillSums_25 rfl rfl ?_
        refine w_iload 28 dX0_fillSums_26 rfl rfl ?_
        refine w_iaddN 29 dX0_fillSums_28 rfl ?_
        refine w_bipush 31 dX0_fillSums_29 rfl (v := nI 13) rfl ?_
        refine w_icgeN 65 34 dX0_fillSums_31 rfl rfl (by omega) (by omega) (fun c31 => (by omega)) (fun c31 => ?_)
        refine w_iload 36 dX0_fillSums_34 rfl rfl ?_
        refine w_iload 38 dX0_fillSums_36 rfl rfl ?_
        refine w_iaddN 39 dX0_fillSums_38 rfl ?_
        refine w_aload_n 40 dX0_fillSums_39 rfl rfl ?_
        refine w_alen 41 dX0_fillSums_40 rfl rfl rfl (by decide) (v := nI 32) rfl ?_
        refine w_icgeN 65 44 dX0_fillSums_41 rfl rfl (by omega) (by omega) (fun c41 => (by omega)) (fun c41 => ?_)
        refine w_aload_n 45 dX0_fillSums_44 rfl rfl ?_
        refine w_iload 47 dX0_fillSums_45 rfl rfl ?_
        refine w_iload 49 dX0_fillSums_47 rfl rfl ?_
        refine w_iaddN 50 dX0_fillSums_49 rfl ?_
        refine w_aload_n 51 dX0_fillSums_50 rfl rfl ?_
        refine w_iload 53 dX0_fillSums_51 rfl rfl ?_
        refine w_ialdv 54 dX0_fillSums_53 rfl rfl rfl (by decide) (by omega) (hz r (by omega)) ?_
        refine w_aload_n 55 dX0_fillSums_54 rfl rfl ?_
        refine w_getr 58 dX0_fillSums_55 rfl faX0_18 rfl rfl rfl (r := .ref 51) rfl ?_
        refine w_iload_n 59 dX0_fillSums_58 rfl rfl ?_
        refine w_iload 61 dX0_fillSums_59 rfl rfl ?_
        refine w_iaddN 62 dX0_fillSums_61 rfl ?_
        refine w_ialdv 63 dX0_fillSums_62 rfl rfl rfl (by decide) (by omega) (show _ = nI (es (8 + i)) from by rw [(hO 51 (by decide)).1]; exact hE _ (by omega)) ?_
        refine w_iaddN 64 dX0_fillSums_63 rfl ?_
        refine w_iastN 65 dX0_fillSums_64 rfl rfl rfl (by decide) (by omega) ?_
        refine w_inc6 68 dX0_fillSums_65 rfl (by decide) rfl (v := nI (_ + 1)) (nI_1 _) ?_
        refine w_goto 18 dX0_fillSums_68 rfl ?_
        refine wp_eq rfl rfl rfl (ih i (r + 1) _ hi (by omega) (hO.upd (by decide) _ _) (fun m hm => ?_) hk (by omega))
        dsimp only
        by_cases e : m = 2 ^ i + r
        · subst e
          rw [upd2_at, sumB_pow (by omega), sumB_lt (by omega)]
          try rw [Nat.zero_add]
        · rw [upd2_off e]
          exact hz m (by omega)
  have lp3 : ∀ (n : Nat) (i : Nat) (A' : AH), i ≤ 5 → OffL [53] A A' → (∀ m, m < 2 ^ i → A'.1 53 m = nI (sumB (fun i => es (8 + i)) m i)) → 5 - i < n → WP mX0_fillSums 0 dC gC 3 [some (.ref 48), some (.ref 53), some (.int (nI 8)), some (.int (nI 5)), some (.int (nI i)), none, none] [] A' K := by
    intro n
    induction n with
    | zero => intros; omega
    | succ n ih =>
      intro i A' hi hO hz hms
      refine w_iload 5 dX0_fillSums_3 rfl rfl ?_
      refine w_iload_n 6 dX0_fillSums_5 rfl rfl ?_
      refine w_icgeN 77 9 dX0_fillSums_6 rfl rfl (by omega) (by omega) (fun c6 => ?_) (fun c6 => ?_)
      · skip
        have e : i = 5 := by omega
        subst e
        refine wr_v dX0_fillSums_77 rfl ?_
        exact h A' hz hO
      · skip
        refine w_iconst 10 dX0_fillSums_9 rfl (v := nI 1) rfl ?_
        refine w_iload 12 dX0_fillSums_10 rfl rfl ?_
        refine w_shl1 13 dX0_fillSums_12 rfl (by omega) ?_
        refine w_ist5 15 dX0_fillSums_13 rfl (by decide) rfl ?_
        refine w_iconst 16 dX0_fillSums_15 rfl (v := nI 0) rfl ?_
        refine w_ist6 18 dX0_fillSums_16 rfl (by decide) rfl ?_
        have hp := p5 c6
        refine lp18 _ i 0 A' c6 (Nat.zero_le _) hO (fun m hm => by rw [sumB_lt (by omega)]; exact hz m (by omega)) (fun A'' hO hz => ?_) (Nat.lt_succ_self _)
        refine w_inc4 74 dX0_fillSums_71 rfl (by decide) rfl (v := nI (_ + 1)) (nI_1 _) ?_
        refine w_goto 3 dX0_fillSums_74 rfl ?_
        exact ih (i + 1) A'' (by omega) hO hz (by omega)
  refine w_iconst 1 dX0_fillSums_0 rfl (v := nI 0) rfl ?_
  refine w_ist4 3 dX0_fillSums_1 rfl (by decide) rfl ?_
  exact lp3 _ 0 A (Nat.zero_le _) OffL.rf (fun m hm => by rw [show m = 0 by omega, sumB_0]; exact h0) (Nat.lt_succ_self _)

theorem sumTo_split (f : Nat → Nat) (a : Nat) : ∀ b, sumTo f (a + b) = sumTo f a + sumTo (fun i => f (a + i)) b
  | 0 => rfl
  | b + 1 => by rw [← Nat.add_assoc]; simp only [sumTo]; rw [sumTo_split f a b]; omega
theorem sumB_13 (es : Nat → Nat) (m : Nat) : sumB es m 13 = sumB es (m % 256) 8 + sumB (fun i => es (8 + i)) (m / 256 % 32) 5 := by
  have h1 : sumB es m 13 = sumTo (fun i => if m.testBit i then es i else 0) 8 + sumTo (fun i => if m.testBit (8 + i) then es (8 + i) else 0) 5 := sumTo_split _ 8 5
  rw [h1]
  congr 1
  · exact sumTo_cong (fun i hi => by rw [show (256 : Nat) = 2 ^ 8 from rfl, Nat.testBit_mod_two_pow]; simp [hi])
  · exact sumTo_cong (fun i hi => by rw [show (32 : Nat) = 2 ^ 5 from rfl, Nat.testBit_mod_two_pow, show (256 : Nat) = 2 ^ 8 from rfl, ← Nat.shiftRight_eq_div_pow, Nat.testBit_shiftRight]; simp [hi])
def bO (es : Nat → Nat) (A : AH) : Prop := RepTS es A ∧ RepOS es A
theorem and255 {m : Nat} (h : m < 2 ^ 31) : nI m &&& nI 255 = nI (m % 256) := by rw [nI_and, show (255 : Nat) = 2 ^ 8 - 1 from rfl, Nat.and_two_pow_sub_one_eq_mod]
theorem shr8 {m : Nat} (h : m < 2 ^ 31) : (nI m >>> (nI 8 &&& 31)) &&& nI 31 = nI (m / 256 % 32) := by
  rw [pk_shrN h _ 8 (by decide), nI_and, show (31 : Nat) = 2 ^ 5 - 1 from rfl, Nat.and_two_pow_sub_one_eq_mod]
set_option maxRecDepth 4000 in
theorem c_X0_sumOf {K : Option Value → AH → Prop} {A : AH} {es : Nat → Nat} {m : Nat} (hB : bO es A) (hm : m < 2 ^ 31) (h : K (some (.int (nI (sumB es m 13)))) A) : Ct yX0_sumOf mX0_sumOf 0 dC gC [.ref 48, .int (nI m)] A K := by
  refine Ct.of [some (.ref 48), some (.int (nI m))] rfl rfl rfl (Nat.le_of_ble_eq_true rfl) ?_
  refine w_aload_n 1 dX0_sumOf_0 rfl rfl ?_
  refine w_getr 4 dX0_sumOf_1 rfl faX0_21 rfl rfl rfl (r := .ref 52) rfl ?_
  refine w_iload_n 5 dX0_sumOf_4 rfl rfl ?_
  refine w_sipush 8 dX0_sumOf_5 rfl (v := nI 255) rfl ?_
  refine w_iand 9 dX0_sumOf_8 rfl ?_
  refine w_top (and255 hm) ?_
  refine w_ialdv 10 dX0_sumOf_9 rfl rfl rfl (by decide) (by omega) (hB.1 _ (by omega)) ?_
  refine w_aload_n 11 dX0_sumOf_10 rfl rfl ?_
  refine w_getr 14 dX0_sumOf_11 rfl faX0_24 rfl rfl rfl (r := .ref 53) rfl ?_
  refine w_iload_n 15 dX0_sumOf_14 rfl rfl ?_
  refine w_bipush 17 dX0_sumOf_15 rfl (v := nI 8) rfl ?_
  refine w_ishr 18 dX0_sumOf_17 rfl ?_
  refine w_bipush 20 dX0_sumOf_18 rfl (v := nI 31) rfl ?_
  refine w_iand 21 dX0_sumOf_20 rfl ?_
  refine w_top (shr8 hm) ?_
  refine w_ialdv 22 dX0_sumOf_21 rfl rfl rfl (by decide) (by omega) (hB.2 _ (by omega)) ?_
  refine w_iaddN 23 dX0_sumOf_22 rfl ?_
  refine wr_i dX0_sumOf_23 rfl ?_
  exact kq h (by rw [sumB_13])

set_option maxRecDepth 4000 in
theorem c_X0_held {K : Option Value → AH → Prop} {A : AH} {e1 e2 es : Nat → Nat} (hE : RepE e1 e2 es A) (hO : okE e1 e2 es) (h : K (some (.int (nI (maskTo (fun t => decide (0 < es t)) 8)))) A) : Ct yX0_held mX0_held 0 dC gC [.ref 48] A K := by
  refine Ct.of [some (.ref 48), none, none] rfl rfl rfl (Nat.le_of_ble_eq_true rfl) ?_
  have lp4 : ∀ (n : Nat) (i : Nat), i ≤ 8 → 8 - i < n → WP mX0_held 0 dC gC 4 [some (.ref 48), some (.int (nI (maskTo (fun t => decide (0 < es t)) i))), some (.int (nI i))] [] A K := by
    intro n
    induction n with
    | zero => intros; omega
    | succ n ih =>
      intro i hi hms
      refine w_iload_n 5 dX0_held_4 rfl rfl ?_
      refine w_bipush 7 dX0_held_5 rfl (v := nI 8) rfl ?_
      refine w_icgeN 35 10 dX0_held_7 rfl rfl (by omega) (by omega) (fun c7 => ?_) (fun c7 => ?_)
      · skip
        have e : i = 8 := by omega
        subst e
        refine w_iload_n 36 dX0_held_35 rfl rfl ?_
        refine wr_i dX0_held_36 rfl ?_
        exact h
      · skip
        refine w_iload_n 11 dX0_held_10 rfl rfl ?_
        refine w_aload_n 12 dX0_held_11 rfl rfl ?_
        refine w_getr 15 dX0_held_12 rfl faX0_18 rfl rfl rfl (r := .ref 51) rfl ?_
        refine w_iload_n 16 dX0_held_15 rfl rfl ?_
        refine w_ialdv 17 dX0_held_16 rfl rfl rfl (by decide) (by omega) (hE i (by omega)).2.2 ?_
        refine w_ifleN 26 20 dX0_held_17 rfl rfl (by have := (hO i (by omega)).2.2; omega) (fun c17 => ?_) (fun c17 => ?_)
        · skip
          refine w_iconst 27 dX0_held_26 rfl (v := nI 0) rfl ?_
          refine w_ior 28 dX0_held_27 rfl ?_
          refine w_top (mask_or0 _ _) ?_
          refine w_ist1 29 dX0_held_28 rfl (by decide) rfl ?_
          refine w_inc2 32 dX0_held_29 rfl (by decide) rfl (v := nI (_ + 1)) (nI_1 _) ?_
          refine w_goto 4 dX0_held_32 rfl ?_
          refine wp_eq ?_ rfl rfl (ih (i + 1) (by omega) (by omega))
          simp [maskTo, c17]
        · skip
          refine w_iconst 21 dX0_held_20 rfl (v := nI 1) rfl ?_
          refine w_iload_n 22 dX0_held_21 rfl rfl ?_
          refine w_shl1 23 dX0_held_22 rfl (by omega) ?_
          refine w_goto 27 dX0_held_23 rfl ?_
          refine w_ior 28 dX0_held_27 rfl ?_
          refine w_top (mask_or _ _) ?_
          refine w_ist1 29 dX0_held_28 rfl (by decide) rfl ?_
          refine w_inc2 32 dX0_held_29 rfl (by decide) rfl (v := nI (_ + 1)) (nI_1 _) ?_
          refine w_goto 4 dX0_held_32 rfl ?_
          refine wp_eq ?_ rfl rfl (ih (i + 1) (by omega) (by omega))
          simp [maskTo, c17]
  refine w_iconst 1 dX0_held_0 rfl (v := nI 0) rfl ?_
  refine w_ist1 2 dX0_held_1 rfl (by decide) rfl ?_
  refine w_iconst 3 dX0_held_2 rfl (v := nI 0) rfl ?_
  refine w_ist2 4 dX0_held_3 rfl (by decide) rfl ?_
  exact lp4 _ 0 (Nat.zero_le _) (Nat.lt_succ_self _)

set_option maxRecDepth 4000 in
theorem c_X0_heldAt {K : Option Value → AH → Prop} {A : AH} {e1 e2 es : Nat → Nat} {a : Nat} (hE : RepE e1 e2 es A) (hO : okE e1 e2 es) (ha : a < 7) (h : K (some (.int (nI (maskTo (fun t => decide (e1 t = a ∨ e2 t = a) && decide (0 < es t)) 8)))) A) : Ct yX0_heldAt mX0_heldAt 0 dC gC [.ref 48, .int (nI a)] A K := by
  refine Ct.of [some (.ref 48), some (.int (nI a)), none, none, none] rfl rfl rfl (Nat.le_of_ble_eq_true rfl) ?_
  have lp4 : ∀ (n : Nat) (i : Nat), i ≤ 8 → 8 - i < n → WP mX0_heldAt 0 dC gC 4 [some (.ref 48), some (.int (nI a)), some (.int (nI (maskTo (fun t => decide (e1 t = a ∨ e2 t = a) && decide (0 < es t)) i))), some (.int (nI i)), none] [] A K := by
    intro n
    induction n with
    | zero => intros; omega
    | succ n ih =>
      intro i hi hms
      refine w_iload_n 5 dX0_heldAt_4 rfl rfl ?_
      refine w_bipush 7 dX0_heldAt_5 rfl (v := nI 8) rfl ?_
      refine w_icgeN 67 10 dX0_heldAt_7 rfl rfl (by omega) (by omega) (fun c7 => ?_) (fun c7 => ?_)
      · skip
        have e : i = 8 := by omega
        subst e
        refine w_iload_n 68 dX0_heldAt_67 rfl rfl ?_
        refine wr_i dX0_heldAt_68 rfl ?_
        exact h
      · skip
        obtain ⟨o1, o2, o3⟩ := hO i (by omega)
        obtain ⟨f1, f2, f3⟩ := hE i (by omega)
        refine w_aload_n 11 dX0_heldAt_10 rfl rfl ?_
        refine w_getr 14 dX0_heldAt_11 rfl faX0_11 rfl rfl rfl (r := .ref 49) rfl ?_
        refine w_iload_n 15 dX0_heldAt_14 rfl rfl ?_
        refine w_ialdv 16 dX0_heldAt_15 rfl rfl rfl (by decide) (by omega) f1 ?_
        refine w_iload_n 17 dX0_heldAt_16 rfl rfl ?_
        refine w_iceqN 30 20 dX0_heldAt_17 rfl rfl (by omega) (by omega) (fun c17 => ?_) (fun c17 => ?_)
        · skip
          refine w_iconst 31 dX0_heldAt_30 rfl (v := nI 1) rfl ?_
          refine w_goto 35 dX0_heldAt_31 rfl ?_
          refine w_ist4 37 dX0_heldAt_35 rfl (by decide) rfl ?_
          refine w_iload_n 38 dX0_heldAt_37 rfl rfl ?_
          refine w_iload 40 dX0_heldAt_38 rfl rfl ?_
          refine w_ifeqN 58 43 dX0_heldAt_40 rfl rfl (by decide) (fun cc => absurd cc (by decide)) (fun _ => ?_)
          refine w_aload_n 44 dX0_heldAt_43 rfl rfl ?_
          refine w_getr 47 dX0_heldAt_44 rfl faX0_18 rfl rfl rfl (r := .ref 51) rfl ?_
          refine w_iload_n 48 dX0_heldAt_47 rfl rfl ?_
          refine w_ialdv 49 dX0_heldAt_48 rfl rfl rfl (by decide) (by omega) f3 ?_
          refine w_ifleN 58 52 dX0_heldAt_49 rfl rfl (by omega) (fun c49 => ?_) (fun c49 => ?_)
          · skip
            refine w_iconst 59 dX0_heldAt_58 rfl (v := nI 0) rfl ?_
            refine w_ior 60 dX0_heldAt_59 rfl ?_
            refine w_top (mask_or0 _ _) ?_
            refine w_ist2 61 dX0_heldAt_60 rfl (by decide) rfl ?_
            refine w_inc3 64 dX0_heldAt_61 rfl (by decide) rfl (v := nI (_ + 1)) (nI_1 _) ?_
            refine w_goto 4 dX0_heldAt_64 rfl ?_
            refine wp_to ?_ rfl rfl (ih (i + 1) (by omega) (by omega))
            simp [lle, maskTo, c17, c49]
          · skip
            refine w_iconst 53 dX0_heldAt_52 rfl (v := nI 1) rfl ?_
            refine w_iload_n 54 dX0_heldAt_53 rfl rfl ?_
            refine w_shl1 55 dX0_heldAt_54 rfl (by omega) ?_
            refine w_goto 59 dX0_heldAt_55 rfl ?_
            refine w_ior 60 dX0_heldAt_59 rfl ?_
            refine w_top (mask_or _ _) ?_
            refine w_ist2 61 dX0_heldAt_60 rfl (by decide) rfl ?_
            refine w_inc3 64 dX0_heldAt_61 rfl (by decide) rfl (v := nI (_ + 1)) (nI_1 _) ?_
            refine w_goto 4 dX0_heldAt_64 rfl ?_
            refine wp_to ?_ rfl rfl (ih (i + 1) (by omega) (by omega))
            simp [lle, maskTo, c17, c49]
        · skip
          refine w_aload_n 21 dX0_heldAt_20 rfl rfl ?_
          refine w_getr 24 dX0_heldAt_21 rfl faX0_15 rfl rfl rfl (r := .ref 50) rfl ?_
          refine w_iload_n 25 dX0_heldAt_24 rfl rfl ?_
          refine w_ialdv 26 dX0_heldAt_25 rfl rfl rfl (by decide) (by omega) f2 ?_
          refine w_iload_n 27 dX0_heldAt_26 rfl rfl ?_
          refine w_icneN 34 30 dX0_heldAt_27 rfl rfl (by omega) (by omega) (fun c27 => ?_) (fun c27 => ?_)
          · skip
            refine w_iconst 35 dX0_heldAt_34 rfl (v := nI 0) rfl ?_
            refine w_ist4 37 dX0_heldAt_35 rfl (by decide) rfl ?_
            refine w_iload_n 38 dX0_heldAt_37 rfl rfl ?_
            refine w_iload 40 dX0_heldAt_38 rfl rfl ?_
            refine w_ifeqN 58 43 dX0_heldAt_40 rfl rfl (by decide) (fun _ => ?_) (fun cc => absurd cc (by decide))
            refine w_iconst 59 dX0_heldAt_58 rfl (v := nI 0) rfl ?_
            refine w_ior 60 dX0_heldAt_59 rfl ?_
            refine w_top (mask_or0 _ _) ?_
            refine w_ist2 61 dX0_heldAt_60 rfl (by decide) rfl ?_
            refine w_inc3 64 dX0_heldAt_61 rfl (by decide) rfl (v := nI (_ + 1)) (nI_1 _) ?_
            refine w_goto 4 dX0_heldAt_64 rfl ?_
            refine wp_to ?_ rfl rfl (ih (i + 1) (by omega) (by omega))
            simp [lle, maskTo, c17, c27]
          · skip
            refine w_iconst 31 dX0_heldAt_30 rfl (v := nI 1) rfl ?_
            refine w_goto 35 dX0_heldAt_31 rfl ?_
            refine w_ist4 37 dX0_heldAt_35 rfl (by decide) rfl ?_
            refine w_iload_n 38 dX0_heldAt_37 rfl rfl ?_
            refine w_iload 40 dX0_heldAt_38 rfl rfl ?_
            refine w_ifeqN 58 43 dX0_heldAt_40 rfl rfl (by decide) (fun cc => absurd cc (by decide)) (fun _ => ?_)
            refine w_aload_n 44 dX0_heldAt_43 rfl rfl ?_
            refine w_getr 47 dX0_heldAt_44 rfl faX0_18 rfl rfl rfl (r := .ref 51) rfl ?_
            refine w_iload_n 48 dX0_heldAt_47 rfl rfl ?_
            refine w_ialdv 49 dX0_heldAt_48 rfl rfl rfl (by decide) (by omega) f3 ?_
            refine w_ifleN 58 52 dX0_heldAt_49 rfl rfl (by omega) (fun c49 => ?_) (fun c49 => ?_)
            · skip
              refine w_iconst 59 dX0_heldAt_58 rfl (v := nI 0) rfl ?_
              refine w_ior 60 dX0_heldAt_59 rfl ?_
              refine w_top (mask_or0 _ _) ?_
              refine w_ist2 61 dX0_heldAt_60 rfl (by decide) rfl ?_
              refine w_inc3 64 dX0_heldAt_61 rfl (by decide) rfl (v := nI (_ + 1)) (nI_1 _) ?_
              refine w_goto 4 dX0_heldAt_64 rfl ?_
              refine wp_to ?_ rfl rfl (ih (i + 1) (by omega) (by omega))
              simp [lle, maskTo, c17, c27, c49]
            · skip
              refine w_iconst 53 dX0_heldAt_52 rfl (v := nI 1) rfl ?_
              refine w_iload_n 54 dX0_heldAt_53 rfl rfl ?_
              refine w_shl1 55 dX0_heldAt_54 rfl (by omega) ?_
              refine w_goto 59 dX0_heldAt_55 rfl ?_
              refine w_ior 60 dX0_heldAt_59 rfl ?_
              refine w_top (mask_or _ _) ?_
              refine w_ist2 61 dX0_heldAt_60 rfl (by decide) rfl ?_
              refine w_inc3 64 dX0_heldAt_61 rfl (by decide) rfl (v := nI (_ + 1)) (nI_1 _) ?_
              refine w_goto 4 dX0_heldAt_64 rfl ?_
              refine wp_to ?_ rfl rfl (ih (i + 1) (by omega) (by omega))
              simp [lle, maskTo, c17, c27, c49]
  refine w_iconst 1 dX0_heldAt_0 rfl (v := nI 0) rfl ?_
  refine w_ist2 2 dX0_heldAt_1 rfl (by decide) rfl ?_
  refine w_iconst 3 dX0_heldAt_2 rfl (v := nI 0) rfl ?_
  refine w_ist3 4 dX0_heldAt_3 rfl (by decide) rfl ?_
  exact lp4 _ 0 (Nat.zero_le _) (Nat.lt_succ_self _)

/-- which slots stand between a side and the others -/
def acr (e1 e2 : Nat → Nat) (s n : Nat) : Nat := maskTo (fun i => s.testBit (e1 i) != s.testBit (e2 i)) n
theorem b2i_inj {a b : Bool} : b2i a = b2i b ↔ a = b := by cases a <;> cases b <;> decide
set_option maxRecDepth 4000 in
theorem c_X0_across {K : Option Value → AH → Prop} {A : AH} {e1 e2 es : Nat → Nat} {s : Nat} (hE : RepE e1 e2 es A) (hO : okE e1 e2 es) (hs : s < 128) (h : K (some (.int (nI (acr e1 e2 s 13)))) A) : Ct yX0_across mX0_across 1 dC gC [.ref 48, .int (nI s)] A K := by
  refine Ct.of [some (.ref 48), some (.int (nI s)), none, none] rfl rfl rfl (Nat.le_of_ble_eq_true rfl) ?_
  have lp4 : ∀ (n : Nat) (i : Nat), i ≤ 13 → 13 - i < n → WP mX0_across 1 dC gC 4 [some (.ref 48), some (.int (nI s)), some (.int (nI (acr e1 e2 s i))), some (.int (nI i))] [] A K := by
    intro n
    induction n with
    | zero => intros; omega
    | succ n ih =>
      intro i hi hms
      refine w_iload_n 5 dX0_across_4 rfl rfl ?_
      refine w_bipush 7 dX0_across_5 rfl (v := nI 13) rfl ?_
      refine w_icgeN 49 10 dX0_across_7 rfl rfl (by omega) (by omega) (fun c7 => ?_) (fun c7 => ?_)
      · skip
        have e : i = 13 := by omega
        subst e
        refine w_iload_n 50 dX0_across_49 rfl rfl ?_
        refine wr_i dX0_across_50 rfl ?_
        exact h
      · skip
        obtain ⟨o1, o2, o3⟩ := hO i (by omega)
        obtain ⟨f1, f2, f3⟩ := hE i (by omega)
        refine w_iload_n 11 dX0_across_10 rfl rfl ?_
        refine w_iload_n 12 dX0_across_11 rfl rfl ?_
        refine w_aload_n 13 dX0_across_12 rfl rfl ?_
        refine w_getr 16 dX0_across_13 rfl faX0_11 rfl rfl rfl (r := .ref 49) rfl ?_
        refine w_iload_n 17 dX0_across_16 rfl rfl ?_
        refine w_ialdv 18 dX0_across_17 rfl rfl rfl (by decide) (by omega) f1 ?_
        refine w_invs2 21 dX0_across_18 rfl slX0_71 (d' := 0) (by decide) (Nat.le_of_ble_eq_true rfl) (c_X11_has ?_)
        rw [hasB_nI (by omega) (by omega)]
        refine w_iload_n 22 dX0_across_21 rfl rfl ?_
        refine w_aload_n 23 dX0_across_22 rfl rfl ?_
        refine w_getr 26 dX0_across_23 rfl faX0_15 rfl rfl rfl (r := .ref 50) rfl ?_
        refine w_iload_n 27 dX0_across_26 rfl rfl ?_
        refine w_ialdv 28 dX0_across_27 rfl rfl rfl (by decide) (by omega) f2 ?_
        refine w_invs2 31 dX0_across_28 rfl slX0_71 (d' := 0) (by decide) (Nat.le_of_ble_eq_true rfl) (c_X11_has ?_)
        rw [hasB_nI (by omega) (by omega)]
        refine w_iceq 40 34 dX0_across_31 rfl rfl (fun c31 => ?_) (fun c31 => ?_)
        · skip
          refine w_iconst 41 dX0_across_40 rfl (v := nI 0) rfl ?_
          refine w_ior 42 dX0_across_41 rfl ?_
          refine w_top (mask_or0 _ _) ?_
          refine w_ist2 43 dX0_across_42 rfl (by decide) rfl ?_
          refine w_inc3 46 dX0_across_43 rfl (by decide) rfl (v := nI (_ + 1)) (nI_1 _) ?_
          refine w_goto 4 dX0_across_46 rfl ?_
          refine wp_eq ?_ rfl rfl (ih (i + 1) (by omega) (by omega))
          simp [acr, maskTo, b2i_inj.mp c31]
        · skip
          refine w_iconst 35 dX0_across_34 rfl (v := nI 1) rfl ?_
          refine w_iload_n 36 dX0_across_35 rfl rfl ?_
          refine w_shl1 37 dX0_across_36 rfl (by omega) ?_
          refine w_goto 41 dX0_across_37 rfl ?_
          refine w_ior 42 dX0_across_41 rfl ?_
          refine w_top (mask_or _ _) ?_
          refine w_ist2 43 dX0_across_42 rfl (by decide) rfl ?_
          refine w_inc3 46 dX0_across_43 rfl (by decide) rfl (v := nI (_ + 1)) (nI_1 _) ?_
          refine w_goto 4 dX0_across_46 rfl ?_
          have c31 : ¬ s.testBit (e1 i) = s.testBit (e2 i) := fun e => c31 (b2i_inj.mpr e)
          refine wp_eq ?_ rfl rfl (ih (i + 1) (by omega) (by omega))
          simp [acr, maskTo, c31]
  refine w_iconst 1 dX0_across_0 rfl (v := nI 0) rfl ?_
  refine w_ist2 2 dX0_across_1 rfl (by decide) rfl ?_
  refine w_iconst 3 dX0_across_2 rfl (v := nI 0) rfl ?_
  refine w_ist3 4 dX0_across_3 rfl (by decide) rfl ?_
  exact lp4 _ 0 (Nat.zero_le _) (Nat.lt_succ_self _)
