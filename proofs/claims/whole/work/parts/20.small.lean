/-! ===== pure facts ===== -/
theorem nI_one : nI 1 = 1 := rfl
def hasB (b t : Int32) : Bool := decide (((b >>> (t &&& 31)) &&& 1) = 1)
theorem shr_sm : ∀ n, n < 32 → ((nI n &&& 31).toBitVec.smod 32).toNat = n := by decide +kernel
theorem nI_tn {n : Nat} (h : n < 2 ^ 32) : (nI n).toBitVec.toNat = n := pk_tn h
theorem hasB_nI {b t : Nat} (hb : b < 2 ^ 31) (ht : t < 32) : hasB (nI b) (nI t) = b.testBit t := by
  have h1 : nI b >>> (nI t &&& 31) = nI (b / 2 ^ t) := pk_shrN hb _ t (shr_sm t ht)
  have h2 : nI (b / 2 ^ t) &&& 1 = nI (b / 2 ^ t % 2 ^ 1) := pk_andN (Nat.lt_of_le_of_lt (Nat.div_le_self _ _) (by omega)) 1 (by decide)
  have h3 : b / 2 ^ t % 2 < 2 := Nat.mod_lt _ (by decide)
  unfold hasB
  rw [h1, h2, Nat.pow_one, Nat.testBit_eq_decide_div_mod_eq]
  have e1 : (1 : Int32) = nI 1 := by decide
  rw [e1]
  congr 1
  rw [nI_eq (by omega) (by decide)]
def maskTo (p : Nat → Bool) : Nat → Nat
  | 0 => 0
  | n + 1 => if p n then maskTo p n + 2 ^ n else maskTo p n
theorem maskTo_lt (p : Nat → Bool) : ∀ n, maskTo p n < 2 ^ n
  | 0 => Nat.one_pos
  | n + 1 => by
    have ih := maskTo_lt p n
    simp only [maskTo]
    have : 2 ^ (n + 1) = 2 * 2 ^ n := Nat.pow_succ'
    split <;> omega
theorem or_pow {m n : Nat} (h : m < 2 ^ n) : m ||| 2 ^ n = m + 2 ^ n := by
  have := Nat.two_pow_add_eq_or_of_lt h 1
  rw [Nat.mul_one] at this
  rw [Nat.or_comm, ← this, Nat.add_comm]
theorem nI_or (a b : Nat) : nI a ||| nI b = nI (a ||| b) := by
  apply Int32.toBitVec_inj.mp
  show BitVec.ofNat 32 a ||| BitVec.ofNat 32 b = BitVec.ofNat 32 (a ||| b)
  rw [BitVec.ofNat_or]
theorem nI_and (a b : Nat) : nI a &&& nI b = nI (a &&& b) := by
  apply Int32.toBitVec_inj.mp
  show BitVec.ofNat 32 a &&& BitVec.ofNat 32 b = BitVec.ofNat 32 (a &&& b)
  rw [BitVec.ofNat_and]
theorem nI_xor (a b : Nat) : nI a ^^^ nI b = nI (a ^^^ b) := by
  apply Int32.toBitVec_inj.mp
  show BitVec.ofNat 32 a ^^^ BitVec.ofNat 32 b = BitVec.ofNat 32 (a ^^^ b)
  rw [BitVec.ofNat_xor]
theorem mask_or (p : Nat → Bool) (n : Nat) : nI (maskTo p n) ||| nI (2 ^ n) = nI (maskTo p n + 2 ^ n) := by rw [nI_or, or_pow (maskTo_lt p n)]
theorem mask_or0 (p : Nat → Bool) (n : Nat) : nI (maskTo p n) ||| nI 0 = nI (maskTo p n) := by rw [nI_or, Nat.or_zero]
theorem testBit_maskTo (p : Nat → Bool) : ∀ n i, (maskTo p n).testBit i = (decide (i < n) && p i)
  | 0, i => by simp [maskTo]
  | n + 1, i => by
    have ih := testBit_maskTo p n i
    simp only [maskTo]
    split
    · next h =>
      rw [← or_pow (maskTo_lt p n), Nat.testBit_or, ih, Nat.testBit_two_pow]
      rcases Nat.lt_trichotomy i n with q | q | q
      · have e1 : i < n + 1 := by omega
        have e2 : ¬ n = i := by omega
        simp [q, e1, e2]
      · subst q
        simp [h]
      · have e1 : ¬ i < n + 1 := by omega
        have e2 : ¬ n = i := by omega
        have e3 : ¬ i < n := by omega
        simp [e1, e2, e3]
    · next h =>
      rw [ih]
      rcases Nat.lt_trichotomy i n with q | q | q
      · have e1 : i < n + 1 := by omega
        simp [q, e1]
      · subst q
        simp [h]
      · have e1 : ¬ i < n + 1 := by omega
        have e3 : ¬ i < n := by omega
        simp [e1, e3]
theorem maskTo_cong {p r : Nat → Bool} : ∀ {n : Nat}, (∀ i, i < n → p i = r i) → maskTo p n = maskTo r n
  | 0, _ => rfl
  | n + 1, h => by
    have ih := maskTo_cong (n := n) (fun i hi => h i (by omega))
    simp only [maskTo, ih, h n (by omega)]
def sumTo (f : Nat → Nat) : Nat → Nat
  | 0 => 0
  | n + 1 => sumTo f n + f n
theorem sumTo_cong {f g : Nat → Nat} : ∀ {n : Nat}, (∀ i, i < n → f i = g i) → sumTo f n = sumTo g n
  | 0, _ => rfl
  | n + 1, h => by
    have ih := sumTo_cong (n := n) (fun i hi => h i (by omega))
    simp only [sumTo, ih, h n (by omega)]
theorem sumTo_le {f : Nat → Nat} {c : Nat} : ∀ {n : Nat}, (∀ i, i < n → f i ≤ c) → sumTo f n ≤ c * n
  | 0, _ => by simp [sumTo]
  | n + 1, h => by
    have ih := sumTo_le (n := n) (fun i hi => h i (by omega))
    have h1 := h n (by omega)
    simp only [sumTo, Nat.mul_add, Nat.mul_one]
    omega
def cntTo (p : Nat → Bool) : Nat → Nat
  | 0 => 0
  | n + 1 => if p n then cntTo p n + 1 else cntTo p n
theorem cntTo_le (p : Nat → Bool) : ∀ n, cntTo p n ≤ n
  | 0 => Nat.le_refl 0
  | n + 1 => by
    have ih := cntTo_le p n
    simp only [cntTo]
    split <;> omega
theorem cntTo_cong {p r : Nat → Bool} : ∀ {n : Nat}, (∀ i, i < n → p i = r i) → cntTo p n = cntTo r n
  | 0, _ => rfl
  | n + 1, h => by
    have ih := cntTo_cong (n := n) (fun i hi => h i (by omega))
    simp only [cntTo, ih, h n (by omega)]

set_option maxRecDepth 4000 in
theorem c_X11_has {K : Option Value → AH → Prop} {dm : Nat × Nat} {G : Nat → Nat → Value} {A : AH} {b t : Int32} (h : K (some (.int (b2i (hasB b t)))) A) : Ct yX11_has mX11_has 0 dm G [.int b, .int t] A K := by
  refine Ct.of [some (.int b), some (.int t)] rfl rfl rfl (Nat.le_of_ble_eq_true rfl) ?_
  refine w_iload_n 1 dX11_has_0 rfl rfl ?_
  refine w_iload_n 2 dX11_has_1 rfl rfl ?_
  refine w_ishr 3 dX11_has_2 rfl ?_
  refine w_iconst 4 dX11_has_3 rfl (v := 1) rfl ?_
  refine w_iand 5 dX11_has_4 rfl ?_
  refine w_iconst 6 dX11_has_5 rfl (v := 1) rfl ?_
  refine w_icne 13 9 dX11_has_6 rfl rfl (fun c6 => ?_) (fun c6 => ?_)
  · skip
    refine w_iconst 14 dX11_has_13 rfl (v := nI 0) rfl ?_
    refine wr_z dX11_has_14 rfl (by first | rfl | exact nb_b2i _) ?_
    exact kq h (by clear h; simp_all [b2i, hasB, nI_0, nI_one])
  · skip
    refine w_iconst 10 dX11_has_9 rfl (v := nI 1) rfl ?_
    refine w_goto 14 dX11_has_10 rfl ?_
    refine wr_z dX11_has_14 rfl (by first | rfl | exact nb_b2i _) ?_
    exact kq h (by clear h; simp_all [b2i, hasB, nI_0, nI_one])

set_option maxRecDepth 4000 in
theorem c_X13_bit {K : Option Value → AH → Prop} {dm : Nat × Nat} {G : Nat → Nat → Value} {A : AH} {b t : Int32} (h : K (some (.int (b2i (hasB b t)))) A) : Ct yX13_bit mX13_bit 0 dm G [.int b, .int t] A K := by
  refine Ct.of [some (.int b), some (.int t)] rfl rfl rfl (Nat.le_of_ble_eq_true rfl) ?_
  refine w_iload_n 1 dX13_bit_0 rfl rfl ?_
  refine w_iload_n 2 dX13_bit_1 rfl rfl ?_
  refine w_ishr 3 dX13_bit_2 rfl ?_
  refine w_iconst 4 dX13_bit_3 rfl (v := 1) rfl ?_
  refine w_iand 5 dX13_bit_4 rfl ?_
  refine w_iconst 6 dX13_bit_5 rfl (v := 1) rfl ?_
  refine w_icne 13 9 dX13_bit_6 rfl rfl (fun c6 => ?_) (fun c6 => ?_)
  · skip
    refine w_iconst 14 dX13_bit_13 rfl (v := nI 0) rfl ?_
    refine wr_z dX13_bit_14 rfl (by first | rfl | exact nb_b2i _) ?_
    exact kq h (by clear h; simp_all [b2i, hasB, nI_0, nI_one])
  · skip
    refine w_iconst 10 dX13_bit_9 rfl (v := nI 1) rfl ?_
    refine w_goto 14 dX13_bit_10 rfl ?_
    refine wr_z dX13_bit_14 rfl (by first | rfl | exact nb_b2i _) ?_
    exact kq h (by clear h; simp_all [b2i, hasB, nI_0, nI_one])

set_option maxRecDepth 4000 in
theorem c_X11_firstOf {K : Option Value → AH → Prop} {dm : Nat × Nat} {G : Nat → Nat → Value} {A : AH} {a b : Int32} (h : K (some (.int (if a = 0 then b else a))) A) : Ct yX11_firstOf mX11_firstOf 0 dm G [.int a, .int b] A K := by
  refine Ct.of [some (.int a), some (.int b)] rfl rfl rfl (Nat.le_of_ble_eq_true rfl) ?_
  refine w_iload_n 1 dX11_firstOf_0 rfl rfl ?_
  refine w_ifeq 8 4 dX11_firstOf_1 rfl rfl (fun c1 => ?_) (fun c1 => ?_)
  · skip
    refine w_iload_n 9 dX11_firstOf_8 rfl rfl ?_
    refine wr_i dX11_firstOf_9 rfl ?_
    exact kq h (by clear h; simp_all [b2i, hasB, nI_0, nI_one])
  · skip
    refine w_iload_n 5 dX11_firstOf_4 rfl rfl ?_
    refine w_goto 9 dX11_firstOf_5 rfl ?_
    refine wr_i dX11_firstOf_9 rfl ?_
    exact kq h (by clear h; simp_all [b2i, hasB, nI_0, nI_one])

set_option maxRecDepth 4000 in
theorem c_X11_within {K : Option Value → AH → Prop} {dm : Nat × Nat} {G : Nat → Nat → Value} {A : AH} {v lo hi : Int32} (h : K (some (.int (if lo ≤ v ∧ v ≤ hi then nI 0 else nI 2))) A) : Ct yX11_within mX11_within 0 dm G [.int v, .int lo, .int hi] A K := by
  refine Ct.of [some (.int v), some (.int lo), some (.int hi)] rfl rfl rfl (Nat.le_of_ble_eq_true rfl) ?_
  refine w_iload_n 1 dX11_within_0 rfl rfl ?_
  refine w_iload_n 2 dX11_within_1 rfl rfl ?_
  refine w_iclt 14 5 dX11_within_2 rfl rfl (fun c2 => ?_) (fun c2 => ?_)
  · skip
    refine w_iconst 15 dX11_within_14 rfl (v := nI 2) rfl ?_
    refine wr_i dX11_within_15 rfl ?_
    exact kq h (by clear h; simp only [b2i, hasB, Int32.lt_iff_toInt_lt, Int32.le_iff_toInt_le, decide_eq_true_eq] at *; (repeat' split) <;> first | rfl | (exfalso; omega) | omega)
  · skip
    refine w_iload_n 6 dX11_within_5 rfl rfl ?_
    refine w_iload_n 7 dX11_within_6 rfl rfl ?_
    refine w_icgt 14 10 dX11_within_7 rfl rfl (fun c7 => ?_) (fun c7 => ?_)
    · skip
      refine w_iconst 15 dX11_within_14 rfl (v := nI 2) rfl ?_
      refine wr_i dX11_within_15 rfl ?_
      exact kq h (by clear h; simp only [b2i, hasB, Int32.lt_iff_toInt_lt, Int32.le_iff_toInt_le, decide_eq_true_eq] at *; (repeat' split) <;> first | rfl | (exfalso; omega) | omega)
    · skip
      refine w_iconst 11 dX11_within_10 rfl (v := nI 0) rfl ?_
      refine w_goto 15 dX11_within_11 rfl ?_
      refine wr_i dX11_within_15 rfl ?_
      exact kq h (by clear h; simp only [b2i, hasB, Int32.lt_iff_toInt_lt, Int32.le_iff_toInt_le, decide_eq_true_eq] at *; (repeat' split) <;> first | rfl | (exfalso; omega) | omega)

set_option maxRecDepth 4000 in
theorem c_X13_in {K : Option Value → AH → Prop} {dm : Nat × Nat} {G : Nat → Nat → Value} {A : AH} {v lo hi : Int32} (h : K (some (.int (b2i (decide (lo ≤ v ∧ v ≤ hi))))) A) : Ct yX13_in mX13_in 0 dm G [.int v, .int lo, .int hi] A K := by
  refine Ct.of [some (.int v), some (.int lo), some (.int hi)] rfl rfl rfl (Nat.le_of_ble_eq_true rfl) ?_
  refine w_iload_n 1 dX13_in_0 rfl rfl ?_
  refine w_iload_n 2 dX13_in_1 rfl rfl ?_
  refine w_iclt 14 5 dX13_in_2 rfl rfl (fun c2 => ?_) (fun c2 => ?_)
  · skip
    refine w_iconst 15 dX13_in_14 rfl (v := nI 0) rfl ?_
    refine wr_z dX13_in_15 rfl (by first | rfl | exact nb_b2i _) ?_
    exact kq h (by clear h; simp only [b2i, hasB, Int32.lt_iff_toInt_lt, Int32.le_iff_toInt_le, decide_eq_true_eq] at *; (repeat' split) <;> first | rfl | (exfalso; omega) | omega)
  · skip
    refine w_iload_n 6 dX13_in_5 rfl rfl ?_
    refine w_iload_n 7 dX13_in_6 rfl rfl ?_
    refine w_icgt 14 10 dX13_in_7 rfl rfl (fun c7 => ?_) (fun c7 => ?_)
    · skip
      refine w_iconst 15 dX13_in_14 rfl (v := nI 0) rfl ?_
      refine wr_z dX13_in_15 rfl (by first | rfl | exact nb_b2i _) ?_
      exact kq h (by clear h; simp only [b2i, hasB, Int32.lt_iff_toInt_lt, Int32.le_iff_toInt_le, decide_eq_true_eq] at *; (repeat' split) <;> first | rfl | (exfalso; omega) | omega)
    · skip
      refine w_iconst 11 dX13_in_10 rfl (v := nI 1) rfl ?_
      refine w_goto 15 dX13_in_11 rfl ?_
      refine wr_z dX13_in_15 rfl (by first | rfl | exact nb_b2i _) ?_
      exact kq h (by clear h; simp only [b2i, hasB, Int32.lt_iff_toInt_lt, Int32.le_iff_toInt_le, decide_eq_true_eq] at *; (repeat' split) <;> first | rfl | (exfalso; omega) | omega)

set_option maxRecDepth 4000 in
theorem c_X11_isWithin {K : Option Value → AH → Prop} {dm : Nat × Nat} {G : Nat → Nat → Value} {A : AH} {a b : Int32} (h : K (some (.int (b2i (decide (a &&& (b ^^^ -1) = 0))))) A) : Ct yX11_isWithin mX11_isWithin 0 dm G [.int a, .int b] A K := by
  refine Ct.of [some (.int a), some (.int b)] rfl rfl rfl (Nat.le_of_ble_eq_true rfl) ?_
  refine w_iload_n 1 dX11_isWithin_0 rfl rfl ?_
  refine w_iload_n 2 dX11_isWithin_1 rfl rfl ?_
  refine w_iconst 3 dX11_isWithin_2 rfl (v := (-1)) rfl ?_
  refine w_ixor 4 dX11_isWithin_3 rfl ?_
  refine w_iand 5 dX11_isWithin_4 rfl ?_
  refine w_ifne 12 8 dX11_isWithin_5 rfl rfl (fun c5 => ?_) (fun c5 => ?_)
  · skip
    refine w_iconst 13 dX11_isWithin_12 rfl (v := nI 0) rfl ?_
    refine wr_z dX11_isWithin_13 rfl (by first | rfl | exact nb_b2i _) ?_
    exact kq h (by clear h; simp_all [b2i, hasB, nI_0, nI_one])
  · skip
    refine w_iconst 9 dX11_isWithin_8 rfl (v := nI 1) rfl ?_
    refine w_goto 13 dX11_isWithin_9 rfl ?_
    refine wr_z dX11_isWithin_13 rfl (by first | rfl | exact nb_b2i _) ?_
    exact kq h (by clear h; simp_all [b2i, hasB, nI_0, nI_one])

set_option maxRecDepth 4000 in
theorem c_X0_ofOffers {K : Option Value → AH → Prop} {dm : Nat × Nat} {G : Nat → Nat → Value} {A : AH} {a : Int32} (h : K (some (.int (a <<< ((8 : Int32) &&& 31)))) A) : Ct yX0_ofOffers mX0_ofOffers 0 dm G [.int a] A K := by
  refine Ct.of [some (.int a)] rfl rfl rfl (Nat.le_of_ble_eq_true rfl) ?_
  refine w_iload_n 1 dX0_ofOffers_0 rfl rfl ?_
  refine w_bipush 3 dX0_ofOffers_1 rfl (v := 8) rfl ?_
  refine w_ishl 4 dX0_ofOffers_3 rfl ?_
  refine wr_i dX0_ofOffers_4 rfl ?_
  exact h
