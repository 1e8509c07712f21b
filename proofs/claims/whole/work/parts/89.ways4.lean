/-! ===== ways on both sides are one (4): parts, bridges ===== -/
def Cl (e1 e2 : Nat → Nat) (m y : Nat) : Prop := ∀ t, t < 8 → m.testBit t = true → (y.testBit (e1 t) = true ∨ y.testBit (e2 t) = true) → y.testBit (e1 t) = true ∧ y.testBit (e2 t) = true
theorem Cl.or {e1 e2 : Nat → Nat} {m x y : Nat} (hx : Cl e1 e2 m x) (hy : Cl e1 e2 m y) : Cl e1 e2 m (x ||| y) := by
  intro t ht q z
  simp only [Nat.testBit_or, Bool.or_eq_true] at z ⊢
  rcases z with (z | z) | (z | z)
  · have := hx t ht q (Or.inl z); exact ⟨Or.inl this.1, Or.inl this.2⟩
  · have := hy t ht q (Or.inl z); exact ⟨Or.inr this.1, Or.inr this.2⟩
  · have := hx t ht q (Or.inr z); exact ⟨Or.inl this.1, Or.inl this.2⟩
  · have := hy t ht q (Or.inr z); exact ⟨Or.inr this.1, Or.inr this.2⟩
theorem rit_in {e1 e2 : Nat → Nat} {m y a : Nat} (hC : Cl e1 e2 m y) (ha : y.testBit a = true) : ∀ k, Sb (rit e1 e2 m a k) y
  | 0 => fun j hj => by
    have hj : (2 ^ a).testBit j = true := hj
    rw [Nat.testBit_two_pow, decide_eq_true_eq] at hj
    rw [← hj]; exact ha
  | k + 1 => by
    have ih := rit_in hC ha k
    exact rfT_in ih 8 (fun t ht q z => hC t ht q (z.elim (fun u => Or.inl (ih _ u)) (fun u => Or.inr (ih _ u))))
theorem Cl_rit {e1 e2 : Nat → Nat} {m n a : Nat} (ha : a < n) (h : ∀ i, i < 8 → m.testBit i = true → e1 i < n ∧ e2 i < n) : Cl e1 e2 m (rit e1 e2 m a (n - 1)) := by
  intro t ht q z
  have := rfT_edge (x := rit e1 e2 m a (n - 1)) q z 8 ht
  have e : rfT e1 e2 (rit e1 e2 m a (n - 1)) m 8 = rit e1 e2 m a (n - 1) := rit_end ha h 1
  rw [e] at this
  exact this
theorem or_sub {x y : Nat} (h : Sb y x) : x ||| y = x := by
  apply Nat.eq_of_testBit_eq
  intro j
  rw [Nat.testBit_or]
  cases q : x.testBit j with
  | true => rfl
  | false =>
    cases q2 : y.testBit j with
    | false => rfl
    | true => rw [h j q2] at q; cases q
theorem pt_pcs {e1 e2 g : Nat → Nat} {m n : Nat} (h : ∀ i, i < 8 → m.testBit i = true → e1 i < n ∧ e2 i < n) (hg : ∀ a, a < n → g a = rit e1 e2 m a (n - 1)) : ∀ a, a ≤ n → ptS g a = (pcsT e1 e2 m n a, seenT e1 e2 m n a) ∧ Cl e1 e2 m (seenT e1 e2 m n a)
  | 0, _ => ⟨rfl, fun t _ _ z => by simp [seenT] at z⟩
  | a + 1, ha => by
    obtain ⟨i1, i2⟩ := pt_pcs h hg a (by omega)
    simp only [ptS, pcsT, seenT]
    rw [i1, hg a (by omega)]
    dsimp only
    cases q : (seenT e1 e2 m n a).testBit a with
    | true =>
      rw [or_sub (rit_in i2 q _)]
      exact ⟨rfl, i2⟩
    | false => exact ⟨rfl, i2.or (Cl_rit (by omega) h)⟩
theorem PT_pcs {w : WT} {s : Nat → Nat} (hs : okS s) (hw : ofOK w) (hE : enW w s) {n but m : Nat} (hm : ∀ t, t < 8 → m.testBit t = (decide (t < s 1) && okB (esW w s n) but t)) : PTw w s n but = pcsW w s m := by
  have h : ∀ i, i < 8 → m.testBit i = true → e1W w s i < w.1 1 ∧ e2W w s i < w.1 1 := fun i hi q => by
    rw [hm i hi, Bool.and_eq_true] at q
    exact hE i (of_decide_eq_true q.1)
  have := (pt_pcs h (g := fun a => TGw w s n a but) (fun a ha => tg_rit ha hw.1 hs.2.1 hm h) (w.1 1) (Nat.le_refl _)).1
  unfold PTw pcsW
  rw [this]
theorem okB_HM {w : WT} {s : Nat → Nat} (hs : okS s) {n but t : Nat} (ht : t < 8) : (decide (t < s 1) && okB (esW w s n) but t) = ((HM w s n).testBit t && !but.testBit t) := by
  unfold okB
  rw [HM_bit, decide_eq_true ht, Bool.true_and]
  by_cases h1 : t < s 1
  · rw [decide_eq_true h1, Bool.true_and]
  · rw [decide_eq_false h1, esW_0 (by omega) ht]; rfl
theorem qParts_r {w : WT} {s : Nat → Nat} (hs : okS s) (hw : ofOK w) (hE : enW w s) (n : Int32) : qParts w s n = rParts w s n := by
  unfold qParts rParts
  rw [PT_pcs hs hw hE (m := HM w s (cl n)) (fun t ht => by rw [okB_HM hs ht]; simp)]
  rfl
theorem qBridges_r {w : WT} {s : Nat → Nat} (hs : okS s) (hw : ofOK w) (hE : enW w s) (n : Int32) : qBridges w s n = rBridges w s n := by
  unfold qBridges rBridges
  have h : maskTo (brB w s (cl n)) (s 1) = maskTo (briB w s (cl n)) (s 1) := maskTo_cong (fun e he => by
    have h0 := PT_pcs hs hw hE (n := cl n) (but := 0) (m := HM w s (cl n)) (fun t ht => by rw [okB_HM hs ht]; simp)
    unfold brB briB
    cases q : (HM w s (cl n)).testBit e with
    | true =>
      have h1 := PT_pcs hs hw hE (n := cl n) (but := 2 ^ e) (m := HM w s (cl n) ^^^ 2 ^ e) (fun t ht => by
        rw [okB_HM hs ht, Nat.testBit_xor]
        by_cases z : e = t
        · subst z; rw [Nat.testBit_two_pow_self, q]; rfl
        · rw [Nat.testBit_two_pow_of_ne z]; simp)
      rw [h0, h1, Bool.true_and]
    | false =>
      have h1 := PT_pcs hs hw hE (n := cl n) (but := 2 ^ e) (m := HM w s (cl n)) (fun t ht => by
        rw [okB_HM hs ht]
        by_cases z : e = t
        · subst z; rw [q]; rfl
        · rw [Nat.testBit_two_pow_of_ne z]; simp)
      rw [h0, h1, Bool.false_and]
      exact decide_eq_false (Nat.lt_irrefl _))
  rw [h]
