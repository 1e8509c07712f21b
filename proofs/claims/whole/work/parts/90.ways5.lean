/-! ===== ways on both sides are one (5): bearing nothing ===== -/
theorem sum0 {f : Nat → Nat} : ∀ {n : Nat}, sumTo f n = 0 ↔ ∀ i, i < n → f i = 0
  | 0 => ⟨fun _ i hi => absurd hi (Nat.not_lt_zero i), fun _ => rfl⟩
  | n + 1 => by
    simp only [sumTo]
    constructor
    · intro h i hi
      by_cases e : i = n
      · subst e; omega
      · exact sum0.mp (show sumTo f n = 0 by omega) i (by omega)
    · intro h
      rw [sum0.mpr (fun i hi => h i (by omega)), h n (by omega)]
theorem mo_0 {f : Nat → Nat} {p : Nat → Bool} : ∀ {n : Nat}, (∃ i, i < n ∧ p i = true ∧ f i = 0) → mo f p n = some 0
  | 0, h => by obtain ⟨i, hi, _⟩ := h; omega
  | n + 1, h => by
    obtain ⟨i, hi, h1, h2⟩ := h
    simp only [mo]
    by_cases e : i = n
    · subst e
      rw [if_pos h1]
      cases mo f p i with
      | none => dsimp only; rw [h2]
      | some v =>
        dsimp only
        rw [h2]
        by_cases z : 0 < v
        · rw [if_pos z]
        · rw [if_neg z, show v = 0 by omega]
    · rw [mo_0 ⟨i, by omega, h1, h2⟩]
      dsimp only
      split
      · rw [if_neg (by omega)]
      · rfl
theorem mo_at {f : Nat → Nat} {p : Nat → Bool} {v : Nat} : ∀ {n : Nat}, mo f p n = some v → ∃ i, i < n ∧ p i = true ∧ f i = v
  | 0, h => by cases h
  | n + 1, h => by
    simp only [mo] at h
    by_cases q : p n = true
    · rw [if_pos q] at h
      cases z : mo f p n with
      | none => rw [z] at h; cases h; exact ⟨n, by omega, q, rfl⟩
      | some u =>
        rw [z] at h
        dsimp only at h
        by_cases y : f n < u
        · rw [if_pos y] at h; cases h; exact ⟨n, by omega, q, rfl⟩
        · rw [if_neg y] at h
          obtain ⟨i, h1, h2, h3⟩ := mo_at z
          cases h
          exact ⟨i, by omega, h2, h3⟩
    · rw [if_neg q] at h
      obtain ⟨i, h1, h2, h3⟩ := mo_at h
      exact ⟨i, by omega, h2, h3⟩
/-- l bears nothing between a and b exactly if b is not in a's part under l -/
theorem bear_0 {e1 e2 es : Nat → Nat} {l n a b : Nat} (hl : l < 256) (he : ∀ t, l.testBit t = true → 0 < es t) (ha : a < n) (hab : a ≠ b) (h : ∀ i, i < 8 → l.testBit i = true → e1 i < n ∧ e2 i < n) : bearV n e1 e2 es l a b = 0 ↔ (rit e1 e2 l a (n - 1)).testBit b = false := by
  have hbit : ∀ sd i, i < 13 → (acr e1 e2 sd 13 &&& l).testBit i = ((sd.testBit (e1 i) != sd.testBit (e2 i)) && l.testBit i) := fun sd i hi => by
    unfold acr
    rw [Nat.testBit_and, testBit_maskTo, decide_eq_true hi, Bool.true_and]
  have hcl : ∀ sd, bearF e1 e2 es l sd = 0 ↔ Cl e1 e2 l sd := by
    intro sd
    unfold bearF sumB
    rw [sum0]
    constructor
    · intro z t ht q y
      have z1 := z t (by omega)
      rw [hbit sd t (by omega), q, Bool.and_true] at z1
      have hp := he t q
      have e : sd.testBit (e1 t) = sd.testBit (e2 t) := by
        cases q1 : sd.testBit (e1 t) <;> cases q2 : sd.testBit (e2 t) <;> simp [q1, q2] at z1 ⊢ <;> omega
      rcases y with y | y
      · exact ⟨y, e ▸ y⟩
      · exact ⟨e.trans y, y⟩
    · intro z i hi
      rw [hbit sd i hi]
      cases q : l.testBit i with
      | false => simp
      | true =>
        have hi8 : i < 8 := by
          refine Decidable.byContradiction (fun u => ?_)
          rw [bit_hi (n := 8) hl (by omega)] at q
          cases q
        have z1 := z i hi8 q
        cases q1 : sd.testBit (e1 i) <;> cases q2 : sd.testBit (e2 i) <;> simp [q1, q2] at z1 ⊢
  constructor
  · intro h0
    obtain ⟨v, hv⟩ := mo_some (f := bearF e1 e2 es l) (side_a hab) (Nat.pow_lt_pow_right (by decide) ha : 2 ^ a < 2 ^ n)
    unfold bearV at h0
    rw [hv] at h0
    have hv0 : v = 0 := h0
    subst hv0
    obtain ⟨sd, _, hs, hf⟩ := mo_at hv
    unfold sideP at hs
    rw [Bool.and_eq_true] at hs
    cases q : (rit e1 e2 l a (n - 1)).testBit b with
    | false => rfl
    | true =>
      have := rit_in ((hcl sd).mp hf) hs.1 (n - 1) b q
      rw [this] at hs
      exact absurd hs.2 (by decide)
  · intro hb
    have hself : ∀ k, (rit e1 e2 l a k).testBit a = true := by
      intro k
      induction k with
      | zero => exact Nat.testBit_two_pow_self
      | succ k ih => exact rfT_sub ih 8
    have := mo_0 (f := bearF e1 e2 es l) (p := sideP a b) (n := 2 ^ n) ⟨rit e1 e2 l a (n - 1), rit_ltn ha h _, by unfold sideP; rw [hself, hb]; rfl, (hcl _).mpr (Cl_rit ha h)⟩
    unfold bearV
    rw [this]
    rfl
