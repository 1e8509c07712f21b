/-! ===== ways on both sides are one (1) ===== -/
theorem or_in {x i : Nat} (h : x.testBit i = true) : x ||| 2 ^ i = x := by
  apply Nat.eq_of_testBit_eq
  intro j
  rw [Nat.testBit_or]
  by_cases e : i = j
  · subst e; rw [h]; rfl
  · rw [Nat.testBit_two_pow_of_ne e, Bool.or_false]
theorem or_in2 {x i j : Nat} (h1 : x.testBit i = true) (h2 : x.testBit j = true) : x ||| (2 ^ i ||| 2 ^ j) = x := by rw [← Nat.or_assoc, or_in h1, or_in h2]
theorem rfT_sub {e1 e2 : Nat → Nat} {sd m j : Nat} (h : sd.testBit j = true) : ∀ t, (rfT e1 e2 sd m t).testBit j = true
  | 0 => h
  | t + 1 => by
    have ih := rfT_sub (e1 := e1) (e2 := e2) (m := m) h t
    simp only [rfT]
    split
    · rw [Nat.testBit_or, ih]; rfl
    · exact ih
theorem nx_rf {e1 e2 : Nat → Nat} {ok : Nat → Bool} {sd m : Nat} : ∀ n, (∀ t, t < n → m.testBit t = ok t) → nxT e1 e2 ok sd n = rfT e1 e2 sd m n
  | 0, _ => rfl
  | n + 1, h => by
    have ih := nx_rf (e1 := e1) (e2 := e2) (sd := sd) n (fun t ht => h t (by omega))
    simp only [nxT, rfT]
    rw [ih, h n (by omega)]
    unfold crB
    cases ok n
    · simp
    · cases q1 : sd.testBit (e1 n) <;> cases q2 : sd.testBit (e2 n) <;> simp
      exact (or_in2 (rfT_sub q1 n) (rfT_sub q2 n)).symm
theorem rfT_pad {e1 e2 : Nat → Nat} {sd m a : Nat} : ∀ b, a ≤ b → (∀ t, a ≤ t → t < b → m.testBit t = false) → rfT e1 e2 sd m b = rfT e1 e2 sd m a
  | 0, h, _ => by rw [show a = 0 by omega]
  | b + 1, h, hp => by
    by_cases e : a = b + 1
    · rw [e]
    · simp only [rfT]
      rw [hp b (by omega) (by omega), Bool.false_and]
      exact rfT_pad b (by omega) (fun t h1 h2 => hp t h1 (by omega))
theorem nxT_rch {w : WT} {s : Nat → Nat} (hs : okS s) (n sd : Nat) : nxT (e1W w s) (e2W w s) (fun e => decide (0 < esW w s n e)) sd (s 1) = rch (e1W w s) (e2W w s) (HM w s n) sd := by
  have h8 := hs.2.1
  unfold rch
  rw [rfT_pad 8 h8 (fun t h1 _ => bit_hi (HM_lt1 hs n) h1)]
  exact nx_rf (s 1) (fun t ht => by rw [HM_bit, decide_eq_true (show t < 8 by omega), Bool.true_and])
theorem nxW_rit {w : WT} {s : Nat → Nat} (hs : okS s) (n a : Nat) : ∀ k, nxW w s n a k = rit (e1W w s) (e2W w s) (HM w s n) a k
  | 0 => rfl
  | k + 1 => by
    have ih := nxW_rit (w := w) hs n a k
    show nxT (e1W w s) (e2W w s) (fun e => decide (0 < esW w s n e)) (nxW w s n a k) (s 1) = rch (e1W w s) (e2W w s) (HM w s n) (rit (e1W w s) (e2W w s) (HM w s n) a k)
    rw [ih, nxT_rch hs]
/-- once still, still for ever -/
theorem rit_still {e1 e2 : Nat → Nat} {m a k : Nat} (h : rit e1 e2 m a (k + 1) = rit e1 e2 m a k) : ∀ j, rit e1 e2 m a (k + j) = rit e1 e2 m a k
  | 0 => rfl
  | j + 1 => by
    show rch e1 e2 m (rit e1 e2 m a (k + j)) = _
    rw [rit_still h j]
    exact h
