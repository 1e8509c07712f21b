/-! ===== ways on both sides are one (2): apart ===== -/
/-- ends of threads are nails told -/
def enW (w : WT) (s : Nat → Nat) : Prop := ∀ t, t < s 1 → e1W w s t < w.1 1 ∧ e2W w s t < w.1 1
theorem enW_of {w : WT} {nm : NT} {s : Nat → Nat} {v : Nat → Int32} (hs : okS s) (hP : PI w nm) (hV : VR w s v) : enW w s := by
  intro t ht
  have h8 := hs.2.1
  unfold e1W e2W
  rw [if_pos (by omega), if_pos (by omega)]
  rcases (hV.2.2.2 t ht).2.2 with ⟨_, h2, h3⟩ | ⟨k, hk, _, _, _, c1, c2, _⟩
  · have he := (hP.2.2.1 2 t (by decide) h2).1
    simp only [eOK] at he
    rw [h3 1 (by decide), h3 2 (by decide)]
    exact ⟨he.2.1, he.2.2.1⟩
  · have he := (hP.2.2.1 5 k (by decide) hk).1
    simp only [eOK] at he
    rw [c1, c2]
    exact ⟨he.1, he.2.1⟩
theorem rfT_ltn {e1 e2 : Nat → Nat} {sd m n : Nat} (hs : sd < 2 ^ n) : ∀ t, (∀ i, i < t → m.testBit i = true → e1 i < n ∧ e2 i < n) → rfT e1 e2 sd m t < 2 ^ n
  | 0, _ => hs
  | t + 1, h => by
    have ih := rfT_ltn (e1 := e1) (e2 := e2) (m := m) hs t (fun i hi => h i (by omega))
    simp only [rfT]
    split
    · rename_i q
      rw [Bool.and_eq_true] at q
      have he := h t (by omega) q.1
      exact Nat.or_lt_two_pow ih (Nat.or_lt_two_pow (Nat.pow_lt_pow_right (by decide) he.1) (Nat.pow_lt_pow_right (by decide) he.2))
    · exact ih
theorem rit_ltn {e1 e2 : Nat → Nat} {m n a : Nat} (ha : a < n) (h : ∀ i, i < 8 → m.testBit i = true → e1 i < n ∧ e2 i < n) : ∀ k, rit e1 e2 m a k < 2 ^ n
  | 0 => Nat.pow_lt_pow_right (by decide) ha
  | k + 1 => rfT_ltn (rit_ltn ha h k) 8 h
theorem cnt_lt {p r : Nat → Bool} (h : ∀ j, p j = true → r j = true) {i : Nat} (h1 : p i = false) (h2 : r i = true) : ∀ {n : Nat}, i < n → cntTo p n < cntTo r n
  | 0, hn => absurd hn (Nat.not_lt_zero i)
  | n + 1, hn => by
    have hsub := cntTo_sub p r h n
    simp only [cntTo]
    by_cases e : i = n
    · subst e
      rw [h1, h2]
      simp
      omega
    · have ih := cnt_lt h h1 h2 (n := n) (by omega)
      cases q : p n with
      | false => cases r n <;> simp <;> omega
      | true => rw [h n q]; simp; omega
theorem bits_lt {x y n : Nat} (hx : x < 2 ^ n) (hy : y < 2 ^ n) (h : ∀ j, x.testBit j = true → y.testBit j = true) (hne : y ≠ x) : cntTo (fun i => x.testBit i) n < cntTo (fun i => y.testBit i) n := by
  have hex : ∃ i, i < n ∧ x.testBit i = false ∧ y.testBit i = true := by
    refine Classical.byContradiction (fun hno => hne ?_)
    apply Nat.eq_of_testBit_eq
    intro i
    by_cases hi : i < n
    · cases q1 : x.testBit i with
      | true => exact h i q1
      | false =>
        cases q2 : y.testBit i with
        | false => rfl
        | true => exact absurd ⟨i, hi, q1, q2⟩ hno
    · rw [bit_hi hx (by omega), bit_hi hy (by omega)]
  obtain ⟨i, hi, h1, h2⟩ := hex
  exact cnt_lt h h1 h2 hi
theorem rit_grow {e1 e2 : Nat → Nat} {m n a : Nat} (ha : a < n) (h : ∀ i, i < 8 → m.testBit i = true → e1 i < n ∧ e2 i < n) : ∀ k, rit e1 e2 m a (k + 1) = rit e1 e2 m a k ∨ k + 1 ≤ cntTo (fun i => (rit e1 e2 m a k).testBit i) n
  | 0 => Or.inr (by
    have := cntTo_lt (p := fun i => (2 ^ a).testBit i) ha (Nat.testBit_two_pow_self)
    show 1 ≤ cntTo (fun i => (2 ^ a).testBit i) n
    omega)
  | k + 1 => by
    by_cases q : rit e1 e2 m a (k + 1) = rit e1 e2 m a k
    · left
      show rch e1 e2 m (rit e1 e2 m a (k + 1)) = rit e1 e2 m a (k + 1)
      rw [q]
      exact q
    · right
      have ih := (rit_grow ha h k).resolve_left q
      have := bits_lt (rit_ltn ha h k) (rit_ltn ha h (k + 1)) (fun j hj => rfT_sub hj 8) q
      omega
theorem rit_end {e1 e2 : Nat → Nat} {m n a : Nat} (ha : a < n) (h : ∀ i, i < 8 → m.testBit i = true → e1 i < n ∧ e2 i < n) (j : Nat) : rit e1 e2 m a (n - 1 + j) = rit e1 e2 m a (n - 1) := by
  refine rit_still ?_ j
  rcases rit_grow ha h (n - 1) with q | q
  · exact q
  · refine Classical.byContradiction (fun z => ?_)
    have h1 := bits_lt (rit_ltn ha h (n - 1)) (rit_ltn ha h (n - 1 + 1)) (fun j hj => rfT_sub hj 8) z
    have h2 := cntTo_le (fun i => (rit e1 e2 m a (n - 1 + 1)).testBit i) n
    omega
theorem fst1_pre {p : Nat → Bool} {n i : Nat} (h : fst1 p n = some i) : ∀ k, fst1 p (n + k) = some i
  | 0 => h
  | k + 1 => by
    show fst1 p (n + k + 1) = some i
    simp only [fst1]
    rw [fst1_pre h k]
theorem qApart_r {w : WT} {s : Nat → Nat} (hs : okS s) (hw : ofOK w) (hE : enW w s) (a b n : Int32) : qApart w s a b n = rApart w s a b n := by
  unfold qApart rApart
  by_cases h : tY (okR (w.1 1) a && okR (w.1 1) b) n = 0
  · rw [if_pos h, if_pos h]
    have h7 := hw.1
    obtain ⟨k1, _⟩ := tY_0 h
    rw [Bool.and_eq_true] at k1
    obtain ⟨a', rfl, ha⟩ := okR_of k1.1 (by omega)
    rw [cl_nI (show a' < 2 ^ 31 by omega)]
    congr 1
    have hp : ∀ i, i < 8 → (HM w s (cl n)).testBit i = true → e1W w s i < w.1 1 ∧ e2W w s i < w.1 1 := fun i _ hi => hE i (HM_bit1 hi).1
    have e1 : fst1 (fun k => (nxW w s (cl n) a' k).testBit (cl b)) 7 = fst1 (fun k => (rit (e1W w s) (e2W w s) (HM w s (cl n)) a' k).testBit (cl b)) 7 := fst1_cong (fun k _ => by rw [nxW_rit hs])
    rw [e1]
    cases q : fst1 (fun k => (rit (e1W w s) (e2W w s) (HM w s (cl n)) a' k).testBit (cl b)) (w.1 1) with
    | some i =>
      have := fst1_pre q (7 - w.1 1)
      rw [show w.1 1 + (7 - w.1 1) = 7 by omega] at this
      exact this
    | none =>
      refine fst1_none (fun i hi => ?_)
      by_cases z : i < w.1 1
      · exact fst1_no q i z
      · have hl := fst1_no q (w.1 1 - 1) (by omega)
        have he := rit_end ha hp (i - (w.1 1 - 1))
        rw [show w.1 1 - 1 + (i - (w.1 1 - 1)) = i by omega] at he
        rw [he]
        exact hl
  · rw [if_neg h, if_neg h]
