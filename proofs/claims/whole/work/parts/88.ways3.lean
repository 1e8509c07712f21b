/-! ===== ways on both sides are one (3): together ===== -/
def Sb (x y : Nat) : Prop := ∀ j, x.testBit j = true → y.testBit j = true
theorem two_in {x i j k : Nat} : (x ||| (2 ^ i ||| 2 ^ j)).testBit k = true ↔ x.testBit k = true ∨ k = i ∨ k = j := by
  rw [Nat.testBit_or, Nat.testBit_or, Bool.or_eq_true, Bool.or_eq_true, Nat.testBit_two_pow, Nat.testBit_two_pow, decide_eq_true_eq, decide_eq_true_eq]
  constructor
  · rintro (h | h | h)
    · exact Or.inl h
    · exact Or.inr (Or.inl h.symm)
    · exact Or.inr (Or.inr h.symm)
  · rintro (h | h | h)
    · exact Or.inl h
    · exact Or.inr (Or.inl h.symm)
    · exact Or.inr (Or.inr h.symm)
theorem tgI_mono {f1 f2 : Nat → Nat} {ok : Nat → Bool} {x : Nat} : ∀ n, Sb x (tgI f1 f2 ok x n)
  | 0 => fun _ h => h
  | n + 1 => fun j h => by
    have ih := tgI_mono (f1 := f1) (f2 := f2) (ok := ok) (x := x) n j h
    simp only [tgI]
    split
    · exact two_in.mpr (Or.inl ih)
    · exact ih
theorem tgI_edge {f1 f2 : Nat → Nat} {ok : Nat → Bool} {x t : Nat} (ho : ok t = true) (h : x.testBit (f1 t) = true ∨ x.testBit (f2 t) = true) : ∀ n, t < n → (tgI f1 f2 ok x n).testBit (f1 t) = true ∧ (tgI f1 f2 ok x n).testBit (f2 t) = true
  | 0, hn => absurd hn (Nat.not_lt_zero t)
  | n + 1, hn => by
    simp only [tgI]
    by_cases e : t = n
    · subst e
      have hz : (tgI f1 f2 ok x t).testBit (f1 t) = true ∨ (tgI f1 f2 ok x t).testBit (f2 t) = true := h.elim (fun z => Or.inl (tgI_mono t _ z)) (fun z => Or.inr (tgI_mono t _ z))
      by_cases q : (ok t && crB f1 f2 (tgI f1 f2 ok x t) t) = true
      · rw [if_pos q]
        exact ⟨two_in.mpr (Or.inr (Or.inl rfl)), two_in.mpr (Or.inr (Or.inr rfl))⟩
      · rw [if_neg q]
        rw [ho, Bool.true_and] at q
        have q2 : (tgI f1 f2 ok x t).testBit (f1 t) = (tgI f1 f2 ok x t).testBit (f2 t) := by
          unfold crB at q
          cases q3 : (tgI f1 f2 ok x t).testBit (f1 t) <;> cases q4 : (tgI f1 f2 ok x t).testBit (f2 t) <;> simp [q3, q4] at q ⊢
        rcases hz with z | z
        · exact ⟨z, q2 ▸ z⟩
        · exact ⟨q2.trans z, z⟩
    · have ih := tgI_edge ho h n (by omega)
      split
      · exact ⟨two_in.mpr (Or.inl ih.1), two_in.mpr (Or.inl ih.2)⟩
      · exact ih
theorem rfT_in {e1 e2 : Nat → Nat} {x y m : Nat} (hx : Sb x y) : ∀ n, (∀ t, t < n → m.testBit t = true → (x.testBit (e1 t) = true ∨ x.testBit (e2 t) = true) → y.testBit (e1 t) = true ∧ y.testBit (e2 t) = true) → Sb (rfT e1 e2 x m n) y
  | 0, _ => hx
  | n + 1, h => fun j hj => by
    have ih := rfT_in hx n (fun t ht => h t (by omega))
    simp only [rfT] at hj
    split at hj
    · rename_i q
      rw [Bool.and_eq_true, Bool.or_eq_true] at q
      have hy := h n (by omega) q.1 q.2
      rcases two_in.mp hj with z | z | z
      · exact ih j z
      · rw [z]; exact hy.1
      · rw [z]; exact hy.2
    · exact ih j hj
theorem tgI_in {f1 f2 : Nat → Nat} {ok : Nat → Bool} {x y : Nat} (hx : Sb x y) : ∀ n, (∀ t, t < n → ok t = true → (y.testBit (f1 t) = true ∨ y.testBit (f2 t) = true) → y.testBit (f1 t) = true ∧ y.testBit (f2 t) = true) → Sb (tgI f1 f2 ok x n) y
  | 0, _ => hx
  | n + 1, h => fun j hj => by
    have ih := tgI_in hx n (fun t ht => h t (by omega))
    simp only [tgI] at hj
    split at hj
    · rename_i q
      rw [Bool.and_eq_true] at q
      have hq : (tgI f1 f2 ok x n).testBit (f1 n) = true ∨ (tgI f1 f2 ok x n).testBit (f2 n) = true := by
        have q2 := q.2
        unfold crB at q2
        cases q3 : (tgI f1 f2 ok x n).testBit (f1 n) with
        | true => exact Or.inl rfl
        | false =>
          cases q4 : (tgI f1 f2 ok x n).testBit (f2 n) with
          | true => exact Or.inr rfl
          | false => rw [q3, q4] at q2; cases q2
      have hy := h n (by omega) q.1 (hq.elim (fun z => Or.inl (ih _ z)) (fun z => Or.inr (ih _ z)))
      rcases two_in.mp hj with z | z | z
      · exact ih j z
      · rw [z]; exact hy.1
      · rw [z]; exact hy.2
    · exact ih j hj
theorem rfT_edge {e1 e2 : Nat → Nat} {x m t : Nat} (ho : m.testBit t = true) (h : x.testBit (e1 t) = true ∨ x.testBit (e2 t) = true) : ∀ n, t < n → (rfT e1 e2 x m n).testBit (e1 t) = true ∧ (rfT e1 e2 x m n).testBit (e2 t) = true
  | 0, hn => absurd hn (Nat.not_lt_zero t)
  | n + 1, hn => by
    simp only [rfT]
    by_cases e : t = n
    · subst e
      rw [if_pos (by rw [ho, Bool.true_and, Bool.or_eq_true]; exact h)]
      exact ⟨two_in.mpr (Or.inr (Or.inl rfl)), two_in.mpr (Or.inr (Or.inr rfl))⟩
    · have ih := rfT_edge ho h n (by omega)
      split
      · exact ⟨two_in.mpr (Or.inl ih.1), two_in.mpr (Or.inl ih.2)⟩
      · exact ih
/-- both closures are one -/
theorem tg_rit {f1 f2 fs : Nat → Nat} {ne a but m n : Nat} (ha : a < n) (hn : n ≤ 7) (hne : ne ≤ 8) (hm : ∀ t, t < 8 → m.testBit t = (decide (t < ne) && okB fs but t)) (h : ∀ i, i < 8 → m.testBit i = true → f1 i < n ∧ f2 i < n) : tgV f1 f2 fs ne a but = rit f1 f2 m a (n - 1) := by
  have hst := rit_end ha h 1
  have h1 : ∀ k, Sb (rit f1 f2 m a k) (tgO f1 f2 (okB fs but) ne a k) := by
    intro k
    induction k with
    | zero => exact fun _ z => z
    | succ k ih =>
      refine rfT_in (fun j z => tgI_mono ne j (ih j z)) 8 (fun t ht q z => ?_)
      rw [hm t ht, Bool.and_eq_true] at q
      exact tgI_edge q.2 (z.elim (fun u => Or.inl (ih _ u)) (fun u => Or.inr (ih _ u))) ne (of_decide_eq_true q.1)
  have h2 : ∀ k, Sb (tgO f1 f2 (okB fs but) ne a k) (rit f1 f2 m a (n - 1)) := by
    intro k
    induction k with
    | zero =>
      have hmono : ∀ k, Sb (2 ^ a) (rit f1 f2 m a k) := by
        intro k
        induction k with
        | zero => exact fun _ z => z
        | succ k ih => exact fun j z => rfT_sub (ih j z) 8
      exact hmono _
    | succ k ih =>
      refine tgI_in ih ne (fun t ht q z => ?_)
      have hb : m.testBit t = true := by rw [hm t (by omega), decide_eq_true ht, q]; rfl
      have := rfT_edge (x := rit f1 f2 m a (n - 1)) hb z 8 (by omega)
      have e : rfT f1 f2 (rit f1 f2 m a (n - 1)) m 8 = rit f1 f2 m a (n - 1) := hst
      rw [e] at this
      exact this
  apply Nat.eq_of_testBit_eq
  intro j
  have e7 : rit f1 f2 m a 7 = rit f1 f2 m a (n - 1) := by
    have := rit_end ha h (7 - (n - 1))
    rw [show n - 1 + (7 - (n - 1)) = 7 by omega] at this
    exact this
  have k1 := h1 7 j
  have k2 := h2 7 j
  rw [e7] at k1
  unfold tgV
  cases q1 : (tgO f1 f2 (okB fs but) ne a 7).testBit j <;> cases q2 : (rit f1 f2 m a (n - 1)).testBit j
  · rfl
  · rw [q1] at k1; exact absurd (k1 q2) (by decide)
  · rw [q2] at k2; exact absurd (k2 q1) (by decide)
  · rfl
