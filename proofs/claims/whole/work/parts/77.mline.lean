/-! ===== the reference reads: lines ===== -/
theorem bindP_as {x : PR} {f h : Nat × List Nat → PR} : bindP (bindP x f) h = bindP x (fun y => bindP (f y) h) := by cases x <;> rfl
abbrev wbL : List Nat := [100, 111, 112, 113, 114, 115, 116, 117, 118, 119, 120, 121, 122, 123, 124, 125, 126, 127, 128, 129, 130, 131, 132]
def FW (A A' : AH) : Prop := OffL wbL A A' ∧ ∀ k, (k < 8 ∨ 15 < k) → A'.1 100 k = A.1 100 k
theorem FQ.w {A A' : AH} (h : FQ A A') : FW A A' := ⟨h.1.mono (by decide), h.2⟩
theorem FW.tr {A B C : AH} (h : FW A B) (h2 : FW B C) : FW A C := ⟨h.1.tr h2.1, fun k hk => (h2.2 k hk).trans (h.2 k hk)⟩
theorem FW.o {A A' : AH} {l : List Nat} (h : OffL l A A') (hl : ∀ x, x ∈ l → x ∈ wbL) (h1 : 100 ∉ l) : FW A A' := ⟨h.mono hl, fun k _ => by rw [(h 100 h1).1]⟩
theorem TA.fw {n : Nat} {tp : Nat → Int32} {A A' : AH} (h : TA n tp A) (q : FW A A') : TA n tp A' := ⟨by rw [q.2 7 (by omega)]; exact h.1, h.2.1, fun i hi => by rw [(q.1 101 (by decide)).1]; exact h.2.2 i hi⟩
theorem RepM.fq {w : WT} {A A' : AH} (h : RepM w A) (q : FQ A A') : RepM w A' := h.cong (fun x a b => (q.1 x (by simp; omega)).1)
theorem RepM.sl {w : WT} {nm : NT} {A : AH} (h : RepM w A) (hP : PI w nm) : A.1 111 0 = -1 ↔ w.1 0 = 0 := by
  rw [h.1.1]
  constructor
  · intro z
    split at z
    · assumption
    · have h1 := hP.1 0 (by decide)
      have := (hP.2.2.1 0 0 (by decide) (by omega)).2 0 (by decide)
      exact absurd z (nI_m1 (by omega))
  · intro z; rw [if_pos z]
theorem LA.o {g : Nat → Nat} {n p : Nat} {A A' : AH} (h : LA g n p A) (e1 : A'.1 100 = A.1 100) (e2 : A'.2 100 = A.2 100) : LA g n p A' := by unfold LA; rw [e1, e2]; exact h
/-- what a line leaves -/
def LSx (g : Nat → Nat) (n : Nat) (r : LRs) (A : AH) : Prop := match r with
  | .inl z => OV z.1 z.2 A
  | .inr t => LA g n t.1 A ∧ RepM t.2.1 A ∧ RN t.2.2 A
def lb0 (g : Nat → Nat) (n : Nat) (w : WT) (j p : Nat) : PR := if w.1 j = roomN j then flP g n 5 (.inr (p, [])) else if w.1 0 = 0 then flP g n 6 (.inr (p, [])) else adP g n (.inr (p, []))
theorem Ln_0 {g : Nat → Nat} {n j p : Nat} {w : WT} : Ln (lb0 g n w j p) 0 := by
  intro q l e
  unfold lb0 at e
  split at e
  · cases e
  · split at e <;> cases e
    rfl
def ofP (g : Nat → Nat) (n : Nat) (w : WT) (nm : NT) (j p : Nat) (c : PR) : LRs := match c with
  | .inl z => .inl z
  | .inr y => .inr (y.1, addW w j (fun k => y.2.getD k 0), addN g n w nm j (tkE g n p))
theorem line_of {g : Nat → Nat} {n j p : Nat} {w : WT} {nm : NT} (hP : PI w nm) (hj : lnS g n p = some j) (h1 : 1 ≤ j) (h8 : j < 8) : lineP g n w nm p = ofP g n w nm j p (bindP (lb0 g n w j p) (fun y => lineB g n w nm j y.1)) := by
  have hr := hP.1 j h8
  unfold lineP lb0
  rw [hj]
  dsimp only
  rw [if_neg (fun z => by omega)]
  by_cases q : w.1 j = roomN j
  · rw [if_pos (by omega), if_pos q]; rfl
  · rw [if_neg (by omega), if_neg q]
    by_cases q0 : w.1 0 = 0
    · rw [if_pos ⟨by omega, q0⟩, if_pos q0]; rfl
    · rw [if_neg (fun z => q0 z.2), if_neg q0]
      show _ = ofP g n w nm j p (lineB g n w nm j (tkE g n p))
      cases lineB g n w nm j (tkE g n p) <;> rfl
theorem lb0_l {g : Nat → Nat} {n j p : Nat} {w : WT} {F : Nat × List Nat → PR} (h : ∀ q, F (q, []) = F (q, [])) : bindP (lb0 g n w j p) F = bindP (lb0 g n w j p) (fun y => F (y.1, [])) := by
  unfold lb0
  split
  · rfl
  · split <;> rfl
theorem SR.la {g : Nat → Nat} {n : Nat} {x : PR} {A : AH} {z : Nat × List Nat} (h : SR g n x A) (e : x = .inr z) : LA g n z.1 A := by subst e; exact h
theorem RN.o {nm : NT} {A A' : AH} (h : RN nm A) (e1 : A'.1 111 10 = A.1 111 10) (e2 : A'.2 130 = A.2 130) (e3 : A'.1 131 = A.1 131) (e4 : A'.1 132 = A.1 132) : RN nm A' := ⟨by rw [e1]; exact h.1, fun i hi => by rw [e2, e3, e4]; exact h.2.1 i hi, h.2.2⟩
theorem line_room {g : Nat → Nat} {n j p : Nat} {w : WT} {nm : NT} {t : Nat × WT × NT} (hj : lnS g n p = some j) (h : lineP g n w nm p = .inr t) : w.1 j < roomN j := by
  unfold lineP at h
  rw [hj] at h
  dsimp only at h
  split at h
  · cases h
  · split at h
    · cases h
    · omega
theorem kind1 {g : Nat → Nat} {n j p : Nat} (hj : lnS g n p = some j) : tkK g n p = 1 := (of_decide_eq_true (fst1_lt hj).2).1
theorem foes_eq {w w' : WT} {t : Nat} (h : ∀ i c, w'.2 3 i c = w.2 3 i c) : ∀ k, foesTo w' t k = foesTo w t k
  | 0 => rfl
  | k + 1 => by simp only [foesTo, h, foes_eq h k]
theorem RepM.a1 {w : WT} {A A' : AH} {row : Nat → Nat} (h : RepM w A) (h111 : ∀ k, k ≠ 2 → k ≠ 10 → A'.1 111 k = A.1 111 k) (hc : A'.1 111 2 = nI (w.1 1 + 1)) (hoff : ∀ x, 112 ≤ x → x ≤ 129 → A'.1 x = A.1 x) : RepM (addW w 1 row) A' := by
  obtain ⟨⟨a1, a2, a3⟩, b, c2, c3, c4, c5, c6, c7, c8⟩ := h
  refine ⟨⟨?_, ?_, ?_⟩, ?_, ?_, ?_, ?_, ?_, ?_, ?_, ?_⟩
  · rw [h111 0 (by decide) (by decide)]; exact a1
  · rw [h111 1 (by decide) (by decide)]; exact a2
  · rw [h111 9 (by decide) (by decide)]; exact a3
  · intro J h1 h8
    by_cases q : J = 1
    · subst q; rw [hc]; rfl
    · rw [h111 (J + 1) (by omega) (by omega), b J h1 h8]
      show nI (w.1 J) = nI (if J = 1 then _ else w.1 J)
      rw [if_neg q]
  · intro k hk
    rw [hoff 112 (by decide) (by decide), hoff 113 (by decide) (by decide), hoff 114 (by decide) (by decide), hoff 115 (by decide) (by decide), hoff 116 (by decide) (by decide)]
    exact c2 k hk
  · intro t ht
    rw [hoff 117 (by decide) (by decide)]
    have e : foesTo (addW w 1 row) t ((addW w 1 row).1 3) = foesTo w t (w.1 3) := foes_eq (w := w) (w' := addW w 1 row) (fun _ _ => rfl) (w.1 3)
    rw [e]
    exact c3 t ht
  · intro k hk
    rw [hoff 118 (by decide) (by decide), hoff 119 (by decide) (by decide), hoff 120 (by decide) (by decide)]
    exact c4 k hk
  · intro k hk
    rw [hoff 121 (by decide) (by decide), hoff 122 (by decide) (by decide), hoff 123 (by decide) (by decide), hoff 124 (by decide) (by decide)]
    exact c5 k hk
  · intro k hk
    rw [hoff 125 (by decide) (by decide), hoff 126 (by decide) (by decide)]
    exact c6 k hk
  · intro k hk
    rw [hoff 127 (by decide) (by decide)]
    exact c7 k hk
  · intro k hk
    rw [hoff 128 (by decide) (by decide), hoff 129 (by decide) (by decide)]
    exact c8 k hk
theorem RepM.a2 {w : WT} {A A' : AH} {row : Nat → Nat} (h : RepM w A) (h111 : ∀ k, k ≠ 3 → k ≠ 10 → A'.1 111 k = A.1 111 k) (hc : A'.1 111 3 = nI (w.1 2 + 1)) (hoff : ∀ x, 112 ≤ x → x ≤ 129 → x ≠ 112 → x ≠ 113 → x ≠ 114 → x ≠ 115 → x ≠ 116 → A'.1 x = A.1 x) (h112 : ∀ i, A'.1 112 i = if i = w.1 2 then nI (row 0) else A.1 112 i) (h113 : ∀ i, A'.1 113 i = if i = w.1 2 then nI (row 1) else A.1 113 i) (h114 : ∀ i, A'.1 114 i = if i = w.1 2 then nI (row 2) else A.1 114 i) (h115 : ∀ i, A'.1 115 i = if i = w.1 2 then nI (row 3) else A.1 115 i) (h116 : ∀ i, A'.1 116 i = if i = w.1 2 then nI (row 4) else A.1 116 i) : RepM (addW w 2 row) A' := by
  obtain ⟨⟨a1, a2, a3⟩, b, c2, c3, c4, c5, c6, c7, c8⟩ := h
  refine ⟨⟨?_, ?_, ?_⟩, ?_, ?_, ?_, ?_, ?_, ?_, ?_, ?_⟩
  · rw [h111 0 (by decide) (by decide)]; exact a1
  · rw [h111 1 (by decide) (by decide)]; exact a2
  · rw [h111 9 (by decide) (by decide)]; exact a3
  · intro J h1 h8
    by_cases q : J = 2
    · subst q; rw [hc]; rfl
    · rw [h111 (J + 1) (by omega) (by omega), b J h1 h8]
      show nI (w.1 J) = nI (if J = 2 then _ else w.1 J)
      rw [if_neg q]
  · intro k hk
    have hk : k < w.1 2 + 1 := hk
    rw [h112, h113, h114, h115, h116]
    by_cases q : k = w.1 2
    · subst q
      rw [if_pos rfl, if_pos rfl, if_pos rfl, if_pos rfl, if_pos rfl, addW_new, addW_new, addW_new, addW_new, addW_new]
      exact ⟨rfl, rfl, rfl, rfl, rfl⟩
    · rw [if_neg q, if_neg q, if_neg q, if_neg q, if_neg q, addW_old (fun z => q z.2), addW_old (fun z => q z.2), addW_old (fun z => q z.2), addW_old (fun z => q z.2), addW_old (fun z => q z.2)]
      exact c2 k (by omega)
  · intro t ht
    rw [hoff 117 (by decide) (by decide) (by decide) (by decide) (by decide) (by decide) (by decide)]
    have e : foesTo (addW w 2 row) t ((addW w 2 row).1 3) = foesTo w t (w.1 3) := foes_eq (w := w) (w' := addW w 2 row) (fun _ _ => rfl) (w.1 3)
    rw [e]
    exact c3 t ht
  · intro k hk
    rw [hoff 118 (by decide) (by decide) (by decide) (by decide) (by decide) (by decide) (by decide), hoff 119 (by decide) (by decide) (by decide) (by decide) (by decide) (by decide) (by decide), hoff 120 (by decide) (by decide) (by decide) (by decide) (by decide) (by decide) (by decide)]
    exact c4 k hk
  · intro k hk
    rw [hoff 121 (by decide) (by decide) (by decide) (by decide) (by decide) (by decide) (by decide), hoff 122 (by decide) (by decide) (by decide) (by decide) (by decide) (by decide) (by decide), hoff 123 (by decide) (by decide) (by decide) (by decide) (by decide) (by decide) (by decide), hoff 124 (by decide) (by decide) (by decide) (by decide) (by decide) (by decide) (by decide)]
    exact c5 k hk
  · intro k hk
    rw [hoff 125 (by decide) (by decide) (by decide) (by decide) (by decide) (by decide) (by decide), hoff 126 (by decide) (by decide) (by decide) (by decide) (by decide) (by decide) (by decide)]
    exact c6 k hk
  · intro k hk
    rw [hoff 127 (by decide) (by decide) (by decide) (by decide) (by decide) (by decide) (by decide)]
    exact c7 k hk
  · intro k hk
    rw [hoff 128 (by decide) (by decide) (by decide) (by decide) (by decide) (by decide) (by decide), hoff 129 (by decide) (by decide) (by decide) (by decide) (by decide) (by decide) (by decide)]
    exact c8 k hk
theorem RepM.a4 {w : WT} {A A' : AH} {row : Nat → Nat} (h : RepM w A) (h111 : ∀ k, k ≠ 5 → k ≠ 10 → A'.1 111 k = A.1 111 k) (hc : A'.1 111 5 = nI (w.1 4 + 1)) (hoff : ∀ x, 112 ≤ x → x ≤ 129 → x ≠ 118 → x ≠ 119 → x ≠ 120 → A'.1 x = A.1 x) (h118 : ∀ i, A'.1 118 i = if i = w.1 4 then nI (row 0) else A.1 118 i) (h119 : ∀ i, A'.1 119 i = if i = w.1 4 then nI (row 1) else A.1 119 i) (h120 : ∀ i, A'.1 120 i = if i = w.1 4 then nI (row 2) else A.1 120 i) : RepM (addW w 4 row) A' := by
  obtain ⟨⟨a1, a2, a3⟩, b, c2, c3, c4, c5, c6, c7, c8⟩ := h
  refine ⟨⟨?_, ?_, ?_⟩, ?_, ?_, ?_, ?_, ?_, ?_, ?_, ?_⟩
  · rw [h111 0 (by decide) (by decide)]; exact a1
  · rw [h111 1 (by decide) (by decide)]; exact a2
  · rw [h111 9 (by decide) (by decide)]; exact a3
  · intro J h1 h8
    by_cases q : J = 4
    · subst q; rw [hc]; rfl
    · rw [h111 (J + 1) (by omega) (by omega), b J h1 h8]
      show nI (w.1 J) = nI (if J = 4 then _ else w.1 J)
      rw [if_neg q]
  · intro k hk
    rw [hoff 112 (by decide) (by decide) (by decide) (by decide) (by decide), hoff 113 (by decide) (by decide) (by decide) (by decide) (by decide), hoff 114 (by decide) (by decide) (by decide) (by decide) (by decide), hoff 115 (by decide) (by decide) (by decide) (by decide) (by decide), hoff 116 (by decide) (by decide) (by decide) (by decide) (by decide)]
    exact c2 k hk
  · intro t ht
    rw [hoff 117 (by decide) (by decide) (by decide) (by decide) (by decide)]
    have e : foesTo (addW w 4 row) t ((addW w 4 row).1 3) = foesTo w t (w.1 3) := foes_eq (w := w) (w' := addW w 4 row) (fun _ _ => rfl) (w.1 3)
    rw [e]
    exact c3 t ht
  · intro k hk
    have hk : k < w.1 4 + 1 := hk
    rw [h118, h119, h120]
    by_cases q : k = w.1 4
    · subst q
      rw [if_pos rfl, if_pos rfl, if_pos rfl, addW_new, addW_new, addW_new]
      exact ⟨rfl, rfl, rfl⟩
    · rw [if_neg q, if_neg q, if_neg q, addW_old (fun z => q z.2), addW_old (fun z => q z.2), addW_old (fun z => q z.2)]
      exact c4 k (by omega)
  · intro k hk
    rw [hoff 121 (by decide) (by decide) (by decide) (by decide) (by decide), hoff 122 (by decide) (by decide) (by decide) (by decide) (by decide), hoff 123 (by decide) (by decide) (by decide) (by decide) (by decide), hoff 124 (by decide) (by decide) (by decide) (by decide) (by decide)]
    exact c5 k hk
  · intro k hk
    rw [hoff 125 (by decide) (by decide) (by decide) (by decide) (by decide), hoff 126 (by decide) (by decide) (by decide) (by decide) (by decide)]
    exact c6 k hk
  · intro k hk
    rw [hoff 127 (by decide) (by decide) (by decide) (by decide) (by decide)]
    exact c7 k hk
  · intro k hk
    rw [hoff 128 (by decide) (by decide) (by decide) (by decide) (by decide), hoff 129 (by decide) (by decide) (by decide) (by decide) (by decide)]
    exact c8 k hk
theorem RepM.a5 {w : WT} {A A' : AH} {row : Nat → Nat} (h : RepM w A) (h111 : ∀ k, k ≠ 6 → k ≠ 10 → A'.1 111 k = A.1 111 k) (hc : A'.1 111 6 = nI (w.1 5 + 1)) (hoff : ∀ x, 112 ≤ x → x ≤ 129 → x ≠ 121 → x ≠ 122 → x ≠ 123 → x ≠ 124 → A'.1 x = A.1 x) (h121 : ∀ i, A'.1 121 i = if i = w.1 5 then nI (row 0) else A.1 121 i) (h122 : ∀ i, A'.1 122 i = if i = w.1 5 then nI (row 1) else A.1 122 i) (h123 : ∀ i, A'.1 123 i = if i = w.1 5 then nI (row 2) else A.1 123 i) (h124 : ∀ i, A'.1 124 i = if i = w.1 5 then nI (row 3) else A.1 124 i) : RepM (addW w 5 row) A' := by
  obtain ⟨⟨a1, a2, a3⟩, b, c2, c3, c4, c5, c6, c7, c8⟩ := h
  refine ⟨⟨?_, ?_, ?_⟩, ?_, ?_, ?_, ?_, ?_, ?_, ?_, ?_⟩
  · rw [h111 0 (by decide) (by decide)]; exact a1
  · rw [h111 1 (by decide) (by decide)]; exact a2
  · rw [h111 9 (by decide) (by decide)]; exact a3
  · intro J h1 h8
    by_cases q : J = 5
    · subst q; rw [hc]; rfl
    · rw [h111 (J + 1) (by omega) (by omega), b J h1 h8]
      show nI (w.1 J) = nI (if J = 5 then _ else w.1 J)
      rw [if_neg q]
  · intro k hk
    rw [hoff 112 (by decide) (by decide) (by decide) (by decide) (by decide) (by decide), hoff 113 (by decide) (by decide) (by decide) (by decide) (by decide) (by decide), hoff 114 (by decide) (by decide) (by decide) (by decide) (by decide) (by decide), hoff 115 (by decide) (by decide) (by decide) (by decide) (by decide) (by decide), hoff 116 (by decide) (by decide) (by decide) (by decide) (by decide) (by decide)]
    exact c2 k hk
  · intro t ht
    rw [hoff 117 (by decide) (by decide) (by decide) (by decide) (by decide) (by decide)]
    have e : foesTo (addW w 5 row) t ((addW w 5 row).1 3) = foesTo w t (w.1 3) := foes_eq (w := w) (w' := addW w 5 row) (fun _ _ => rfl) (w.1 3)
    rw [e]
    exact c3 t ht
  · intro k hk
    rw [hoff 118 (by decide) (by decide) (by decide) (by decide) (by decide) (by decide), hoff 119 (by decide) (by decide) (by decide) (by decide) (by decide) (by decide), hoff 120 (by decide) (by decide) (by decide) (by decide) (by decide) (by decide)]
    exact c4 k hk
  · intro k hk
    have hk : k < w.1 5 + 1 := hk
    rw [h121, h122, h123, h124]
    by_cases q : k = w.1 5
    · subst q
      rw [if_pos rfl, if_pos rfl, if_pos rfl, if_pos rfl, addW_new, addW_new, addW_new, addW_new]
      exact ⟨rfl, rfl, rfl, rfl⟩
    · rw [if_neg q, if_neg q, if_neg q, if_neg q, addW_old (fun z => q z.2), addW_old (fun z => q z.2), addW_old (fun z => q z.2), addW_old (fun z => q z.2)]
      exact c5 k (by omega)
  · intro k hk
    rw [hoff 125 (by decide) (by decide) (by decide) (by decide) (by decide) (by decide), hoff 126 (by decide) (by decide) (by decide) (by decide) (by decide) (by decide)]
    exact c6 k hk
  · intro k hk
    rw [hoff 127 (by decide) (by decide) (by decide) (by decide) (by decide) (by decide)]
    exact c7 k hk
  · intro k hk
    rw [hoff 128 (by decide) (by decide) (by decide) (by decide) (by decide) (by decide), hoff 129 (by decide) (by decide) (by decide) (by decide) (by decide) (by decide)]
    exact c8 k hk
theorem RepM.a6 {w : WT} {A A' : AH} {row : Nat → Nat} (h : RepM w A) (h111 : ∀ k, k ≠ 7 → k ≠ 10 → A'.1 111 k = A.1 111 k) (hc : A'.1 111 7 = nI (w.1 6 + 1)) (hoff : ∀ x, 112 ≤ x → x ≤ 129 → x ≠ 127 → A'.1 x = A.1 x) (h127 : ∀ i, A'.1 127 i = if i = w.1 6 then nI (row 0) else A.1 127 i) : RepM (addW w 6 row) A' := by
  obtain ⟨⟨a1, a2, a3⟩, b, c2, c3, c4, c5, c6, c7, c8⟩ := h
  refine ⟨⟨?_, ?_, ?_⟩, ?_, ?_, ?_, ?_, ?_, ?_, ?_, ?_⟩
  · rw [h111 0 (by decide) (by decide)]; exact a1
  · rw [h111 1 (by decide) (by decide)]; exact a2
  · rw [h111 9 (by decide) (by decide)]; exact a3
  · intro J h1 h8
    by_cases q : J = 6
    · subst q; rw [hc]; rfl
    · rw [h111 (J + 1) (by omega) (by omega), b J h1 h8]
      show nI (w.1 J) = nI (if J = 6 then _ else w.1 J)
      rw [if_neg q]
  · intro k hk
    rw [hoff 112 (by decide) (by decide) (by decide), hoff 113 (by decide) (by decide) (by decide), hoff 114 (by decide) (by decide) (by decide), hoff 115 (by decide) (by decide) (by decide), hoff 116 (by decide) (by decide) (by decide)]
    exact c2 k hk
  · intro t ht
    rw [hoff 117 (by decide) (by decide) (by decide)]
    have e : foesTo (addW w 6 row) t ((addW w 6 row).1 3) = foesTo w t (w.1 3) := foes_eq (w := w) (w' := addW w 6 row) (fun _ _ => rfl) (w.1 3)
    rw [e]
    exact c3 t ht
  · intro k hk
    rw [hoff 118 (by decide) (by decide) (by decide), hoff 119 (by decide) (by decide) (by decide), hoff 120 (by decide) (by decide) (by decide)]
    exact c4 k hk
  · intro k hk
    rw [hoff 121 (by decide) (by decide) (by decide), hoff 122 (by decide) (by decide) (by decide), hoff 123 (by decide) (by decide) (by decide), hoff 124 (by decide) (by decide) (by decide)]
    exact c5 k hk
  · intro k hk
    rw [hoff 125 (by decide) (by decide) (by decide), hoff 126 (by decide) (by decide) (by decide)]
    exact c6 k hk
  · intro k hk
    have hk : k < w.1 6 + 1 := hk
    rw [h127]
    by_cases q : k = w.1 6
    · subst q
      rw [if_pos rfl, addW_new]
    · rw [if_neg q, addW_old (fun z => q z.2)]
      exact c7 k (by omega)
  · intro k hk
    rw [hoff 128 (by decide) (by decide) (by decide), hoff 129 (by decide) (by decide) (by decide)]
    exact c8 k hk
set_option maxRecDepth 4000 in
theorem c_X13_readLoad {K : Option Value → AH → Prop} {A : AH} {v : Value} {n p : Nat} {tp : Nat → Int32} {w : WT} {nm : NT} (hT : TA n tp A) (hA : LA (gB tp) n p A) (hM : RepM w A) (hN : RN nm A) (hP : PI w nm) (hj : lnS (gB tp) n p = some 4) (h : ∀ A', LSx (gB tp) n (lineP (gB tp) n w nm p) A' → FW A A' → K none A') : Ct yX13_readLoad mX13_readLoad 10 dM (GG v (.ref 111)) [.ref 100] A K := by
  refine Ct.of [some (.ref 100), none, none, none] rfl rfl rfl (Nat.le_of_ble_eq_true rfl) ?_
  have hk1 := kind1 hj
  have hr1 := hP.1 1 (by decide)
  have hr2 := hP.1 2 (by decide)
  have hrj := hP.1 4 (by decide)
  have hrn : roomN 4 = 4 := rfl
  have hb1 := hM.2.1 4 (by decide) (by decide)
  have hlp := line_of hP hj (by decide) (by decide)
  refine w_aload_n 1 dX13_readLoad_0 rfl rfl ?_
  refine w_aload_n 2 dX13_readLoad_1 rfl rfl ?_
  refine w_getr 5 dX13_readLoad_2 rfl faX13_149 rfl rfl rfl (r := .ref 111) rfl ?_
  refine w_getiv 8 dX13_readLoad_5 rfl faX13_287 rfl rfl rfl hb1 ?_
  refine w_iconst 9 dX13_readLoad_8 rfl (v := nI 4) rfl ?_
  refine w_inv2 12 dX13_readLoad_9 rfl mlX13_230 rfl rfl (d' := 2) (by decide) (Nat.le_of_ble_eq_true rfl) (c_X13_lineBegins (x := .inr (p, [])) (w := w) (b := roomN 4) hT hA (fun y e => by cases e; rw [hk1]; decide) (hM.sl hP) (by omega) (by decide) (fun A1 hS1 hF1 => ?_))
  refine w_aload_n 13 dX13_readLoad_12 rfl rfl ?_
  refine w_inv0 16 dX13_readLoad_13 rfl mlX13_251 rfl rfl (d' := 9) (by decide) (Nat.le_of_ble_eq_true rfl) (c_X13_readNails (x := (lb0 (gB tp) n w 4 p)) (k := 0) (hT.fp hF1) hS1 Ln_0 (hN.fp hF1) (fun A2 u1 hS2 hV2 hW2 hF2 => ?_))
  have hF12 := hF1.q.tr hF2
  refine w_ist1 17 dX13_readLoad_16 rfl (by decide) rfl ?_
  refine w_aload_n 18 dX13_readLoad_17 rfl rfl ?_
  refine w_getiv 21 dX13_readLoad_18 rfl faX13_185 rfl rfl rfl (v := A2.1 100 15) rfl ?_
  refine w_ist2 22 dX13_readLoad_21 rfl (by decide) rfl ?_
  refine w_aload_n 23 dX13_readLoad_22 rfl rfl ?_
  refine w_iconst 24 dX13_readLoad_23 rfl (v := nI 1) rfl ?_
  refine w_sipush 27 dX13_readLoad_24 rfl (v := nI 300) rfl ?_
  refine w_inv2 30 dX13_readLoad_27 rfl mlX13_129 rfl rfl (d' := 2) (by decide) (Nat.le_of_ble_eq_true rfl) (c_X13_readWhole (x := bindP (bindP (lb0 (gB tp) n w 4 p) (sNm (gB tp) n nm 1)) (sNmC (gB tp) n nm 1 badU)) (k := 0 + 1 + 1) (hT.fq hF12) hS2 ((Ln_0.bd (ap_nm _ _ _ _)).bd (ap_nmc _ _ _ _ _)) (by decide) (by decide) (fun A3 u3 hS3 hV3 hF3 => ?_))
  have hF13 := hF12.tr hF3.q
  refine w_ist3 31 dX13_readLoad_30 rfl (by decide) rfl ?_
  refine w_aload_n 32 dX13_readLoad_31 rfl rfl ?_
  have hsx := sx_le (g := gB tp) (n := n) (x := bindP (bindP (bindP (lb0 (gB tp) n w 4 p) (sNm (gB tp) n nm 1)) (sNmC (gB tp) n nm 1 badU)) (sWh (gB tp) n 1 300))
  have hch : lineP (gB tp) n w nm p = ofP (gB tp) n w nm 4 p (bindP (bindP (bindP (lb0 (gB tp) n w 4 p) (sNm (gB tp) n nm 1)) (sNmC (gB tp) n nm 1 badU)) (sWh (gB tp) n 1 300)) := by
    rw [hlp]
    rw [bindP_as, bindP_as]
    refine congrArg _ ?_
    unfold lb0
    split
    · rfl
    · split <;> rfl
  refine w_getiv 35 dX13_readLoad_32 rfl faX13_78 rfl rfl rfl (hS3).srt ?_
  refine w_iconst 36 dX13_readLoad_35 rfl (v := nI 5) rfl ?_
  refine w_icneN 40 39 dX13_readLoad_36 rfl rfl (by omega) (by omega) (fun c36 => ?_) (fun c36 => ?_)
  · skip
    obtain ⟨z, hz⟩ := sx_n5 (by omega : ¬ sx (gB tp) n (bindP (bindP (bindP (lb0 (gB tp) n w 4 p) (sNm (gB tp) n nm 1)) (sNmC (gB tp) n nm 1 badU)) (sWh (gB tp) n 1 300)) = 5)
    have hLA := SR.la hS3 hz
    rw [hz] at hch
    have hroom := line_room hj hch
    have hb3 : A3.1 111 5 = nI (w.1 4) := by rw [(hF13.1 111 (by decide)).1]; exact hb1
    refine w_aload_n 41 dX13_readLoad_40 rfl rfl ?_
    refine w_getr 44 dX13_readLoad_41 rfl faX13_149 rfl rfl rfl (r := .ref 111) rfl ?_
    refine w_getr 47 dX13_readLoad_44 rfl faX13_290 rfl rfl rfl (r := .ref 118) rfl ?_
    refine w_aload_n 48 dX13_readLoad_47 rfl rfl ?_
    refine w_getr 51 dX13_readLoad_48 rfl faX13_149 rfl rfl rfl (r := .ref 111) rfl ?_
    refine w_getiv 54 dX13_readLoad_51 rfl faX13_287 rfl rfl rfl hb3 ?_
    refine w_iload_n 55 dX13_readLoad_54 rfl rfl ?_
    refine w_iastN 56 dX13_readLoad_55 rfl rfl rfl (by decide) (by omega) ?_
    refine w_aload_n 57 dX13_readLoad_56 rfl rfl ?_
    refine w_getr 60 dX13_readLoad_57 rfl faX13_149 rfl rfl rfl (r := .ref 111) rfl ?_
    refine w_getr 63 dX13_readLoad_60 rfl faX13_293 rfl rfl rfl (r := .ref 119) rfl ?_
    refine w_aload_n 64 dX13_readLoad_63 rfl rfl ?_
    refine w_getr 67 dX13_readLoad_64 rfl faX13_149 rfl rfl rfl (r := .ref 111) rfl ?_
    refine w_getiv 70 dX13_readLoad_67 rfl faX13_287 rfl rfl rfl (v := nI (w.1 4)) (by dsimp only; rw [upd2_ne (by decide)]; exact hb3) ?_
    refine w_iload_n 71 dX13_readLoad_70 rfl rfl ?_
    refine w_iastN 72 dX13_readLoad_71 rfl rfl rfl (by decide) (by omega) ?_
    refine w_aload_n 73 dX13_readLoad_72 rfl rfl ?_
    refine w_getr 76 dX13_readLoad_73 rfl faX13_149 rfl rfl rfl (r := .ref 111) rfl ?_
    refine w_getr 79 dX13_readLoad_76 rfl faX13_296 rfl rfl rfl (r := .ref 120) rfl ?_
    refine w_aload_n 80 dX13_readLoad_79 rfl rfl ?_
    refine w_getr 83 dX13_readLoad_80 rfl faX13_149 rfl rfl rfl (r := .ref 111) rfl ?_
    refine w_getiv 86 dX13_readLoad_83 rfl faX13_287 rfl rfl rfl (v := nI (w.1 4)) (by dsimp only; rw [upd2_ne (by decide), upd2_ne (by decide)]; exact hb3) ?_
    refine w_iload_n 87 dX13_readLoad_86 rfl rfl ?_
    refine w_iastN 88 dX13_readLoad_87 rfl rfl rfl (by decide) (by omega) ?_
    refine w_aload_n 89 dX13_readLoad_88 rfl rfl ?_
    refine w_getr 92 dX13_readLoad_89 rfl faX13_149 rfl rfl rfl (r := .ref 111) rfl ?_
    refine w_dup_r 93 dX13_readLoad_92 rfl ?_
    refine w_getiv 96 dX13_readLoad_93 rfl faX13_287 rfl rfl rfl (v := nI (w.1 4)) (by dsimp only; rw [upd2_ne (by decide), upd2_ne (by decide), upd2_ne (by decide)]; exact hb3) ?_
    refine w_iconst 97 dX13_readLoad_96 rfl (v := nI 1) rfl ?_
    refine w_iaddN 98 dX13_readLoad_97 rfl ?_
    refine w_puti 101 dX13_readLoad_98 rfl faX13_287 rfl rfl rfl rfl ?_
    refine wr_v dX13_readLoad_101 rfl ?_
    obtain ⟨a1, a2, a3⟩ := PV.bd hV2 (ap_wh _ _ _ _) z.1 z.2 hz
    obtain ⟨b1, b2, b3⟩ := PV.bd hW2 (ap_wh _ _ _ _) z.1 z.2 hz
    obtain ⟨d1, d2, d3⟩ := hV3 z.1 z.2 hz
    have hO : OffL [111, 118, 119, 120] A3 (upd2 (upd2 (upd2 (upd2 A3.1 118 (w.1 4) u1) 119 (w.1 4) (A2.1 100 15)) 120 (w.1 4) u3) 111 5 (nI (w.1 4 + 1)), A3.2) := (((OffL.rf.upd (by decide) _ _).upd (by decide) _ _).upd (by decide) _ _).upd (by decide) _ _
    have hM9 : RepM (addW w 4 (fun k => z.2.getD k 0)) (upd2 (upd2 (upd2 (upd2 A3.1 118 (w.1 4) u1) 119 (w.1 4) (A2.1 100 15)) 120 (w.1 4) u3) 111 5 (nI (w.1 4 + 1)), A3.2) := RepM.a4 (hM.fq hF13) (fun k hk _ => by dsimp only; rw [upd2_off hk, upd2_ne (by decide), upd2_ne (by decide), upd2_ne (by decide)]) (by dsimp only; rw [upd2_at]) (fun x _ _ e1 e2 e3 => by exact (hO x (by simp; omega)).1) (fun i => by simp only [upd2, a3]; simp) (fun i => by simp only [upd2, b3]; simp) (fun i => by simp only [upd2, d3]; simp)
    refine h _ ?_ (hF13.w.tr (FW.o hO (by decide) (by decide)))
    rw [hch]
    exact ⟨hLA.o (hO 100 (by decide)).1 (hO 100 (by decide)).2, hM9, (hN.fq hF13).o (by dsimp only; rw [upd2_off (by decide), upd2_ne (by decide), upd2_ne (by decide), upd2_ne (by decide)]) (hO 130 (by decide)).2 (hO 131 (by decide)).1 (hO 132 (by decide)).1⟩
  · skip
    obtain ⟨z, hz⟩ := sx_5 (by omega : sx (gB tp) n (bindP (bindP (bindP (lb0 (gB tp) n w 4 p) (sNm (gB tp) n nm 1)) (sNmC (gB tp) n nm 1 badU)) (sWh (gB tp) n 1 300)) = 5)
    refine wr_v dX13_readLoad_39 rfl ?_
    have h9 := hS3
    rw [hz] at h9 hch
    exact h _ (by rw [hch]; exact h9) (hF13.w)

