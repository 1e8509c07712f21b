/-! ===== answers on both sides are one (4): the cut ===== -/
theorem less_all : ((List.range 256).all fun H => (List.range 256).all fun l => !subM l H || lessB l H || decide (l = H)) = true := by decide +kernel
theorem less_x {l H : Nat} (hl : l < 256) (hH : H < 256) (h : subM l H = true) (h2 : ¬ lessB l H = true) : l = H := by
  have h1 := List.all_eq_true.mp (List.all_eq_true.mp less_all H (List.mem_range.mpr hH)) l (List.mem_range.mpr hl)
  rw [h, Bool.not_true, Bool.false_or, Bool.or_eq_true] at h1
  exact h1.elim (fun z => absurd z h2) of_decide_eq_true
theorem leastF_at (f : Nat → Nat) (p : Nat → Bool) : ∀ n, leastF f p n = 99999 ∨ ∃ i, i < n ∧ p i = true ∧ f i = leastF f p n
  | 0 => Or.inl rfl
  | n + 1 => by
    simp only [leastF]
    by_cases q : p n = true ∧ f n < leastF f p n
    · rw [if_pos q]; exact Or.inr ⟨n, by omega, q.1, rfl⟩
    · rw [if_neg q]
      rcases leastF_at f p n with h | ⟨i, h1, h2, h3⟩
      · exact Or.inl h
      · exact Or.inr ⟨i, by omega, h2, h3⟩
theorem ctS_g {w : WT} {s : Nat → Nat} (hs : okS s) (n sd : Nat) : ctS w s n sd = acr (e1W w s) (e2W w s) sd 13 &&& HM w s n := by
  apply Nat.eq_of_testBit_eq
  intro i
  have h8 := hs.2.1
  unfold ctS acr
  rw [testBit_maskTo, Nat.testBit_and, testBit_maskTo]
  by_cases hi : i < s 1
  · rw [decide_eq_true hi, decide_eq_true (show i < 13 by omega), Bool.true_and, Bool.true_and, HM_bit, decide_eq_true (show i < 8 by omega), Bool.true_and, Bool.and_comm]
    rfl
  · rw [decide_eq_false hi, bit_hi (HM_lt1 hs n) (by omega), Bool.and_false, Bool.false_and]
theorem crW_b {w : WT} {s : Nat → Nat} (hs : okS s) (n sd : Nat) : crW w s n sd 0 = sumB (esW w s n) (acr (e1W w s) (e2W w s) sd 13 &&& HM w s n) 13 := by
  refine bearF_crs (by have := hs.2.1; omega) (fun i hi => ?_) sd
  by_cases hi1 : i < s 1
  · cases q : (HM w s n).testBit i with
    | true => simp [hi1]
    | false => rw [HM_es hs hi1 q]; simp
  · rw [bit_hi (HM_lt1 hs n) (by omega)]; simp [hi1]
theorem ct_cut {w : WT} {s : Nat → Nat} (hs : okS s) (hw : ofOK w) {n a b : Nat} (ha : a < w.1 1) (hab : a ≠ b) : ∀ k, (ctO w s n a b k = none → cutB (sideP a b) (fun sd => decide (sumB (esW w s n) (acr (e1W w s) (e2W w s) sd 13 &&& HM w s n) 13 = BV w s n (HM w s n) a b)) (fun sd => acr (e1W w s) (e2W w s) sd 13 &&& HM w s n) (HM w s n) k = HM w s n) ∧ ∀ x, ctO w s n a b k = some x → cutB (sideP a b) (fun sd => decide (sumB (esW w s n) (acr (e1W w s) (e2W w s) sd 13 &&& HM w s n) 13 = BV w s n (HM w s n) a b)) (fun sd => acr (e1W w s) (e2W w s) sd 13 &&& HM w s n) (HM w s n) k = x
  | 0 => ⟨fun _ => rfl, fun x h => by cases h⟩
  | k + 1 => by
    obtain ⟨i1, i2⟩ := ct_cut hs hw (n := n) ha hab k
    have hH := HM_lt w s n
    have hc := crW_b (w := w) hs n k
    have hg := ctS_g (w := w) hs n k
    have hl := LB_0 hs hw (n := n) ha hab
    simp only [ctO, cutB]
    rw [hc, hg, hl]
    by_cases q : (sideP a b k && decide (sumB (esW w s n) (acr (e1W w s) (e2W w s) k 13 &&& HM w s n) 13 = BV w s n (HM w s n) a b)) = true
    · rw [if_pos q]
      obtain ⟨q1, q2⟩ := Bool.and_eq_true_iff.mp q
      rw [q1, q2, Bool.true_and, Bool.true_and]
      cases z : ctO w s n a b k with
      | none =>
        rw [i1 z]
        refine ⟨(fun h => by cases h), fun x h => ?_⟩
        have hx : acr (e1W w s) (e2W w s) k 13 &&& HM w s n = x := by simpa using h
        by_cases y : lessB (acr (e1W w s) (e2W w s) k 13 &&& HM w s n) (HM w s n) = true
        · rw [if_pos y]; exact hx
        · rw [if_neg y, ← hx]
          have hle : acr (e1W w s) (e2W w s) k 13 &&& HM w s n ≤ HM w s n := Nat.and_le_right
          exact (less_x (by omega) hH ((subM_iff (by omega)).mpr (fun i hi => by rw [Nat.testBit_and, Bool.and_eq_true] at hi; exact hi.2)) y).symm
      | some x =>
        rw [i2 x z]
        dsimp only
        by_cases y : lessB (acr (e1W w s) (e2W w s) k 13 &&& HM w s n) x = true
        · rw [if_pos y, if_pos y]
          exact ⟨(fun h => by cases h), (fun x h => by simpa using h)⟩
        · rw [if_neg y, if_neg y]
          exact ⟨(fun h => by cases h), (fun x h => by simpa using h)⟩
    · rw [if_neg q]
      have q3 : ¬ (sideP a b k && (decide (sumB (esW w s n) (acr (e1W w s) (e2W w s) k 13 &&& HM w s n) 13 = BV w s n (HM w s n) a b) && lessB (acr (e1W w s) (e2W w s) k 13 &&& HM w s n) (cutB (sideP a b) (fun sd => decide (sumB (esW w s n) (acr (e1W w s) (e2W w s) sd 13 &&& HM w s n) 13 = BV w s n (HM w s n) a b)) (fun sd => acr (e1W w s) (e2W w s) sd 13 &&& HM w s n) (HM w s n) k))) = true := fun z => by
        rw [← Bool.and_assoc, Bool.and_eq_true] at z
        exact q z.1
      rw [if_neg q3]
      exact ⟨i1, i2⟩
theorem ctO_ex {w : WT} {s : Nat → Nat} {n a b i : Nat} (h1 : sideP a b i = true) (h2 : crW w s n i 0 = LB w s n 0 a b) : ∀ k, i < k → ∃ x, ctO w s n a b k = some x
  | 0, h => absurd h (Nat.not_lt_zero i)
  | k + 1, h => by
    simp only [ctO]
    by_cases e : i = k
    · subst e
      rw [if_pos (by rw [h1, decide_eq_true h2]; rfl)]
      cases ctO w s n a b i with
      | none => exact ⟨_, rfl⟩
      | some x =>
        dsimp only
        split
        · exact ⟨_, rfl⟩
        · exact ⟨_, rfl⟩
    · obtain ⟨x, hx⟩ := ctO_ex h1 h2 k (by omega)
      rw [hx]
      dsimp only
      split
      · split
        · exact ⟨_, rfl⟩
        · exact ⟨_, rfl⟩
      · exact ⟨_, rfl⟩
theorem qCut_r {w : WT} {s : Nat → Nat} (hs : okS s) (hw : ofOK w) (a b n : Int32) : qCut w s a b n = rCut w s a b n := by
  unfold qCut rCut
  by_cases h : tY (ok2 w a b) n = 0
  · rw [if_pos h, if_pos h]
    obtain ⟨a', b', rfl, rfl, ha, hb, hab⟩ := ok2_of (tY_0 h).1 hw.1
    have h7 := hw.1
    rw [cl_nI (show a' < 2 ^ 31 by omega), cl_nI (show b' < 2 ^ 31 by omega)]
    have hl := LB_0 hs hw (n := cl n) ha hab
    have hb := BV_le hs hw (cl n) (HM w s (cl n)) a' b'
    rcases leastF_at (fun sd => crW w s (cl n) sd 0) (sideP a' b') (2 ^ w.1 1) with z | ⟨i, h1, h2, h3⟩
    · have z : LB w s (cl n) 0 a' b' = 99999 := z
      omega
    · obtain ⟨x, hx⟩ := ctO_ex (w := w) (s := s) (n := cl n) h2 h3 _ h1
      rw [hx]
      exact congrArg nI ((ct_cut hs hw ha hab _).2 x hx).symm
  · rw [if_neg h, if_neg h]
