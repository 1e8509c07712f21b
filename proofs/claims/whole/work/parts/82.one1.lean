/-! ===== answers on both sides are one (1) ===== -/
theorem qHolding_r {w : WT} {s : Nat → Nat} (hs : okS s) (n : Int32) : qHolding w s n = rHolding w s n := by
  unfold qHolding rHolding
  rw [HN_HM hs]
theorem qBears_r {w : WT} {s : Nat → Nat} (hs : okS s) (hw : ofOK w) (a b n : Int32) : qBears w s a b n = rBears w s a b n := by
  unfold qBears rBears
  by_cases h : tY (ok2 w a b) n = 0
  · rw [if_pos h, if_pos h]
    obtain ⟨a', b', rfl, rfl, ha, hb, hab⟩ := ok2_of (tY_0 h).1 hw.1
    have h7 := hw.1
    rw [cl_nI (show a' < 2 ^ 31 by omega), cl_nI (show b' < 2 ^ 31 by omega), LB_0 hs hw ha hab]
  · rw [if_neg h, if_neg h]
theorem es_stg {w : WT} {s : Nat → Nat} (hs : okS s) {n t : Nat} (ht : t < s 1) : esW w s n t = stg s t n := by
  have := hs.2.1
  unfold esW
  rw [if_pos (by omega), if_pos ht]
theorem qStrongest_r {w : WT} {s : Nat → Nat} (hs : okS s) (n : Int32) : qStrongest w s n = rStrongest w s n := by
  have h : ∀ m, m ≤ s 1 → hvF (esW w s (cl n)) 0 m = hv (fun t => stg s t (cl n)) m := by
    intro m
    induction m with
    | zero => intro _; rfl
    | succ m ih =>
      intro hm
      simp only [hvF, hv]
      rw [ih (by omega), es_stg hs (by omega)]
  unfold qStrongest rStrongest
  rw [h _ (Nat.le_refl _)]
/-- the bearing with one thread away -/
theorem LB_e {w : WT} {s : Nat → Nat} (hs : okS s) (hw : ofOK w) {n a b e : Nat} (ha : a < w.1 1) (hab : a ≠ b) (he : (HM w s n).testBit e = true) : LB w s n (2 ^ e) a b = vitF w s n a b e :=
  LB_x hs hw ha hab (fun i hi => by
    by_cases q : e = i
    · rw [← q]; exact he
    · rw [Nat.testBit_two_pow_of_ne q] at hi; cases hi)
theorem LB_n {w : WT} {s : Nat → Nat} (hs : okS s) (hw : ofOK w) {n a b e : Nat} (ha : a < w.1 1) (hab : a ≠ b) (h1 : e < s 1) (he : (HM w s n).testBit e = false) : LB w s n (2 ^ e) a b = LB w s n 0 a b := by
  rw [LB_0 hs hw ha hab]
  refine LB_BV hs hw ha hab (fun i hi => ?_)
  by_cases q : e = i
  · subst q
    rw [HM_es hs h1 he]; simp
  · rw [Nat.testBit_two_pow_of_ne q]
    by_cases hi1 : i < s 1
    · cases q2 : (HM w s n).testBit i with
      | true => simp [hi1]
      | false => rw [HM_es hs hi1 q2]; simp
    · rw [bit_hi (HM_lt1 hs n) (by omega)]; simp [hi1]
theorem qNeeded_r {w : WT} {s : Nat → Nat} (hs : okS s) (hw : ofOK w) (a b n : Int32) : qNeeded w s a b n = rNeeded w s a b n := by
  unfold qNeeded rNeeded
  by_cases h : tY (ok2 w a b) n = 0
  · rw [if_pos h, if_pos h]
    obtain ⟨a', b', rfl, rfl, ha, hb, hab⟩ := ok2_of (tY_0 h).1 hw.1
    have h7 := hw.1
    rw [cl_nI (show a' < 2 ^ 31 by omega), cl_nI (show b' < 2 ^ 31 by omega)]
    congr 1
    refine maskTo_cong (fun e he => ?_)
    unfold neB nedB
    cases q : (HM w s (cl n)).testBit e with
    | true => rw [LB_e hs hw ha hab q, LB_0 hs hw ha hab, Bool.true_and]
    | false => rw [LB_n hs hw ha hab he q, Bool.false_and]; exact decide_eq_false (Nat.lt_irrefl _)
  · rw [if_neg h, if_neg h]
theorem vt_lv {f g : Nat → Nat} {p : Nat → Bool} {m : Nat} (h1 : ∀ i, i < m → p i = true → f i = g i ∧ g i < 99999) (h0 : ∀ i, i < m → p i = false → f i = 99999) : ∀ k, k ≤ m → (vtS f k).1 = (lvP g p k).1 ∧ ((lvP g p k).1 = none → (vtS f k).2 = 99999) ∧ ((lvP g p k).1 ≠ none → (vtS f k).2 = (lvP g p k).2)
  | 0, _ => ⟨rfl, fun _ => rfl, fun h => absurd rfl h⟩
  | k + 1, hk => by
    obtain ⟨i1, i2, i3⟩ := vt_lv h1 h0 k (by omega)
    have hle := vtS_le f k
    simp only [vtS, lvP]
    cases q : p k with
    | false =>
      have e := h0 k (by omega) q
      rw [if_neg (by omega), if_neg (fun z => by cases z.1)]
      exact ⟨i1, i2, i3⟩
    | true =>
      obtain ⟨e1, e2⟩ := h1 k (by omega) q
      by_cases z : (lvP g p k).1 = none
      · have := i2 z
        rw [if_pos (by omega), if_pos ⟨rfl, Or.inl z⟩]
        exact ⟨rfl, (fun y => by cases y), (fun _ => e1)⟩
      · have := i3 z
        by_cases y : g k < (lvP g p k).2
        · rw [if_pos (by omega), if_pos ⟨rfl, Or.inr y⟩]
          exact ⟨rfl, (fun y => by cases y), (fun _ => e1)⟩
        · rw [if_neg (by omega), if_neg (fun u => u.2.elim z y)]
          exact ⟨i1, i2, i3⟩
theorem qVital_r {w : WT} {s : Nat → Nat} (hs : okS s) (hw : ofOK w) (a b n : Int32) : qVital w s a b n = rVital w s a b n := by
  unfold qVital rVital
  by_cases h : tY (ok2 w a b) n = 0
  · rw [if_pos h, if_pos h]
    obtain ⟨a', b', rfl, rfl, ha, hb, hab⟩ := ok2_of (tY_0 h).1 hw.1
    have h7 := hw.1
    rw [cl_nI (show a' < 2 ^ 31 by omega), cl_nI (show b' < 2 ^ 31 by omega)]
    congr 1
    refine (vt_lv (m := s 1) (fun i hi q => ?_) (fun i hi q => ?_) (s 1) (Nat.le_refl _)).1
    · have hp := (HM_bit1 q).2
      unfold vtF
      rw [if_neg (by omega), LB_e hs hw ha hab q]
      exact ⟨rfl, Nat.lt_of_le_of_lt (BV_le hs hw _ _ _ _) (by decide)⟩
    · unfold vtF
      rw [if_pos (HM_es hs hi q)]
  · rw [if_neg h, if_neg h]
theorem ldQ_F {w : WT} {nm : NT} {s : Nat → Nat} (hP : PI w nm) (hs : okS s) (hw : ofOK w) {n k : Nat} (hk : k < w.1 4) : ldQ w (s 1) (e1W w s) (e2W w s) (esW w s n) k = ldF w s n (HM w s n) k := by
  have he := (hP.2.2.1 4 k (by decide) hk).1
  simp only [eOK] at he
  exact LB_0 hs hw he.1 he.2.2.1
theorem ldW_M {w : WT} {nm : NT} {s : Nat → Nat} (hP : PI w nm) (hs : okS s) (hw : ofOK w) (n : Nat) : ldW w s n = ldM w s n (HM w s n) := maskTo_cong (fun k hk => by rw [ldQ_F hP hs hw hk])
theorem qBorne_r {w : WT} {nm : NT} {s : Nat → Nat} (hP : PI w nm) (hs : okS s) (hw : ofOK w) (n : Int32) : qBorne w s n = rBorne w s n := by
  unfold qBorne rBorne
  rw [ldW_M hP hs hw]
theorem qFallsIn_r {w : WT} {nm : NT} {s : Nat → Nat} (hP : PI w nm) (hs : okS s) (hw : ofOK w) (k : Int32) : qFallsIn w s k = rFallsIn w s k := by
  unfold qFallsIn rFallsIn
  by_cases h : t1 (okR (w.1 4) k) = 0
  · rw [if_pos h, if_pos h]
    have h4 := hP.1 4 (by decide)
    have hr : roomN 4 = 4 := rfl
    obtain ⟨k', rfl, hk⟩ := okR_of (t1_0 h) (by omega)
    rw [cl_nI (show k' < 2 ^ 31 by omega)]
    congr 1
    refine fst1_cong (fun n _ => ?_)
    unfold ldW ldN falB
    rw [testBit_maskTo, decide_eq_true hk, Bool.true_and, ldQ_F hP hs hw hk, ← decide_not]
    congr 1
    exact propext Nat.not_le
  · rw [if_neg h, if_neg h]
theorem qSpare_r {w : WT} {nm : NT} {s : Nat → Nat} (hP : PI w nm) (hs : okS s) (hw : ofOK w) (k : Int32) : qSpare w s k = rSpare w s k := by
  unfold qSpare rSpare
  by_cases h : t1 (okR (w.1 4) k) = 0
  · rw [if_pos h, if_pos h]
    have h4 := hP.1 4 (by decide)
    have hr : roomN 4 = 4 := rfl
    obtain ⟨k', rfl, hk⟩ := okR_of (t1_0 h) (by omega)
    rw [cl_nI (show k' < 2 ^ 31 by omega)]
    have he := (hP.2.2.1 4 k' (by decide) hk).1
    simp only [eOK] at he
    rw [LB_0 hs hw he.1 he.2.2.1]
    rfl
  · rw [if_neg h, if_neg h]
