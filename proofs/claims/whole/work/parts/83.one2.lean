/-! ===== answers on both sides are one (2) ===== -/
def RlW (x y : Option Nat × Nat) : Prop := x.1 = y.1 ∧ (y.1 = none → x.2 = 99999) ∧ (y.1 ≠ none → x.2 = y.2)
theorem wkI_q {f g : Nat → Nat → Nat} {a : Nat} {x y : Option Nat × Nat} (h : RlW x y) : ∀ m, (∀ k, k < m → f a (a + 1 + k) = g a (a + 1 + k) ∧ g a (a + 1 + k) < 99999) → RlW (wqI f a x m) (wkI g a y m)
  | 0, _ => h
  | m + 1, hk => by
    obtain ⟨i1, i2, i3⟩ := wkI_q h m (fun k hm => hk k (by omega))
    obtain ⟨e1, e2⟩ := hk m (by omega)
    simp only [wqI, wkI]
    by_cases z : (wkI g a y m).1 = none
    · have := i2 z
      rw [if_pos (by omega), if_pos (Or.inl z)]
      exact ⟨rfl, (fun u => by cases u), (fun _ => e1)⟩
    · have := i3 z
      by_cases u : g a (a + 1 + m) < (wkI g a y m).2
      · rw [if_pos (by omega), if_pos (Or.inr u)]
        exact ⟨rfl, (fun u => by cases u), (fun _ => e1)⟩
      · rw [if_neg (by omega), if_neg (fun v => v.elim z u)]
        exact ⟨i1, i2, i3⟩
theorem wkO_q {f g : Nat → Nat → Nat} {nn : Nat} (h : ∀ a b, a < b → b < nn → f a b = g a b ∧ g a b < 99999) : ∀ a, a ≤ nn → RlW (wqO f nn a) (wkO g nn a)
  | 0, _ => ⟨rfl, fun _ => rfl, fun z => absurd rfl z⟩
  | a + 1, ha => by
    simp only [wqO, wkO]
    exact wkI_q (wkO_q h a (by omega)) _ (fun k hk => h a (a + 1 + k) (by omega) (by omega))
theorem qWeakest_r {w : WT} {s : Nat → Nat} (hs : okS s) (hw : ofOK w) (n : Int32) : qWeakest w s n = rWeakest w s n := by
  unfold qWeakest rWeakest
  have h := wkO_q (f := LB w s (cl n) 0) (g := wkF w s (cl n)) (nn := w.1 1) (fun a b h1 h2 => ⟨LB_0 hs hw (by omega) (by omega), Nat.lt_of_le_of_lt (BV_le hs hw _ _ _ _) (by decide)⟩) (w.1 1) (Nat.le_refl _)
  rw [h.1]
theorem natB_0 {w : WT} {s : Nat → Nat} {a i : Nat} (h1 : s 1 ≤ i) (h2 : i < 8) : natB w s a i = false := by
  unfold natB
  rw [esW_0 h1 h2]
  simp
theorem qNail_r {w : WT} {s : Nat → Nat} (hs : okS s) (a x : Int32) : qNail w s a x = rNail w s a x := by
  have e1 : maskTo (natB w s (cl a)) 8 = maskTo (natB w s (cl a)) (s 1) := maskTo_pad hs.2.1 (fun i h1 h2 => natB_0 h1 h2)
  have e2 : sumB (esW w s 0) (maskTo (natB w s (cl a)) 8) 13 = nqS w s (cl a) (s 1) := by
    unfold sumB nqS
    rw [sumTo_pad (a := s 1) (by have := hs.2.1; omega) (fun i h1 _ => by
      rw [testBit_maskTo]
      by_cases h8 : i < 8
      · rw [natB_0 h1 h8]; simp
      · simp [h8])]
    refine sumTo_cong (fun i hi => ?_)
    have h8 := hs.2.1
    rw [testBit_maskTo, decide_eq_true (show i < 8 by omega), Bool.true_and]
  unfold qNail rNail
  rw [e2, e1]
theorem fdF_ix {p : Nat → Bool} {i : Nat} (hi : i < 2 ^ 31) : ∀ n, n < 2 ^ 31 → fdF p (nI i) n = if i < cntTo p n then some (ixF p i n) else none
  | 0, _ => by simp [fdF, cntTo]
  | n + 1, hn => by
    have ih := fdF_ix (p := p) hi n (by omega)
    have hc := cntTo_le p n
    have he : decide (nI (cntTo p n) = nI i) = decide (cntTo p n = i) := by
      congr 1
      exact propext (nI_eq (by omega) hi)
    simp only [fdF, ixF, he]
    by_cases q : p n = true
    · have ec : cntTo p (n + 1) = cntTo p n + 1 := if_pos q
      rw [ec]
      by_cases z : cntTo p n = i
      · have hb : (p n && decide (cntTo p n = i)) = true := by rw [q, decide_eq_true z]; rfl
        rw [if_pos hb, if_pos hb, if_pos (by omega)]
      · have hb : ¬ (p n && decide (cntTo p n = i)) = true := by rw [q, decide_eq_false z]; decide
        rw [if_neg hb, if_neg hb, ih]
        by_cases y : i < cntTo p n
        · rw [if_pos y, if_pos (by omega)]
        · rw [if_neg y, if_neg (by omega)]
    · have ec : cntTo p (n + 1) = cntTo p n := if_neg q
      have hb : ¬ (p n && decide (cntTo p n = i)) = true := fun z => by rw [Bool.and_eq_true] at z; exact q z.1
      rw [ec, if_neg hb, if_neg hb, ih]
theorem okR_nI {n k : Nat} (hn : n < 2 ^ 31) (h : k < n) : okR n (nI k) = true := decide_eq_true ⟨(nI_leI (by decide) (by omega)).mpr (Nat.zero_le k), by
  rw [Int32.lt_iff_toInt_lt, nI_toInt (by omega), nI_toInt hn]
  omega⟩
theorem qFit_r {w : WT} (hw : okW1 w = true) (hL : LN w ≤ 32) (i : Int32) : qFitAt w i = rFitAt w i ∧ tqFit w i = tFit w i := by
  have hF : fitN w = cntTo (wpB w) (LN w) := rfl
  have hc := cntTo_le (wpB w) (LN w)
  unfold qFitAt rFitAt tqFit tFit
  rw [hw, Bool.true_and]
  by_cases h : i < 0
  · have hno : okR (fitN w) i = false := decide_eq_false (fun z => absurd h (Int32.not_lt.mpr z.1))
    rw [if_pos h, if_pos h, hno]
    exact ⟨rfl, rfl⟩
  · rw [if_neg h, if_neg h]
    obtain ⟨i', hi, rfl⟩ := nI_of h
    rw [fdF_ix hi _ (by omega), cl_nI hi]
    by_cases q : i' < cntTo (wpB w) (LN w)
    · have hok : okR (fitN w) (nI i') = true := okR_nI (by omega) (by rw [hF]; exact q)
      rw [if_pos q, hok]
      exact ⟨rfl, rfl⟩
    · have hno : okR (fitN w) (nI i') = false := by
        cases z : okR (fitN w) (nI i') with
        | false => rfl
        | true =>
          obtain ⟨k, e, hk⟩ := okR_of z (by omega)
          rw [nI_eq hi (by omega)] at e
          omega
      rw [if_neg q, hno]
      exact ⟨rfl, rfl⟩
theorem lv1_P {f : Nat → Nat} : ∀ n, lvP f (fun _ => true) n = lv1 f n
  | 0 => rfl
  | n + 1 => by
    simp only [lvP, lv1]
    rw [lv1_P n]
    by_cases q : (lv1 f n).1 = none ∨ f n < (lv1 f n).2
    · rw [if_pos q, if_pos ⟨trivial, q⟩]
    · rw [if_neg q, if_neg (fun z => q z.2)]
theorem lv1_val {f : Nat → Nat} {k : Nat} : ∀ {n : Nat}, (lv1 f n).1 = some k → (lv1 f n).2 = f k
  | 0, h => by cases h
  | n + 1, h => by
    simp only [lv1] at h ⊢
    split at h
    · rename_i q; rw [if_pos q]; cases h; rfl
    · rename_i q; rw [if_neg q]; exact lv1_val h
theorem tsM_l (w : WT) : tsM w = leftF (wgt w) (LN w) := by
  funext k
  unfold tsM leftF
  show (if cntTo (wpB w) (LN w) - liC w k (LN w) < liC w k (LN w) then liC w k (LN w) else cntTo (wpB w) (LN w) - liC w k (LN w)) = max (liC w k (LN w)) (cntTo (wpB w) (LN w) - liC w k (LN w))
  rw [Nat.max_def]
  split <;> split <;> omega
theorem tsV_b (w : WT) : (tsV w (w.1 6)).1 = bestV (wgt w) (w.1 6) (LN w) ∧ (tsV w (w.1 6)).1.map (fun _ => (tsV w (w.1 6)).2) = (bestV (wgt w) (w.1 6) (LN w)).map (leftF (wgt w) (LN w)) := by
  have e : tsV w (w.1 6) = if cntTo (wpB w) (LN w) = 0 then (none, 0) else lv1 (leftF (wgt w) (LN w)) (w.1 6) := by
    unfold tsV
    rw [tsM_l, lv1_P]
  have eb : bestV (wgt w) (w.1 6) (LN w) = if cntTo (wpB w) (LN w) = 0 then none else (lv1 (leftF (wgt w) (LN w)) (w.1 6)).1 := rfl
  rw [e, eb]
  by_cases q : cntTo (wpB w) (LN w) = 0
  · rw [if_pos q, if_pos q]; exact ⟨rfl, rfl⟩
  · rw [if_neg q, if_neg q]
    refine ⟨rfl, ?_⟩
    cases z : (lv1 (leftF (wgt w) (LN w)) (w.1 6)).1 with
    | none => rfl
    | some k => rw [lv1_val z]; rfl
theorem qTest_r (w : WT) : qTest w = rTest w := by
  unfold qTest rTest
  rw [(tsV_b w).1]
theorem qTestLeaves_r (w : WT) : qTestLeaves w = rTestLeaves w := by
  unfold qTestLeaves rTestLeaves
  rw [(tsV_b w).2]
