/-! ===== bearing on both sides is one ===== -/
theorem sumTo_pad {f : Nat → Nat} {a : Nat} : ∀ {b : Nat}, a ≤ b → (∀ i, a ≤ i → i < b → f i = 0) → sumTo f b = sumTo f a
  | 0, h, _ => by rw [show a = 0 by omega]
  | b + 1, h, hp => by
    by_cases e : a = b + 1
    · rw [e]
    · simp only [sumTo, hp b (by omega) (by omega), Nat.add_zero]
      exact sumTo_pad (by omega) (fun i h1 h2 => hp i h1 (by omega))
theorem prodTo_pad {f : Nat → Nat} {a : Nat} : ∀ {b : Nat}, a ≤ b → (∀ i, a ≤ i → i < b → f i = 1) → prodTo f b = prodTo f a
  | 0, h, _ => by rw [show a = 0 by omega]
  | b + 1, h, hp => by
    by_cases e : a = b + 1
    · rw [e]
    · simp only [prodTo, hp b (by omega) (by omega), Nat.mul_one]
      exact prodTo_pad (by omega) (fun i h1 h2 => hp i h1 (by omega))
theorem bearF_crs {e1 e2 es : Nat → Nat} {m but ne : Nat} (hne : ne ≤ 13) (h : ∀ i, i < 13 → (if m.testBit i then es i else 0) = (if i < ne ∧ but.testBit i = false then es i else 0)) (sd : Nat) : crs e1 e2 es sd but ne = bearF e1 e2 es m sd := by
  have h1 : sumTo (fun e => if (e < ne ∧ but.testBit e = false) then (if crB e1 e2 sd e then es e else 0) else 0) 13 = crs e1 e2 es sd but ne := by
    rw [sumTo_pad hne (fun i h1 _ => if_neg (fun z => by omega))]
    refine sumTo_cong (fun i hi => ?_)
    cases crB e1 e2 sd i <;> cases but.testBit i <;> simp [hi]
  rw [← h1]
  unfold bearF sumB
  refine sumTo_cong (fun i hi => ?_)
  have h2 := h i hi
  have h3 : (acr e1 e2 sd 13 &&& m).testBit i = (crB e1 e2 sd i && m.testBit i) := by
    rw [Nat.testBit_and]
    unfold acr crB
    rw [testBit_maskTo, decide_eq_true hi, Bool.true_and]
  rw [h3]
  cases q : crB e1 e2 sd i
  · simp
  · simp only [Bool.true_and, if_true]
    rw [h2]
theorem leastF_mo {f : Nat → Nat} {p : Nat → Bool} (hf : ∀ s, f s < 99999) : ∀ n, leastF f p n = (mo f p n).getD 99999
  | 0 => rfl
  | n + 1 => by
    have ih := leastF_mo (p := p) hf n
    have hn := hf n
    simp only [leastF, mo]
    rw [ih]
    by_cases q : p n = true
    · cases e : mo f p n with
      | none => simp [q, hn]
      | some v =>
        simp only [q, if_true, Option.getD]
        by_cases z : f n < v
        · rw [if_pos ⟨trivial, z⟩, if_pos z]
        · rw [if_neg (fun y => z y.2), if_neg z]
    · simp [q]
theorem mo_some {f : Nat → Nat} {p : Nat → Bool} {k : Nat} (hp : p k = true) : ∀ {n : Nat}, k < n → ∃ v, mo f p n = some v
  | 0, h => absurd h (Nat.not_lt_zero k)
  | n + 1, h => by
    simp only [mo]
    by_cases q : p n = true
    · rw [if_pos q]
      cases mo f p n with
      | none => exact ⟨_, rfl⟩
      | some v => exact ⟨_, rfl⟩
    · rw [if_neg q]
      by_cases e : k = n
      · subst e; exact absurd hp q
      · exact mo_some hp (by omega)
theorem side_a {a b : Nat} (hab : a ≠ b) : sideP a b (2 ^ a) = true := by
  unfold sideP
  rw [Nat.testBit_two_pow_self, Nat.testBit_two_pow_of_ne hab]
  rfl
/-- one min-cut, told in both ways -/
theorem least_bear {e1 e2 es g : Nat → Nat} {m nn a b : Nat} (hok : okE e1 e2 es) (hg : ∀ sd, g sd = bearF e1 e2 es m sd) (ha : a < nn) (hab : a ≠ b) : leastF g (sideP a b) (2 ^ nn) = bearV nn e1 e2 es m a b := by
  have hgf : g = bearF e1 e2 es m := funext hg
  rw [hgf, leastF_mo (fun s => Nat.lt_of_le_of_lt (bearF_le hok m s) (by decide))]
  obtain ⟨v, hv⟩ := mo_some (f := bearF e1 e2 es m) (side_a hab) (Nat.pow_lt_pow_right (by decide) ha : 2 ^ a < 2 ^ nn)
  unfold bearV
  rw [hv]
  rfl
theorem LB_BV {w : WT} {s : Nat → Nat} (hs : okS s) (hw : ofOK w) {n a b but m : Nat} (ha : a < w.1 1) (hab : a ≠ b) (hm : ∀ i, i < 13 → (if m.testBit i then esW w s n i else 0) = (if i < s 1 ∧ but.testBit i = false then esW w s n i else 0)) : LB w s n but a b = BV w s n m a b :=
  least_bear (okW hs hw n) (fun sd => bearF_crs (by have := hs.2.1; omega) hm sd) ha hab
theorem HM_bit {w : WT} {s : Nat → Nat} {n i : Nat} : (HM w s n).testBit i = (decide (i < 8) && decide (0 < esW w s n i)) := testBit_maskTo _ _ _
theorem HM_bit1 {w : WT} {s : Nat → Nat} {n i : Nat} (h : (HM w s n).testBit i = true) : i < s 1 ∧ 0 < esW w s n i := by
  rw [HM_bit] at h
  simp only [Bool.and_eq_true, decide_eq_true_eq] at h
  refine ⟨Decidable.byContradiction (fun z => ?_), h.2⟩
  rw [esW_0 (by omega) h.1] at h
  omega
theorem HM_es {w : WT} {s : Nat → Nat} {n i : Nat} (hs : okS s) (hi : i < s 1) (h : (HM w s n).testBit i = false) : esW w s n i = 0 := by
  have h8 := hs.2.1
  rw [HM_bit, decide_eq_true (show i < 8 by omega), Bool.true_and] at h
  have := of_decide_eq_false h
  omega
theorem LB_x {w : WT} {s : Nat → Nat} (hs : okS s) (hw : ofOK w) {n a b but : Nat} (ha : a < w.1 1) (hab : a ≠ b) (hb : ∀ i, but.testBit i = true → (HM w s n).testBit i = true) : LB w s n but a b = BV w s n (HM w s n ^^^ but) a b := by
  refine LB_BV hs hw ha hab (fun i hi => ?_)
  rw [Nat.testBit_xor]
  by_cases hH : (HM w s n).testBit i = true
  · obtain ⟨h1, h2⟩ := HM_bit1 hH
    rw [hH]
    cases but.testBit i <;> simp [h1]
  · have hf : but.testBit i = false := by
      cases q : but.testBit i with
      | false => rfl
      | true => exact absurd (hb i q) hH
    have hH : (HM w s n).testBit i = false := by simpa using hH
    rw [hH, hf]
    by_cases h1 : i < s 1
    · rw [HM_es hs h1 hH]; simp
    · simp [h1]
theorem LB_0 {w : WT} {s : Nat → Nat} (hs : okS s) (hw : ofOK w) {n a b : Nat} (ha : a < w.1 1) (hab : a ≠ b) : LB w s n 0 a b = BV w s n (HM w s n) a b := by
  rw [LB_x hs hw ha hab (fun i hi => by simp at hi), Nat.xor_zero]
theorem sumTo_0 (f : Nat → Nat) : ∀ n, sumTo f (n + 1) = f 0 + sumTo (fun i => f (i + 1)) n
  | 0 => by simp [sumTo]
  | n + 1 => by
    have := sumTo_0 f n
    simp only [sumTo] at this ⊢
    omega
theorem sumTo_rev (f : Nat → Nat) : ∀ n, sumTo (fun i => f (n - i)) (n + 1) = sumTo f (n + 1)
  | 0 => rfl
  | n + 1 => by
    rw [sumTo_0]
    have h1 : sumTo (fun i => f (n + 1 - (i + 1))) (n + 1) = sumTo (fun i => f (n - i)) (n + 1) := sumTo_cong (fun i hi => by rw [show n + 1 - (i + 1) = n - i by omega])
    rw [h1, sumTo_rev f n]
    simp only [sumTo, Nat.sub_zero]
    omega
theorem sub_all : ((List.range 256).all fun H => (List.range 256).all fun l => !subM l H || (decide ((H ^^^ l) + l = H) && subM (H ^^^ l) H)) = true := by decide +kernel
theorem sub_x {l H : Nat} (hl : l < 256) (hH : H < 256) (h : subM l H = true) : (H ^^^ l) + l = H ∧ subM (H ^^^ l) H = true := by
  have h1 := List.all_eq_true.mp (List.all_eq_true.mp sub_all H (List.mem_range.mpr hH)) l (List.mem_range.mpr hl)
  rw [h, Bool.not_true, Bool.false_or, Bool.and_eq_true] at h1
  exact ⟨of_decide_eq_true h1.1, h1.2⟩
/-- a sum over the parts of H, told from what stays and from what is gone -/
theorem sum_flip {f g : Nat → Nat} {H : Nat} (hH : H < 256) (h : ∀ l, l < 256 → subM l H = true → f l = g (H ^^^ l)) (h0 : ∀ l, subM l H = false → f l = 0) (h1 : ∀ l, subM l H = false → g l = 0) : sumTo f (H + 1) = sumTo g (H + 1) := by
  rw [← sumTo_rev g H]
  refine sumTo_cong (fun l hl => ?_)
  cases q : subM l H with
  | true =>
    have hx := (sub_x (by omega) hH q).1
    rw [h l (by omega) q, show H - l = H ^^^ l by omega]
  | false =>
    rw [h0 l q, h1]
    cases q2 : subM (H - l) H with
    | false => rfl
    | true =>
      obtain ⟨x1, x2⟩ := sub_x (l := H - l) (by omega) hH q2
      rw [show H ^^^ (H - l) = l by omega, q] at x2
      cases x2
def ptF (c H l n : Nat) : Nat := prodTo (fun e => if H.testBit e then (if l.testBit e then c else 100 - c) else 1) n
def whF (H n : Nat) : Nat := prodTo (fun e => if H.testBit e then 100 else 1) n
theorem bit_hi {H n i : Nat} (h : H < 2 ^ n) (hi : n ≤ i) : H.testBit i = false := Nat.testBit_lt_two_pow (Nat.lt_of_lt_of_le h (Nat.pow_le_pow_right (by decide) hi))
theorem ptF_ch {c H l n : Nat} (hH : H < 2 ^ n) (hn : n ≤ 8) (hl : l < 256) (hs : subM l H = true) : ptF c H l n = chF c H (H ^^^ l) := by
  have h256 : H < 256 := Nat.lt_of_lt_of_le hH (show 2 ^ n ≤ 2 ^ 8 from Nat.pow_le_pow_right (by decide) hn)
  have hx := (sub_x hl h256 hs).2
  have hlt : H ^^^ l < 256 := Nat.xor_lt_two_pow (n := 8) h256 hl
  have e1 : ptF c H l n = ptF c H l 8 := (prodTo_pad hn (fun i h1 _ => by rw [bit_hi hH h1]; rfl)).symm
  rw [e1]
  show _ = (100 - c) ^ cntTo (fun i => (H ^^^ l).testBit i) 8 * c ^ cntTo (fun i => (H &&& (255 ^^^ (H ^^^ l))).testBit i) 8
  rw [← gTerm ((subM_iff hlt).mp hx) (Nat.le_refl 8)]
  refine prodTo_cong (fun i hi => ?_)
  have hb := (subM_iff hl).mp hs i
  unfold gT
  rw [Nat.testBit_xor]
  cases q1 : H.testBit i <;> cases q2 : l.testBit i <;> simp [q1, q2] at hb ⊢
theorem whF_cnt (H : Nat) : ∀ n, whF H n = 100 ^ cntTo (fun i => H.testBit i) n
  | 0 => rfl
  | n + 1 => by
    have ih := whF_cnt H n
    unfold whF at ih ⊢
    simp only [prodTo, cntTo]
    rw [ih]
    split
    · rw [Nat.pow_succ]
    · rw [Nat.mul_one]
theorem whF_pop {H n : Nat} (hH : H < 2 ^ n) (hn : n ≤ 8) : whF H n = 100 ^ popc H := by
  have e1 : whF H n = whF H 8 := (prodTo_pad hn (fun i h1 _ => by rw [bit_hi hH h1]; rfl)).symm
  rw [e1, whF_cnt]
  rfl
theorem ptF_le {c H l : Nat} (hc : c ≤ 100) (n : Nat) : ptF c H l n ≤ 100 ^ n := prodTo_le (fun i => by split; split; all_goals omega) n
def boQ (w : WT) (s : Nat → Nat) (a b m l : Nat) : Nat := if subM l (HM w s 0) then (if m ≤ LB w s 0 l a b then ptF (tbz w 0 0 1) (HM w s 0) l (s 1) else 0) else 0
def meQ (w : WT) (s : Nat → Nat) (a b l : Nat) : Nat := if subM l (HM w s 0) then ptF (tbz w 0 0 1) (HM w s 0) l (s 1) * LB w s 0 l a b else 0
theorem boQ_sum {w : WT} {s : Nat → Nat} (hs : okS s) (hw : ofOK w) {a b m : Nat} (ha : a < w.1 1) (hab : a ≠ b) : sumTo (boQ w s a b m) (HM w s 0 + 1) = sumTo (boF w s a b m) (HM w s 0 + 1) := by
  refine sum_flip (HM_lt w s 0) (fun l hl hq => ?_) (fun l hq => by unfold boQ; rw [hq]; rfl) (fun l hq => by unfold boF; rw [hq]; rfl)
  have hx := (sub_x hl (HM_lt w s 0) hq).2
  unfold boQ boF
  rw [hq, hx, if_pos rfl, if_pos rfl, LB_x hs hw ha hab ((subM_iff hl).mp hq), ptF_ch (HM_lt1 hs 0) hs.2.1 hl hq]
  split
  · rw [Nat.one_mul]
  · rw [Nat.zero_mul]
theorem meQ_sum {w : WT} {s : Nat → Nat} (hs : okS s) (hw : ofOK w) {a b : Nat} (ha : a < w.1 1) (hab : a ≠ b) : sumTo (meQ w s a b) (HM w s 0 + 1) = sumTo (meF w s a b) (HM w s 0 + 1) := by
  refine sum_flip (HM_lt w s 0) (fun l hl hq => ?_) (fun l hq => by unfold meQ; rw [hq]; rfl) (fun l hq => by unfold meF; rw [hq]; rfl)
  have hx := (sub_x hl (HM_lt w s 0) hq).2
  unfold meQ meF
  rw [hq, hx, if_pos rfl, if_pos rfl, LB_x hs hw ha hab ((subM_iff hl).mp hq), ptF_ch (HM_lt1 hs 0) hs.2.1 hl hq, Nat.mul_comm]
