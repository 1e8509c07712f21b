/-! ===== snaps on both sides are one ===== -/
theorem orTo_fst {p : Nat → Bool} : ∀ n, (fst1 p n).isSome = orTo p n
  | 0 => rfl
  | n + 1 => by
    have ih := orTo_fst (p := p) n
    simp only [fst1, orTo]
    cases q : fst1 p n with
    | some i => rw [q] at ih; rw [← ih]; rfl
    | none =>
      rw [q] at ih
      rw [← ih]
      cases p n <;> rfl
theorem fst1_pad {p : Nat → Bool} {a : Nat} : ∀ b, a ≤ b → (∀ i, a ≤ i → i < b → p i = false) → fst1 p b = fst1 p a
  | 0, h, _ => by rw [show a = 0 by omega]
  | b + 1, h, hp => by
    by_cases e : a = b + 1
    · rw [e]
    · simp only [fst1]
      rw [fst1_pad b (by omega) (fun i h1 h2 => hp i h1 (by omega)), hp b (by omega) (by omega)]
      cases fst1 p a <;> rfl
theorem tg_l {w : WT} {s : Nat → Nat} (hs : okS s) (hw : ofOK w) (hE : enW w s) {a l : Nat} (ha : a < w.1 1) (hl : Sb l (HM w s 0)) (but : Nat) (hb : ∀ t, t < s 1 → but.testBit t = !l.testBit t ∨ (HM w s 0).testBit t = false) : TGw w s 0 a but = rit (e1W w s) (e2W w s) l a (w.1 1 - 1) := by
  refine tg_rit ha hw.1 hs.2.1 (fun t ht => ?_) (fun i _ hi => hE i (HM_bit1 (hl i hi)).1)
  rw [okB_HM hs ht]
  cases q : (HM w s 0).testBit t with
  | false =>
    cases q2 : l.testBit t with
    | false => rfl
    | true => rw [hl t q2] at q; cases q
  | true =>
    rcases hb t (HM_bit1 q).1 with z | z
    · rw [z]; cases l.testBit t <;> rfl
    · rw [q] at z; cases z
theorem zq_z {w : WT} {s : Nat → Nat} (hs : okS s) (hw : ofOK w) (hE : enW w s) {a b l : Nat} (ha : a < w.1 1) (hab : a ≠ b) (hl8 : l < 256) (hl : Sb l (HM w s 0)) : zqW w s a b l = zB (w.1 1) (e1W w s) (e2W w s) (esW w s 0) a b l := by
  have h8 := hs.2.1
  have e := tg_l hs hw hE ha hl ((2 ^ s 1 - 1) &&& (255 ^^^ l)) (fun t ht => Or.inl (by
    rw [Nat.testBit_and, Nat.testBit_two_pow_sub_one, Nat.testBit_xor, show (255 : Nat) = 2 ^ 8 - 1 from rfl, Nat.testBit_two_pow_sub_one, decide_eq_true ht, decide_eq_true (show t < 8 by omega)]
    simp))
  have hb := bear_0 (es := esW w s 0) (b := b) hl8 (fun t q => (HM_bit1 (hl t q)).2) ha hab (fun i _ hi => hE i (HM_bit1 (hl i hi)).1)
  unfold zqW zB
  rw [e]
  cases q : (rit (e1W w s) (e2W w s) l a (w.1 1 - 1)).testBit b with
  | false => rw [decide_eq_true (hb.mpr q)]; rfl
  | true => rw [decide_eq_false (fun z => by rw [hb.mp z] at q; cases q)]; rfl
theorem wq_wn {w : WT} {s : Nat → Nat} (hs : okS s) (hw : ofOK w) (hE : enW w s) {a b : Nat} (ha : a < w.1 1) (hab : a ≠ b) : ∀ (N l : Nat), l < N → l < 256 → Sb l (HM w s 0) → wqW w s a b l = wnW w s a b l
  | 0, l, h, _, _ => absurd h (Nat.not_lt_zero l)
  | N + 1, l, h, h8, hl => by
    have hs8 := hs.2.1
    have hbit : ∀ t, l.testBit t = true → t < s 1 := fun t q => (HM_bit1 (hl t q)).1
    have hx : ∀ t, l.testBit t = true → wqW w s a b (l ^^^ 2 ^ t) = wnW w s a b (l ^^^ 2 ^ t) := fun t q => by
      have hlt := xor_lt q
      refine wq_wn hs hw hE ha hab N _ (by omega) (by omega) (fun j hj => ?_)
      rw [Nat.testBit_xor] at hj
      by_cases e : t = j
      · subst e; exact hl t q
      · rw [Nat.testBit_two_pow_of_ne e, Bool.xor_false] at hj
        exact hl j hj
    rw [wqW_eq, zq_z hs hw hE ha hab h8 hl]
    unfold wnW
    rw [wn_eq, ← orTo_fst]
    congr 2
    rw [fst1_pad 8 hs8 (fun i h1 _ => by
      cases q : l.testBit i with
      | false => rfl
      | true => have := hbit i q; omega)]
    refine fst1_cong (fun t _ => ?_)
    unfold PBw pqW
    cases q : l.testBit t with
    | false => rfl
    | true =>
      rw [hx t q, decide_eq_true (HM_bit1 (hl t q)).2]
      rfl
theorem qSnaps_r {w : WT} {s : Nat → Nat} (hs : okS s) (hw : ofOK w) (hE : enW w s) (a b : Int32) : qSnaps w s a b = rSnaps w s a b := by
  unfold qSnaps rSnaps
  by_cases h : t1 (ok2 w a b) = 0
  · rw [if_pos h, if_pos h]
    obtain ⟨a', b', rfl, rfl, ha, hb, hab⟩ := ok2_of (t1_0 h) hw.1
    have h7 := hw.1
    rw [cl_nI (show a' < 2 ^ 31 by omega), cl_nI (show b' < 2 ^ 31 by omega), HN_HM hs, wq_wn hs hw hE ha hab _ _ (Nat.lt_succ_self _) (HM_lt w s 0) (fun _ z => z)]
  · rw [if_neg h, if_neg h]
theorem qSnapsBy_r {w : WT} {s : Nat → Nat} (hs : okS s) (hw : ofOK w) (hE : enW w s) (a b : Int32) : qSnapsBy w s a b = rSnapsBy w s a b := by
  unfold qSnapsBy rSnapsBy
  by_cases h : t1 (ok2 w a b) = 0
  · rw [if_pos h, if_pos h]
    obtain ⟨a', b', rfl, rfl, ha, hb, hab⟩ := ok2_of (t1_0 h) hw.1
    have h7 := hw.1
    have hH := HM_lt w s 0
    rw [cl_nI (show a' < 2 ^ 31 by omega), cl_nI (show b' < 2 ^ 31 by omega), HN_HM hs, tg_l hs hw hE ha (l := HM w s 0) (fun _ z => z) 0 (fun t _ => by cases (HM w s 0).testBit t <;> simp)]
    have hbr := bear_0 (es := esW w s 0) (b := b') hH (fun t q => (HM_bit1 q).2) ha hab (fun i _ hi => hE i (HM_bit1 hi).1)
    cases q : (rit (e1W w s) (e2W w s) (HM w s 0) a' (w.1 1 - 1)).testBit b' with
    | false =>
      rw [if_neg (by decide)]
      rw [if_pos (show BV w s 0 (HM w s 0) a' b' = 0 from hbr.mpr q)]
    | true =>
      rw [if_pos rfl]
      rw [if_neg (show ¬ BV w s 0 (HM w s 0) a' b' = 0 from fun z => by rw [hbr.mp z] at q; cases q)]
      congr 1
      rw [fst1_pad 8 hs.2.1 (fun i h1 _ => by rw [bit_hi (HM_lt1 hs 0) h1]; rfl)]
      refine fst1_cong (fun t _ => ?_)
      cases y : (HM w s 0).testBit t with
      | false => rfl
      | true =>
        have hlt := xor_lt y
        rw [wq_wn hs hw hE ha hab _ _ (Nat.lt_succ_self _) (by omega) (fun j hj => by
          rw [Nat.testBit_xor] at hj
          by_cases e : t = j
          · subst e; exact y
          · rw [Nat.testBit_two_pow_of_ne e, Bool.xor_false] at hj
            exact hj)]
  · rw [if_neg h, if_neg h]
