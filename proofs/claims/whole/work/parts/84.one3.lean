/-! ===== answers on both sides are one (3): offers ===== -/
theorem sumTo_add (f : Nat → Nat) (a : Nat) : ∀ b, sumTo f (a + b) = sumTo f a + sumTo (fun k => f (a + k)) b
  | 0 => rfl
  | b + 1 => by
    rw [← Nat.add_assoc]
    simp only [sumTo]
    rw [sumTo_add f a b, Nat.add_assoc]
def ofT (w : WT) (o sd k : Nat) : Nat := if o.testBit k && (sd.testBit (w.2 5 k 0) != sd.testBit (w.2 5 k 1)) then w.2 5 k 2 else 0
theorem crs_s {f1 f2 fs : Nat → Nat} {sd ne a b c : Nat} : crs (updN f1 ne a) (updN f2 ne b) (updN fs ne c) sd 0 (ne + 1) = crs f1 f2 fs sd 0 ne + (if sd.testBit a != sd.testBit b then c else 0) := by
  unfold crs
  simp only [sumTo]
  have h1 : sumTo (fun e => if crB (updN f1 ne a) (updN f2 ne b) sd e && !(0 : Nat).testBit e then updN fs ne c e else 0) ne = sumTo (fun e => if crB f1 f2 sd e && !(0 : Nat).testBit e then fs e else 0) ne := sumTo_cong (fun i hi => by
    unfold crB
    rw [updN_ne (by omega), updN_ne (by omega), updN_ne (by omega)])
  rw [h1]
  unfold crB
  rw [updN_at, updN_at, updN_at]
  simp
theorem crs_of {w : WT} {o sd : Nat} {y : EY} : ∀ k, crs (ofY w o y k).2.1 (ofY w o y k).2.2.1 (ofY w o y k).2.2.2 sd 0 (ofY w o y k).1 = crs y.2.1 y.2.2.1 y.2.2.2 sd 0 y.1 + sumTo (ofT w o sd) k
  | 0 => rfl
  | k + 1 => by
    have ih := crs_of (w := w) (o := o) (sd := sd) (y := y) k
    simp only [ofY, sumTo]
    cases q : o.testBit k with
    | false =>
      have e : ofT w o sd k = 0 := by unfold ofT; rw [q]; rfl
      rw [e, Nat.add_zero]
      exact ih
    | true =>
      have e : ofT w o sd k = if sd.testBit (w.2 5 k 0) != sd.testBit (w.2 5 k 1) then w.2 5 k 2 else 0 := by unfold ofT; rw [q, Bool.true_and]
      rw [e]
      show crs (updN _ _ _) (updN _ _ _) (updN _ _ _) sd 0 ((ofY w o y k).1 + 1) = _
      rw [crs_s, ih, Nat.add_assoc]
theorem bit256 {H o i : Nat} : (H ||| o * 256).testBit i = (H.testBit i || (decide (8 ≤ i) && o.testBit (i - 8))) := by
  rw [Nat.testBit_or, show o * 256 = o <<< 8 from (Nat.shiftLeft_eq o 8).symm, Nat.testBit_shiftLeft]
theorem crs_o {w : WT} {s : Nat → Nat} (hs : okS s) (h5 : w.1 5 ≤ 5) {o : Nat} (sd : Nat) : crs (yW w s o).2.1 (yW w s o).2.2.1 (yW w s o).2.2.2 sd 0 (yW w s o).1 = bearF (e1W w s) (e2W w s) (esW w s 0) (HM w s 0 ||| o * 256) sd := by
  have h8 := hs.2.1
  have hH := HM_lt w s 0
  have e0 : crs (yW w s o).2.1 (yW w s o).2.2.1 (yW w s o).2.2.2 sd 0 (yW w s o).1 = crs (e1W w s) (e2W w s) (esW w s 0) sd 0 (s 1) + sumTo (ofT w o sd) (w.1 5) := crs_of (w.1 5)
  rw [e0]
  unfold bearF sumB
  rw [sumTo_add _ 8 5]
  have hb : ∀ i, i < 13 → (acr (e1W w s) (e2W w s) sd 13 &&& (HM w s 0 ||| o * 256)).testBit i = (crB (e1W w s) (e2W w s) sd i && ((HM w s 0).testBit i || (decide (8 ≤ i) && o.testBit (i - 8)))) := fun i hi => by
    rw [Nat.testBit_and, bit256]
    unfold acr crB
    rw [testBit_maskTo, decide_eq_true hi, Bool.true_and]
  congr 1
  · rw [sumTo_pad h8 (fun i h1 h2 => by rw [esW_0 h1 h2]; simp)]
    unfold crs
    refine sumTo_cong (fun i hi => ?_)
    rw [hb i (by omega), decide_eq_false (show ¬ 8 ≤ i by omega), Bool.false_and, Bool.or_false]
    cases q : (HM w s 0).testBit i with
    | true => simp
    | false => rw [HM_es hs hi q]; simp
  · rw [sumTo_pad (a := w.1 5) h5 (fun i h1 h2 => by
      have e : esW w s 0 (8 + i) = 0 := by
        unfold esW
        rw [if_neg (by omega), show 8 + i - 8 = i by omega, tbz, if_neg (by omega)]
      rw [e]; simp)]
    refine sumTo_cong (fun i hi => ?_)
    rw [hb (8 + i) (by omega), bit_hi (n := 8) hH (by omega), Bool.false_or, decide_eq_true (show 8 ≤ 8 + i by omega), Bool.true_and, show 8 + i - 8 = i by omega]
    have e1 : e1W w s (8 + i) = w.2 5 i 0 := by unfold e1W; rw [if_neg (by omega), show 8 + i - 8 = i by omega, tbz, if_pos hi]
    have e2 : e2W w s (8 + i) = w.2 5 i 1 := by unfold e2W; rw [if_neg (by omega), show 8 + i - 8 = i by omega, tbz, if_pos hi]
    have e3 : esW w s 0 (8 + i) = w.2 5 i 2 := by unfold esW; rw [if_neg (by omega), show 8 + i - 8 = i by omega, tbz, if_pos hi]
    unfold ofT crB
    rw [e1, e2, e3, Bool.and_comm]
theorem ldO_M {w : WT} {nm : NT} {s : Nat → Nat} (hP : PI w nm) (hs : okS s) (hw : ofOK w) (o : Nat) : ldO w s o = ldM w s 0 (HM w s 0 ||| o * 256) := by
  have h5 := hP.1 5 (by decide)
  have hr : roomN 5 = 5 := rfl
  refine maskTo_cong (fun k hk => ?_)
  have he := (hP.2.2.1 4 k (by decide) hk).1
  simp only [eOK] at he
  have e : ldQ w (yW w s o).1 (yW w s o).2.1 (yW w s o).2.2.1 (yW w s o).2.2.2 k = ldF w s 0 (HM w s 0 ||| o * 256) k := least_bear (okW hs hw 0) (fun sd => crs_o hs (by omega) sd) he.1 he.2.2.1
  rw [e]
theorem qBestOffer_r {w : WT} {nm : NT} {s : Nat → Nat} (hP : PI w nm) (hs : okS s) (hw : ofOK w) : qBestOffer w s = rBestOffer w s := by
  unfold qBestOffer rBestOffer
  have e : (fun k => popc (ldO w s (2 ^ k))) = bofF w s := by
    funext k
    unfold bofF
    rw [ldO_M hP hs hw]
  rw [e, ldW_M hP hs hw]
theorem full_pop : ∀ {k m : Nat}, k ≤ 4 → m < 2 ^ k → (popc m = k ↔ m = 2 ^ k - 1) := by
  have h : ∀ k : Fin 5, ∀ m : Fin 16, m.val < 2 ^ k.val → (popc m.val = k.val ↔ m.val = 2 ^ k.val - 1) := by decide +kernel
  intro k m hk hm
  have h16 : 2 ^ k ≤ 2 ^ 4 := Nat.pow_le_pow_right (by decide) hk
  exact h ⟨k, by omega⟩ ⟨m, by omega⟩ hm
theorem mq_lv {w : WT} {nm : NT} {s : Nat → Nat} (hP : PI w nm) (hs : okS s) (hw : ofOK w) : ∀ o, mqB w s o = (lvP (costF w) (okM w s) o).1 ∧ (∀ b, (lvP (costF w) (okM w s) o).1 = some b → (lvP (costF w) (okM w s) o).2 = costF w b)
  | 0 => ⟨rfl, fun b h => by cases h⟩
  | o + 1 => by
    obtain ⟨i1, i2⟩ := mq_lv hP hs hw o
    have h4 := hP.1 4 (by decide)
    have hr : roomN 4 = 4 := rfl
    have hok : decide (popc (ldO w s o) = w.1 4) = okM w s o := by
      unfold okM
      rw [ldO_M hP hs hw]
      congr 1
      exact propext (full_pop (by omega) (maskTo_lt _ _))
    simp only [mqB, lvP]
    rw [hok, i1]
    cases q : (lvP (costF w) (okM w s) o).1 with
    | none =>
      simp only [lsO, Bool.true_and, true_or, and_true]
      by_cases z : okM w s o = true
      · rw [if_pos z, if_pos z]
        exact ⟨rfl, fun b h => by cases h; rfl⟩
      · rw [if_neg z, if_neg z, q]
        exact ⟨rfl, fun b h => by cases h⟩
    | some b =>
      have e := i2 b q
      have hd : (okM w s o = true ∧ (some b = none ∨ costF w o < (lvP (costF w) (okM w s) o).2)) ↔ (lsO (costF w) o (some b) && okM w s o) = true := by
        rw [e, Bool.and_eq_true]
        simp only [lsO, decide_eq_true_eq]
        constructor
        · intro z; exact ⟨z.2.elim (fun u => by cases u) id, z.1⟩
        · intro z; exact ⟨z.2, Or.inr z.1⟩
      by_cases z : (lsO (costF w) o (some b) && okM w s o) = true
      · rw [if_pos z, if_pos (hd.mpr z)]
        exact ⟨rfl, fun b h => by cases h; rfl⟩
      · rw [if_neg z, if_neg (fun u => z (hd.mp u)), q]
        exact ⟨rfl, fun b' h => by cases h; exact e⟩
theorem qMend_r {w : WT} {nm : NT} {s : Nat → Nat} (hP : PI w nm) (hs : okS s) (hw : ofOK w) : qMend w s = rMend w s := by
  unfold qMend rMend mndV
  rw [(mq_lv hP hs hw _).1]
theorem qMendCost_r {w : WT} {nm : NT} {s : Nat → Nat} (hP : PI w nm) (hs : okS s) (hw : ofOK w) : qMendCost w s = rMendCost w s := by
  unfold qMendCost rMendCost mndV
  rw [(mq_lv hP hs hw _).1]
