/-! ===== webs as they can be told ===== -/
def eOK (n1 n2 J : Nat) (f : Nat → Nat) : Prop := match J with
  | 0 => f 0 ≤ 100 ∧ f 1 ≤ 100
  | 1 => True
  | 2 => f 0 ≤ 3 ∧ f 1 < n1 ∧ f 2 < n1 ∧ f 1 ≠ f 2 ∧ 1 ≤ f 3 ∧ f 3 ≤ 99 ∧ f 4 ≤ 20
  | 3 => f 0 < n2 ∧ f 1 < n2 ∧ f 0 ≠ f 1
  | 4 => f 0 < n1 ∧ f 1 < n1 ∧ f 0 ≠ f 1 ∧ 1 ≤ f 2 ∧ f 2 ≤ 300
  | 5 => f 0 < n1 ∧ f 1 < n1 ∧ f 0 ≠ f 1 ∧ 1 ≤ f 2 ∧ f 2 ≤ 99 ∧ f 3 ≤ 99
  | 6 => f 0 < n2
  | _ => f 0 < n2 ∧ f 1 < n2 ∧ f 2 ≤ 1
theorem eOK.mono {n1 n2 m1 m2 J : Nat} {f : Nat → Nat} (h : eOK n1 n2 J f) (h1 : n1 ≤ m1) (h2 : n2 ≤ m2) : eOK m1 m2 J f := by
  unfold eOK at h ⊢
  split <;> simp only at h ⊢ <;> omega
def nmOK (w : WT) (nm : NT) : Prop := ∀ i, i < nm.1 → (nm.2.2.1 i = 1 ∧ nm.2.2.2 i < w.1 1) ∨ (nm.2.2.1 i = 2 ∧ nm.2.2.2 i < w.1 2)
def nmD (nm : NT) : Prop := ∀ i k, i < nm.1 → k < nm.1 → nm.2.1 i = nm.2.1 k → i = k
def PI (w : WT) (nm : NT) : Prop := (∀ j, j < 8 → w.1 j ≤ roomN j) ∧ nm.1 = w.1 1 + w.1 2 ∧ (∀ J i, J < 8 → i < w.1 J → eOK (w.1 1) (w.1 2) J (w.2 J i) ∧ ∀ c, c < 6 → w.2 J i c < 1000) ∧ nmOK w nm ∧ nmD nm
theorem PI.rooms {w : WT} {nm : NT} (h : PI w nm) : w.1 0 ≤ 1 ∧ w.1 1 ≤ 7 ∧ w.1 2 ≤ 7 ∧ w.1 3 ≤ 8 ∧ w.1 4 ≤ 4 ∧ w.1 5 ≤ 5 ∧ w.1 6 ≤ 5 ∧ w.1 7 ≤ 6 :=
  ⟨h.1 0 (by decide), h.1 1 (by decide), h.1 2 (by decide), h.1 3 (by decide), h.1 4 (by decide), h.1 5 (by decide), h.1 6 (by decide), h.1 7 (by decide)⟩
theorem PI.clOK {w : WT} {nm : NT} (h : PI w nm) : clOK w := fun i hi => by
  have h1 := (h.2.2.1 3 i (by decide) hi).1
  have h2 := h.rooms
  simp only [eOK] at h1
  omega
theorem PI.smW {w : WT} {nm : NT} (h : PI w nm) : smW w := fun j i c hj hi hc => (h.2.2.1 j i hj hi).2 c hc
theorem PI.empty : PI emptyW noN := ⟨fun j hj => Nat.zero_le _, rfl, fun J i _ hi => absurd hi (Nat.not_lt_zero i), fun i hi => absurd hi (Nat.not_lt_zero i), fun i _ hi => absurd hi (Nat.not_lt_zero i)⟩
/-! what steps give -/
theorem bind_inr {r : PR} {f : Nat × List Nat → PR} {y : Nat × List Nat} (h : bindP r f = .inr y) : ∃ x, r = .inr x ∧ f x = .inr y := by
  unfold bindP at h
  split at h
  · cases h
  · exact ⟨_, rfl, h⟩
theorem inv_wd {g : Nat → Nat} {e j : Nat} {x y : Nat × List Nat} (h : sWd g e j x = .inr y) : y.2 = x.2 := by
  unfold sWd at h
  split at h
  · cases h; rfl
  · cases h
theorem inv_wh {g : Nat → Nat} {e lo hi : Nat} {x y : Nat × List Nat} (h : sWh g e lo hi x = .inr y) : ∃ v, y.2 = x.2 ++ [v] ∧ lo ≤ v ∧ v ≤ hi := by
  unfold sWh at h
  split at h
  · split at h
    · rename_i q
      cases h
      exact ⟨_, rfl, q.1, q.2⟩
    · cases h
  · cases h
theorem inv_nm {g : Nat → Nat} {e : Nat} {nm : NT} {j : Nat} {x y : Nat × List Nat} (h : sNm g e nm j x = .inr y) : ∃ k, y.2 = x.2 ++ [k] ∧ ∃ i, i < nm.1 ∧ nm.2.2.1 i = j ∧ nm.2.2.2 i = k := by
  unfold sNm at h
  split at h
  · split at h
    · rename_i k hk
      cases h
      refine ⟨k, rfl, ?_⟩
      unfold nNum at hk
      cases q : fst1 (fun i => decide (nm.2.1 i = tkC g e x.1) && decide (nm.2.2.1 i = j)) nm.1 with
      | none => rw [q] at hk; cases hk
      | some i =>
        rw [q] at hk
        cases hk
        have h1 := fst1_lt q
        simp only [Bool.and_eq_true, decide_eq_true_eq] at h1
        exact ⟨i, h1.1, h1.2.2, rfl⟩
    · cases h
  · cases h
theorem inv_nm1 {w : WT} {nm : NT} (hN : nmOK w nm) {g : Nat → Nat} {e : Nat} {x y : Nat × List Nat} (h : sNm g e nm 1 x = .inr y) : ∃ k, y.2 = x.2 ++ [k] ∧ k < w.1 1 := by
  obtain ⟨k, h1, i, h2, h3, h4⟩ := inv_nm h
  rcases hN i h2 with q | q
  · exact ⟨k, h1, by rw [← h4]; exact q.2⟩
  · omega
theorem inv_nm2 {w : WT} {nm : NT} (hN : nmOK w nm) {g : Nat → Nat} {e : Nat} {x y : Nat × List Nat} (h : sNm g e nm 2 x = .inr y) : ∃ k, y.2 = x.2 ++ [k] ∧ k < w.1 2 := by
  obtain ⟨k, h1, i, h2, h3, h4⟩ := inv_nm h
  rcases hN i h2 with q | q
  · omega
  · exact ⟨k, h1, by rw [← h4]; exact q.2⟩
theorem inv_fr {g : Nat → Nat} {e : Nat} {nm : NT} {x y : Nat × List Nat} (h : sFr g e nm x = .inr y) : y.2 = x.2 ∧ nIdx nm (tkC g e x.1) = none ∧ tkK g e x.1 = 1 := by
  unfold sFr at h
  split at h
  · rename_i hn
    split at h
    · cases h
    · rename_i q
      cases h
      refine ⟨rfl, ?_, ?_⟩
      · cases z : nIdx nm (tkC g e x.1) with
        | none => rfl
        | some i => rw [z] at q; exact absurd rfl q
      · unfold isNm at hn
        simp only [Bool.and_eq_true, decide_eq_true_eq] at hn
        exact hn.1
  · cases h
theorem inv_kd {g : Nat → Nat} {e : Nat} {x y : Nat × List Nat} (h : sKd g e x = .inr y) : ∃ k, y.2 = x.2 ++ [k] ∧ k < 4 := by
  unfold sKd at h
  split at h
  · rename_i k hk
    cases h
    exact ⟨k, rfl, (fst1_lt hk).1⟩
  · cases h
theorem inv_hw {g : Nat → Nat} {e : Nat} {x y : Nat × List Nat} (h : sHw g e x = .inr y) : ∃ k, y.2 = x.2 ++ [k] ∧ k ≤ 1 := by
  unfold sHw at h
  split at h
  · cases h; exact ⟨1, rfl, by decide⟩
  · split at h
    · cases h; exact ⟨0, rfl, by decide⟩
    · cases h
theorem inv_nmc {g : Nat → Nat} {e : Nat} {nm : NT} {j : Nat} {bad : List Nat → Bool} {x y : Nat × List Nat} (h : sNmC g e nm j bad x = .inr y) : sNm g e nm j x = .inr y ∧ bad y.2 = false := by
  unfold sNmC at h
  obtain ⟨u, h1, h2⟩ := bind_inr h
  split at h2
  · cases h2
  · rename_i q
    cases h2
    exact ⟨h1, by simpa using q⟩
def rowOK (w : WT) (j : Nat) (r : List Nat) : Prop := eOK (w.1 1) (w.1 2) j (fun c => r.getD c 0) ∧ ∀ c, r.getD c 0 < 1000
theorem get_lt {r : List Nat} (h : ∀ v ∈ r, v < 1000) (c : Nat) : r.getD c 0 < 1000 := by
  rw [List.getD_eq_getElem?_getD]
  cases q : r[c]? with
  | none => simp
  | some v => exact h v (List.mem_of_getElem? q)
theorem lineB_ok {g : Nat → Nat} {e : Nat} {w : WT} {nm : NT} {j p : Nat} {y : Nat × List Nat} (hP : PI w nm) (hj : j < 8) (h : lineB g e w nm j p = .inr y) : rowOK w j y.2 := by
  have hr := hP.rooms
  have hN := hP.2.2.2.1
  unfold lineB at h
  split at h
  · obtain ⟨x1, h1, h⟩ := bind_inr h
    obtain ⟨x2, h2, h⟩ := bind_inr h
    obtain ⟨x3, h3, h⟩ := bind_inr h
    obtain ⟨a, e2, a1, a2⟩ := inv_wh h2
    obtain ⟨b, e4, b1, b2⟩ := inv_wh h
    rw [e4, inv_wd h3, e2, inv_wd h1]
    refine ⟨?_, get_lt (by simp; omega)⟩
    simp [eOK]
    omega
  · rw [(inv_fr h).1]
    exact ⟨by simp [eOK], get_lt (by simp)⟩
  · obtain ⟨x1, h1, h⟩ := bind_inr h
    obtain ⟨x2, h2, h⟩ := bind_inr h
    obtain ⟨x3, h3, h⟩ := bind_inr h
    obtain ⟨x4, h4, h⟩ := bind_inr h
    obtain ⟨x5, h5, h⟩ := bind_inr h
    obtain ⟨x6, h6, h⟩ := bind_inr h
    obtain ⟨x7, h7, h⟩ := bind_inr h
    obtain ⟨k, e2, k1⟩ := inv_kd h2
    obtain ⟨a, e3, a1⟩ := inv_nm1 hN h3
    obtain ⟨h4, hb⟩ := inv_nmc h4
    obtain ⟨b, e4, b1⟩ := inv_nm1 hN h4
    obtain ⟨s, e6, s1, s2⟩ := inv_wh h6
    obtain ⟨t, e8, t1, t2⟩ := inv_wh h
    rw [e8, inv_wd h7, e6, inv_wd h5]
    rw [e4, e3, e2, (inv_fr h1).1] at hb ⊢
    simp [badU] at hb
    refine ⟨?_, get_lt (by simp; omega)⟩
    simp [eOK]
    omega
  · obtain ⟨x1, h1, h⟩ := bind_inr h
    obtain ⟨a, e1, a1⟩ := inv_nm2 hN h1
    obtain ⟨h, hb⟩ := inv_nmc h
    obtain ⟨b, e2, b1⟩ := inv_nm2 hN h
    rw [e2, e1] at hb ⊢
    simp [badC, badU] at hb
    refine ⟨?_, get_lt (by simp; omega)⟩
    simp [eOK]
    omega
  · obtain ⟨x1, h1, h⟩ := bind_inr h
    obtain ⟨x2, h2, h⟩ := bind_inr h
    obtain ⟨a, e1, a1⟩ := inv_nm1 hN h1
    obtain ⟨h2, hb⟩ := inv_nmc h2
    obtain ⟨b, e2, b1⟩ := inv_nm1 hN h2
    obtain ⟨s, e3, s1, s2⟩ := inv_wh h
    rw [e3]
    rw [e2, e1] at hb ⊢
    simp [badU] at hb
    refine ⟨?_, get_lt (by simp; omega)⟩
    simp [eOK]
    omega
  · obtain ⟨x1, h1, h⟩ := bind_inr h
    obtain ⟨x2, h2, h⟩ := bind_inr h
    obtain ⟨x3, h3, h⟩ := bind_inr h
    obtain ⟨x4, h4, h⟩ := bind_inr h
    obtain ⟨x5, h5, h⟩ := bind_inr h
    obtain ⟨a, e1, a1⟩ := inv_nm1 hN h1
    obtain ⟨h2, hb⟩ := inv_nmc h2
    obtain ⟨b, e2, b1⟩ := inv_nm1 hN h2
    obtain ⟨s, e4, s1, s2⟩ := inv_wh h4
    obtain ⟨t, e6, t1, t2⟩ := inv_wh h
    rw [e6, inv_wd h5, e4, inv_wd h3]
    rw [e2, e1] at hb ⊢
    simp [badU] at hb
    refine ⟨?_, get_lt (by simp; omega)⟩
    simp [eOK]
    omega
  · obtain ⟨h, hb⟩ := inv_nmc h
    obtain ⟨a, e1, a1⟩ := inv_nm2 hN h
    rw [e1]
    refine ⟨?_, get_lt (by simp; omega)⟩
    simp [eOK]
    omega
  · have e7 : j = 7 := by
      rename_i n0 n1 n2 n3 n4 n5 n6
      have m0 : j ≠ 0 := n0
      have m1 : j ≠ 1 := n1
      have m2 : j ≠ 2 := n2
      have m3 : j ≠ 3 := n3
      have m4 : j ≠ 4 := n4
      have m5 : j ≠ 5 := n5
      have m6 : j ≠ 6 := n6
      omega
    subst e7
    obtain ⟨x1, h1, h⟩ := bind_inr h
    obtain ⟨x2, h2, h⟩ := bind_inr h
    obtain ⟨a, e1, a1⟩ := inv_nm2 hN h1
    obtain ⟨b, e2, b1⟩ := inv_nm2 hN h2
    obtain ⟨k, e3, k1⟩ := inv_hw h
    rw [e3, e2, e1]
    refine ⟨?_, get_lt (by simp; omega)⟩
    simp [eOK]
    omega
theorem addW_old {w : WT} {j : Nat} {g : Nat → Nat} {J i c : Nat} (h : ¬ (J = j ∧ i = w.1 j)) : (addW w j g).2 J i c = w.2 J i c := if_neg h
theorem addW_new {w : WT} {j : Nat} {g : Nat → Nat} {c : Nat} : (addW w j g).2 j (w.1 j) c = g c := if_pos ⟨rfl, rfl⟩
theorem addW_cnt {w : WT} {j : Nat} {g : Nat → Nat} (i : Nat) : (addW w j g).1 i = if i = j then w.1 j + 1 else w.1 i := rfl
theorem addW_mono {w : WT} {j : Nat} {g : Nat → Nat} (i : Nat) : w.1 i ≤ (addW w j g).1 i := by
  rw [addW_cnt]
  split
  · rename_i q; rw [q]; omega
  · omega
theorem nIdx_none {nm : NT} {c : Nat} (h : nIdx nm c = none) : ∀ i, i < nm.1 → nm.2.1 i ≠ c := by
  intro i hi e
  have : ∀ n, n ≤ nm.1 → fst1 (fun i => decide (nm.2.1 i = c)) n = none := by
    intro n hn
    cases q : fst1 (fun i => decide (nm.2.1 i = c)) n with
    | none => rfl
    | some k =>
      have h1 := fst1_lt q
      have h2 : fst1 (fun i => decide (nm.2.1 i = c)) k = none := by
        clear h hi e
        obtain ⟨hk, hp⟩ := h1
        clear hn
        induction n with
        | zero => omega
        | succ n ih =>
          simp only [fst1] at q
          split at q
          · rename_i j hj
            cases q
            exact ih hj (fst1_lt hj).1
          · rename_i hn
            split at q
            · cases q; exact hn
            · cases q
      rw [nIdx, fst1_some h2 h1.2 (by omega)] at h
      cases h
  have h2 := this i (by omega)
  rw [nIdx, fst1_some h2 (decide_eq_true e) hi] at h
  cases h
theorem PI.addR {w : WT} {nm nm' : NT} {j : Nat} {r : List Nat} (h : PI w nm) (hj : j < 8) (hr : w.1 j < roomN j) (ho : rowOK w j r)
    (hn : (nm' = nm ∧ j ≠ 1 ∧ j ≠ 2) ∨ (∃ c, nm' = nAdd nm c j (w.1 j) ∧ nIdx nm c = none ∧ (j = 1 ∨ j = 2))) : PI (addW w j (fun c => r.getD c 0)) nm' := by
  obtain ⟨h1, h2, h3, h4, h5⟩ := h
  have m1 := addW_mono (w := w) (j := j) (g := fun c => r.getD c 0) 1
  have m2 := addW_mono (w := w) (j := j) (g := fun c => r.getD c 0) 2
  refine ⟨fun i hi => ?_, ?_, fun J i hJ hi => ?_, ?_, ?_⟩
  · rw [addW_cnt]
    split
    · rename_i q; rw [q]; exact hr
    · exact h1 i hi
  · rcases hn with ⟨rfl, q1, q2⟩ | ⟨c, rfl, -, q⟩
    · rw [addW_cnt, addW_cnt, if_neg (Ne.symm q1), if_neg (Ne.symm q2)]; exact h2
    · rw [addW_cnt, addW_cnt]
      dsimp only [nAdd]
      rcases q with rfl | rfl <;> simp <;> omega
  · by_cases q : J = j ∧ i = w.1 j
    · obtain ⟨rfl, rfl⟩ := q
      have e : (addW w J (fun c => r.getD c 0)).2 J (w.1 J) = fun c => r.getD c 0 := by funext c; exact addW_new
      rw [e]
      exact ⟨ho.1.mono m1 m2, fun c _ => ho.2 c⟩
    · have e : (addW w j (fun c => r.getD c 0)).2 J i = w.2 J i := by funext c; exact addW_old q
      rw [e]
      have hi2 : i < w.1 J := by
        rw [addW_cnt] at hi
        split at hi
        · rename_i z
          rw [z]
          have : i ≠ w.1 j := fun y => q ⟨z, y⟩
          omega
        · exact hi
      obtain ⟨a, b⟩ := h3 J i hJ hi2
      exact ⟨a.mono m1 m2, b⟩
  · rcases hn with ⟨rfl, q1, q2⟩ | ⟨c, rfl, -, q⟩
    · intro i hi
      rcases h4 i hi with ⟨a, b⟩ | ⟨a, b⟩
      · exact Or.inl ⟨a, by omega⟩
      · exact Or.inr ⟨a, by omega⟩
    · intro i hi
      have hi : i < nm.1 + 1 := hi
      dsimp only [nAdd]
      by_cases z : i = nm.1
      · subst z
        rw [updN_at, updN_at]
        rcases q with rfl | rfl
        · exact Or.inl ⟨rfl, by rw [addW_cnt, if_pos rfl]; omega⟩
        · exact Or.inr ⟨rfl, by rw [addW_cnt, if_pos rfl]; omega⟩
      · rw [updN_ne z, updN_ne z]
        rcases h4 i (by omega) with ⟨a, b⟩ | ⟨a, b⟩
        · exact Or.inl ⟨a, by omega⟩
        · exact Or.inr ⟨a, by omega⟩
  · rcases hn with ⟨rfl, q1, q2⟩ | ⟨c, rfl, hc, q⟩
    · exact h5
    · intro i k hi hk e
      have hi : i < nm.1 + 1 := hi
      have hk : k < nm.1 + 1 := hk
      dsimp only [nAdd] at e
      by_cases z : i = nm.1
      · by_cases y : k = nm.1
        · omega
        · rw [z, updN_at, updN_ne y] at e
          exact absurd e.symm (nIdx_none hc k (by omega))
      · by_cases y : k = nm.1
        · rw [y, updN_at, updN_ne z] at e
          exact absurd e (nIdx_none hc i (by omega))
        · rw [updN_ne z, updN_ne y] at e
          exact h5 i k (by omega) (by omega) e
theorem lineB_nm {g : Nat → Nat} {e : Nat} {w : WT} {nm : NT} {j p : Nat} {y : Nat × List Nat} (hj : j = 1 ∨ j = 2) (h : lineB g e w nm j p = .inr y) : nIdx nm (tkC g e p) = none ∧ tkK g e p = 1 := by
  rcases hj with rfl | rfl
  · exact (inv_fr h).2
  · obtain ⟨x1, h1, h⟩ := bind_inr h
    exact (inv_fr h1).2
theorem lineP_PI {g : Nat → Nat} {e : Nat} {w w' : WT} {nm nm' : NT} {p p' : Nat} (hP : PI w nm) (h : lineP g e w nm p = .inr (p', w', nm')) : PI w' nm' := by
  unfold lineP at h
  split at h
  · cases h
  · rename_i j hj
    have hj8 := (fst1_lt hj).1
    split at h
    · cases h
    · split at h
      · cases h
      · rename_i n2
        split at h
        · cases h
        · split at h
          · cases h
          · rename_i x hx
            cases h
            refine hP.addR hj8 (by omega) (lineB_ok hP hj8 hx) ?_
            by_cases q : j = 1 ∨ j = 2
            · exact Or.inr ⟨_, if_pos q, (lineB_nm q hx).1, q⟩
            · exact Or.inl ⟨if_neg q, fun z => q (Or.inl z), fun z => q (Or.inr z)⟩
/-! faults have numbers 1 to 6 -/
def Fb (f : Nat × List Nat → PR) : Prop := ∀ x z, f x = .inl z → 1 ≤ z.1 ∧ z.1 ≤ 6
theorem Fb.bind {f g : Nat × List Nat → PR} (hf : Fb f) (hg : Fb g) : Fb (fun x => bindP (f x) g) := by
  intro x z h
  dsimp only [bindP] at h
  cases hx : f x with
  | inl u => rw [hx] at h; cases h; exact hf x z hx
  | inr u => rw [hx] at h; exact hg u z h
theorem fb_wd (g : Nat → Nat) (e j : Nat) : Fb (sWd g e j) := fun x z h => by
  unfold sWd at h
  split at h <;> cases h
  simp
theorem fb_wh (g : Nat → Nat) (e lo hi : Nat) : Fb (sWh g e lo hi) := fun x z h => by
  unfold sWh at h
  repeat' split at h
  all_goals cases h
  all_goals simp
theorem fb_nm (g : Nat → Nat) (e : Nat) (nm : NT) (j : Nat) : Fb (sNm g e nm j) := fun x z h => by
  unfold sNm at h
  repeat' split at h
  all_goals cases h
  all_goals simp
theorem fb_fr (g : Nat → Nat) (e : Nat) (nm : NT) : Fb (sFr g e nm) := fun x z h => by
  unfold sFr at h
  repeat' split at h
  all_goals cases h
  all_goals simp
theorem fb_kd (g : Nat → Nat) (e : Nat) : Fb (sKd g e) := fun x z h => by
  unfold sKd at h
  split at h <;> cases h
  simp
theorem fb_hw (g : Nat → Nat) (e : Nat) : Fb (sHw g e) := fun x z h => by
  unfold sHw at h
  repeat' split at h
  all_goals cases h
  all_goals simp
theorem fb_nmc (g : Nat → Nat) (e : Nat) (nm : NT) (j : Nat) (bad : List Nat → Bool) : Fb (sNmC g e nm j bad) := by
  have hb : Fb (fun y => (if bad y.2 then .inl (3, 0) else .inr y : PR)) := fun x z h => by
    dsimp only at h
    split at h <;> cases h
    simp
  intro x z h
  unfold sNmC bindP at h
  cases hx : sNm g e nm j x with
  | inl u => rw [hx] at h; cases h; exact fb_nm g e nm j x z hx
  | inr u =>
    rw [hx] at h
    dsimp only at h
    split at h <;> cases h
    simp
theorem fb_line {g : Nat → Nat} {e : Nat} {w : WT} {nm : NT} {j p : Nat} {z : Nat × Nat} (h : lineB g e w nm j p = .inl z) : 1 ≤ z.1 ∧ z.1 ≤ 6 := by
  unfold lineB at h
  split at h
  · exact ((fb_wd g e 8).bind ((fb_wh g e 0 100).bind ((fb_wd g e 9).bind (fb_wh g e 0 100)))) (p, []) z h
  · exact fb_fr g e nm (p, []) z h
  · exact ((fb_fr g e nm).bind ((fb_kd g e).bind ((fb_nm g e nm 1).bind ((fb_nmc g e nm 1 badU).bind ((fb_wd g e 14).bind ((fb_wh g e 1 99).bind ((fb_wd g e 15).bind (fb_wh g e 0 20)))))))) (p, []) z h
  · exact ((fb_nm g e nm 2).bind (fb_nmc g e nm 2 (badC w))) (p, []) z h
  · exact ((fb_nm g e nm 1).bind ((fb_nmc g e nm 1 badU).bind (fb_wh g e 1 300))) (p, []) z h
  · exact ((fb_nm g e nm 1).bind ((fb_nmc g e nm 1 badU).bind ((fb_wd g e 14).bind ((fb_wh g e 1 99).bind ((fb_wd g e 16).bind (fb_wh g e 0 99)))))) (p, []) z h
  · exact fb_nmc g e nm 2 (badQ w) (p, []) z h
  · exact ((fb_nm g e nm 2).bind ((fb_nm g e nm 2).bind (fb_hw g e))) (p, []) z h
theorem fb_lp {g : Nat → Nat} {e : Nat} {w : WT} {nm : NT} {p : Nat} {z : Nat × Nat} (h : lineP g e w nm p = .inl z) : 1 ≤ z.1 ∧ z.1 ≤ 6 := by
  unfold lineP at h
  split at h
  · cases h; simp
  · split at h
    · cases h; simp
    · split at h
      · cases h; simp
      · split at h
        · cases h; simp
        · split at h
          · rename_i u hu
            cases h
            exact fb_line hu
          · cases h
theorem fb_all {g : Nat → Nat} {e : Nat} : ∀ {k p : Nat} {w : WT} {nm : NT} {z : Nat × Nat}, allP g e k p w nm = .inl z → 1 ≤ z.1 ∧ z.1 ≤ 6
  | 0, p, w, nm, z, h => by simp only [allP] at h; cases h; simp
  | k + 1, p, w, nm, z, h => by
    simp only [allP] at h
    split at h
    · rename_i u hu
      cases h
      exact fb_lp hu
    · split at h
      · split at h
        · cases h; simp
        · cases h
      · split at h
        · exact fb_all h
        · cases h; simp
theorem all_PI {g : Nat → Nat} {e : Nat} : ∀ {k p : Nat} {w w' : WT} {nm : NT}, PI w nm → allP g e k p w nm = .inr w' → (∃ nm', PI w' nm') ∧ 0 < w'.1 1
  | 0, p, w, w', nm, _, h => by simp only [allP] at h; cases h
  | k + 1, p, w, w', nm, hP, h => by
    simp only [allP] at h
    split at h
    · cases h
    · rename_i p1 w1 n1 hl
      have hP1 := lineP_PI hP hl
      split at h
      · split at h
        · cases h
        · rename_i q
          cases h
          exact ⟨⟨_, hP1⟩, by omega⟩
      · split at h
        · exact all_PI hP1 h
        · cases h
