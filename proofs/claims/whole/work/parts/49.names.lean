/-! ===== names told: how many, codes, sorts (1 nail, 2 thread), numbers ===== -/
abbrev NT : Type := Nat × (Nat → Nat) × (Nat → Nat) × (Nat → Nat)
def nIdx (nm : NT) (c : Nat) : Option Nat := fst1 (fun i => decide (nm.2.1 i = c)) nm.1
def nNum (nm : NT) (c j : Nat) : Option Nat := (fst1 (fun i => decide (nm.2.1 i = c) && decide (nm.2.2.1 i = j)) nm.1).map nm.2.2.2
def nAdd (nm : NT) (c j k : Nat) : NT := (nm.1 + 1, updN nm.2.1 nm.1 c, updN nm.2.2.1 nm.1 j, updN nm.2.2.2 nm.1 k)
def noN : NT := (0, fun _ => 0, fun _ => 0, fun _ => 0)
def okN (nm : NT) : Prop := nm.1 ≤ 14 ∧ ∀ i, i < nm.1 → nm.2.1 i < 2 ^ 40 ∧ nm.2.2.1 i ≤ 2 ∧ nm.2.2.2 i < 8
theorem okN.add {nm : NT} (h : okN nm) (h14 : nm.1 < 14) {c j k : Nat} (hc : c < 2 ^ 40) (hj : j ≤ 2) (hk : k < 8) : okN (nAdd nm c j k) := by
  refine ⟨h14, fun i hi => ?_⟩
  have hi : i < nm.1 + 1 := hi
  dsimp only [nAdd]
  by_cases q : i = nm.1
  · subst q
    rw [updN_at, updN_at, updN_at]
    exact ⟨hc, hj, hk⟩
  · rw [updN_ne q, updN_ne q, updN_ne q]
    exact h.2 i (by omega)
/-! ===== what stands behind place p ===== -/
def tkW (g : Nat → Nat) (e p j : Nat) : Bool := decide (tkK g e p = 1 ∧ tkC g e p = scode j)
def lnS (g : Nat → Nat) (e p : Nat) : Option Nat := fst1 (tkW g e p) 8
def isNm (g : Nat → Nat) (e p : Nat) : Bool := decide (tkK g e p = 1) && (lnS g e p).isNone
abbrev PR : Type := (Nat × Nat) ⊕ (Nat × List Nat)
def bindP (r : PR) (f : Nat × List Nat → PR) : PR := match r with
  | .inl z => .inl z
  | .inr x => f x
def sWd (g : Nat → Nat) (e j : Nat) (x : Nat × List Nat) : PR := if tkW g e x.1 j then .inr (tkE g e x.1, x.2) else .inl (1, tkS g e x.1)
def sWh (g : Nat → Nat) (e lo hi : Nat) (x : Nat × List Nat) : PR := if tkK g e x.1 = 2 then (if lo ≤ tkV g e x.1 ∧ tkV g e x.1 ≤ hi then .inr (tkE g e x.1, x.2 ++ [tkV g e x.1]) else .inl (4, tkS g e x.1)) else .inl (1, tkS g e x.1)
def sNm (g : Nat → Nat) (e : Nat) (nm : NT) (j : Nat) (x : Nat × List Nat) : PR := if isNm g e x.1 then (match nNum nm (tkC g e x.1) j with
  | some k => .inr (tkE g e x.1, x.2 ++ [k])
  | none => .inl (2, tkS g e x.1)) else .inl (1, tkS g e x.1)
def sFr (g : Nat → Nat) (e : Nat) (nm : NT) (x : Nat × List Nat) : PR := if isNm g e x.1 then (if (nIdx nm (tkC g e x.1)).isSome then .inl (3, tkS g e x.1) else .inr (tkE g e x.1, x.2)) else .inl (1, tkS g e x.1)
def sKd (g : Nat → Nat) (e : Nat) (x : Nat × List Nat) : PR := match fst1 (fun i => tkW g e x.1 (10 + i)) 4 with
  | some k => .inr (tkE g e x.1, x.2 ++ [k])
  | none => .inl (1, tkS g e x.1)
def sHw (g : Nat → Nat) (e : Nat) (x : Nat × List Nat) : PR := if tkW g e x.1 17 then .inr (tkE g e x.1, x.2 ++ [1]) else if tkW g e x.1 18 then .inr (tkE g e x.1, x.2 ++ [0]) else .inl (1, tkS g e x.1)
def sNmC (g : Nat → Nat) (e : Nat) (nm : NT) (j : Nat) (bad : List Nat → Bool) (x : Nat × List Nat) : PR := bindP (sNm g e nm j x) (fun y => if bad y.2 then .inl (3, tkS g e x.1) else .inr y)
def badU (r : List Nat) : Bool := decide (2 ≤ r.length ∧ r.getD (r.length - 1) 0 = r.getD (r.length - 2) 0)
def badC (w : WT) (r : List Nat) : Bool := badU r || (foesTo w (r.getD 0 0) (w.1 3)).testBit (r.getD 1 0)
def badQ (w : WT) (r : List Nat) : Bool := (fst1 (fun k => decide (w.2 6 k 0 = r.getD 0 0)) (w.1 6)).isSome
/-- what stands behind the word with which a line begins -/
def lineB (g : Nat → Nat) (e : Nat) (w : WT) (nm : NT) (j p : Nat) : PR := match j with
  | 0 => bindP (sWd g e 8 (p, [])) (fun x => bindP (sWh g e 0 100 x) (fun x => bindP (sWd g e 9 x) (fun x => sWh g e 0 100 x)))
  | 1 => sFr g e nm (p, [])
  | 2 => bindP (sFr g e nm (p, [])) (fun x => bindP (sKd g e x) (fun x => bindP (sNm g e nm 1 x) (fun x => bindP (sNmC g e nm 1 badU x) (fun x => bindP (sWd g e 14 x) (fun x => bindP (sWh g e 1 99 x) (fun x => bindP (sWd g e 15 x) (fun x => sWh g e 0 20 x)))))))
  | 3 => bindP (sNm g e nm 2 (p, [])) (fun x => sNmC g e nm 2 (badC w) x)
  | 4 => bindP (sNm g e nm 1 (p, [])) (fun x => bindP (sNmC g e nm 1 badU x) (fun x => sWh g e 1 300 x))
  | 5 => bindP (sNm g e nm 1 (p, [])) (fun x => bindP (sNmC g e nm 1 badU x) (fun x => bindP (sWd g e 14 x) (fun x => bindP (sWh g e 1 99 x) (fun x => bindP (sWd g e 16 x) (fun x => sWh g e 0 99 x)))))
  | 6 => sNmC g e nm 2 (badQ w) (p, [])
  | _ => bindP (sNm g e nm 2 (p, [])) (fun x => bindP (sNm g e nm 2 x) (fun x => sHw g e x))
def roomN (j : Nat) : Nat := ([1, 7, 7, 8, 4, 5, 5, 6] : List Nat).getD j 0
def addN (g : Nat → Nat) (e : Nat) (w : WT) (nm : NT) (j p : Nat) : NT := if j = 1 ∨ j = 2 then nAdd nm (tkC g e p) j (w.1 j) else nm
abbrev LRs : Type := (Nat × Nat) ⊕ (Nat × WT × NT)
def lineP (g : Nat → Nat) (e : Nat) (w : WT) (nm : NT) (p : Nat) : LRs := match lnS g e p with
  | none => .inl (1, tkS g e p)
  | some j => if j = 0 ∧ 0 < w.1 0 then .inl (3, tkS g e p) else if roomN j ≤ w.1 j then .inl (5, tkS g e p) else if j ≠ 0 ∧ w.1 0 = 0 then .inl (6, tkS g e p) else match lineB g e w nm j (tkE g e p) with
    | .inl z => .inl z
    | .inr x => .inr (x.1, addW w j (fun c => x.2.getD c 0), addN g e w nm j (tkE g e p))
def allP (g : Nat → Nat) (e : Nat) : Nat → Nat → WT → NT → (Nat × Nat) ⊕ WT
  | 0, _, _, _ => .inl (1, 0)
  | k + 1, p, w, nm => match lineP g e w nm p with
    | .inl z => .inl z
    | .inr (p', w', nm') => if tkK g e p' = 0 then (if w'.1 1 = 0 then .inl (6, tkS g e p') else .inr w') else if tkK g e p' = 3 then allP g e k (tkE g e p') w' nm' else .inl (1, tkS g e p')
/-! facts of tokens -/
theorem tkK_le (g : Nat → Nat) (e p : Nat) : tkK g e p ≤ 4 := by
  unfold tkK
  repeat' split
  all_goals omega
theorem run_all (P : Nat → Bool) : ∀ (k p j : Nat), p ≤ j → j < run P p k → P j = true
  | 0, p, j, h1, h2 => by simp only [run] at h2; omega
  | k + 1, p, j, h1, h2 => by
    simp only [run] at h2
    split at h2
    · rename_i hp
      by_cases q : j = p
      · rw [q]; exact hp
      · exact run_all P k (p + 1) j (by omega) h2
    · omega
theorem tkC_lt {g : Nat → Nat} {e p : Nat} (h : tkK g e p = 1) : tkC g e p < 2 ^ 40 := by
  have hk : lrn g e (tkS g e p) - tkS g e p ≤ 8 := by
    unfold tkK at h
    repeat' split at h
    all_goals first | omega | assumption
  have h1 : tkC g e p < 32 ^ (lrn g e (tkS g e p) - tkS g e p) := wdF_ltn (fun j hj => by
    have := run_all (fun i => isL (g i)) (e - tkS g e p) (tkS g e p) (tkS g e p + j) (by omega) (by unfold lrn at hj; omega)
    have := isL_b this
    omega)
  have h2 : 32 ^ (lrn g e (tkS g e p) - tkS g e p) ≤ 32 ^ 8 := Nat.pow_le_pow_right (by decide) hk
  omega
theorem tkV_lt {g : Nat → Nat} {e p : Nat} (h : tkK g e p = 2) : tkV g e p < 1000 := by
  have hk : drn g e (tkS g e p) - tkS g e p ≤ 3 := by
    unfold tkK at h
    repeat' split at h
    all_goals first | omega | assumption
  have h1 : tkV g e p < 10 ^ (drn g e (tkS g e p) - tkS g e p) := wdF_ltn (fun j hj => by
    have := run_all (fun i => isD (g i)) (e - tkS g e p) (tkS g e p) (tkS g e p + j) (by omega) (by unfold drn at hj; omega)
    have := isD_b this
    omega)
  have h2 : 10 ^ (drn g e (tkS g e p) - tkS g e p) ≤ 10 ^ 3 := Nat.pow_le_pow_right (by decide) hk
  omega
theorem tkE_ge (g : Nat → Nat) (e p : Nat) : p ≤ tkE g e p := by
  have h1 := tkS_ge g e p
  unfold tkE
  repeat' split
  · exact h1
  · exact Nat.le_trans h1 (run_ge _ _ _)
  · exact Nat.le_trans h1 (run_ge _ _ _)
  · omega
theorem tkE_3 {g : Nat → Nat} {e p : Nat} (h : tkK g e p = 3) : p < tkE g e p := by
  have h1 := tkS_ge g e p
  unfold tkK at h
  unfold tkE
  repeat' split at h
  all_goals first
    | omega
    | (rename_i a b c d; rw [if_neg a, if_neg b, if_neg c]; omega)
/-- steps go forward -/
def Mn (e : Nat) (f : Nat × List Nat → PR) : Prop := ∀ x y, f x = .inr y → x.1 ≤ y.1 ∧ (x.1 ≤ e → y.1 ≤ e)
theorem Mn.bind {e : Nat} {f g : Nat × List Nat → PR} (hf : Mn e f) (hg : Mn e g) : Mn e (fun x => bindP (f x) g) := by
  intro x y h
  dsimp only [bindP] at h
  cases hx : f x with
  | inl z => rw [hx] at h; cases h
  | inr u =>
    rw [hx] at h
    have h1 := hf x u hx
    have h2 := hg u y h
    exact ⟨by omega, fun q => h2.2 (h1.2 q)⟩
theorem mn_tk {g : Nat → Nat} {e : Nat} {x y : Nat × List Nat} {r : List Nat} (h : (Sum.inr (tkE g e x.1, r) : PR) = .inr y) : x.1 ≤ y.1 ∧ (x.1 ≤ e → y.1 ≤ e) := by
  cases h
  exact ⟨tkE_ge g e x.1, fun q => tkE_le q⟩
theorem mn_wd (g : Nat → Nat) (e j : Nat) : Mn e (sWd g e j) := fun x y h => by
  unfold sWd at h
  split at h
  · exact mn_tk h
  · cases h
theorem mn_wh (g : Nat → Nat) (e lo hi : Nat) : Mn e (sWh g e lo hi) := fun x y h => by
  unfold sWh at h
  repeat' split at h
  · exact mn_tk h
  · cases h
  · cases h
theorem mn_nm (g : Nat → Nat) (e : Nat) (nm : NT) (j : Nat) : Mn e (sNm g e nm j) := fun x y h => by
  unfold sNm at h
  repeat' split at h
  · exact mn_tk h
  · cases h
  · cases h
theorem mn_fr (g : Nat → Nat) (e : Nat) (nm : NT) : Mn e (sFr g e nm) := fun x y h => by
  unfold sFr at h
  repeat' split at h
  · cases h
  · exact mn_tk h
  · cases h
theorem mn_kd (g : Nat → Nat) (e : Nat) : Mn e (sKd g e) := fun x y h => by
  unfold sKd at h
  split at h
  · exact mn_tk h
  · cases h
theorem mn_hw (g : Nat → Nat) (e : Nat) : Mn e (sHw g e) := fun x y h => by
  unfold sHw at h
  repeat' split at h
  · exact mn_tk h
  · exact mn_tk h
  · cases h
theorem mn_nmc (g : Nat → Nat) (e : Nat) (nm : NT) (j : Nat) (bad : List Nat → Bool) : Mn e (sNmC g e nm j bad) := fun x y h => by
  unfold sNmC bindP at h
  cases hx : sNm g e nm j x with
  | inl z => rw [hx] at h; cases h
  | inr u =>
    rw [hx] at h
    dsimp only at h
    split at h
    · cases h
    · cases h; exact mn_nm g e nm j x _ hx
theorem mn_line {g : Nat → Nat} {e : Nat} {w : WT} {nm : NT} {j p : Nat} {y : Nat × List Nat} (h : lineB g e w nm j p = .inr y) : p ≤ y.1 ∧ (p ≤ e → y.1 ≤ e) := by
  unfold lineB at h
  split at h
  · exact ((mn_wd g e 8).bind ((mn_wh g e 0 100).bind ((mn_wd g e 9).bind (mn_wh g e 0 100)))) (p, []) y h
  · exact mn_fr g e nm (p, []) y h
  · exact ((mn_fr g e nm).bind ((mn_kd g e).bind ((mn_nm g e nm 1).bind ((mn_nmc g e nm 1 badU).bind ((mn_wd g e 14).bind ((mn_wh g e 1 99).bind ((mn_wd g e 15).bind (mn_wh g e 0 20)))))))) (p, []) y h
  · exact ((mn_nm g e nm 2).bind (mn_nmc g e nm 2 (badC w))) (p, []) y h
  · exact ((mn_nm g e nm 1).bind ((mn_nmc g e nm 1 badU).bind (mn_wh g e 1 300))) (p, []) y h
  · exact ((mn_nm g e nm 1).bind ((mn_nmc g e nm 1 badU).bind ((mn_wd g e 14).bind ((mn_wh g e 1 99).bind ((mn_wd g e 16).bind (mn_wh g e 0 99)))))) (p, []) y h
  · exact mn_nmc g e nm 2 (badQ w) (p, []) y h
  · exact ((mn_nm g e nm 2).bind ((mn_nm g e nm 2).bind (mn_hw g e))) (p, []) y h
theorem mn_lp {g : Nat → Nat} {e : Nat} {w w' : WT} {nm nm' : NT} {p p' : Nat} (h : lineP g e w nm p = .inr (p', w', nm')) : p ≤ p' ∧ (p ≤ e → p' ≤ e) := by
  unfold lineP at h
  split at h
  · cases h
  · repeat' split at h
    all_goals first
      | (cases h; done)
      | (rename_i x hx; have h1 := mn_line hx; cases h; have h2 := tkE_ge g e p; exact ⟨by omega, fun q => h1.2 (tkE_le q)⟩)
/-! ===== Names ===== -/
def RepN (nm : NT) (A : AH) : Prop := okN nm ∧ A.1 2 3 = nI nm.1 ∧ ∀ i, i < nm.1 → A.2 3 i = lN (nm.2.1 i) ∧ A.1 4 i = nI (nm.2.2.1 i) ∧ A.1 5 i = nI (nm.2.2.2 i)
theorem RepN.cong {nm : NT} {A A' : AH} (h : RepN nm A) (h2 : A'.1 2 = A.1 2) (h3 : A'.2 3 = A.2 3) (h4 : A'.1 4 = A.1 4) (h5 : A'.1 5 = A.1 5) : RepN nm A' := ⟨h.1, by rw [h2]; exact h.2.1, fun i hi => by rw [h3, h4, h5]; exact h.2.2 i hi⟩
set_option maxRecDepth 4000 in
theorem c_X3_clear {K : Option Value → AH → Prop} {A : AH} (h : ∀ A', RepN noN A' → OffL [2] A A' → K none A') : Ct yX3_clear mX3_clear 0 dC gC [.ref 2] A K := by
  refine Ct.of [some (.ref 2)] rfl rfl rfl (Nat.le_of_ble_eq_true rfl) ?_
  refine w_aload_n 1 dX3_clear_0 rfl rfl ?_
  refine w_iconst 2 dX3_clear_1 rfl (v := nI 0) rfl ?_
  refine w_puti 5 dX3_clear_2 rfl faX3_22 rfl rfl rfl rfl ?_
  refine wr_v dX3_clear_5 rfl ?_
  exact h _ ⟨⟨by decide, fun i hi => absurd hi (Nat.not_lt_zero i)⟩, (by dsimp only; rw [upd2_at]; rfl), fun i hi => absurd hi (Nat.not_lt_zero i)⟩ (OffL.rf.upd (by decide) _ _)

set_option maxRecDepth 4000 in
theorem c_X3_isTold {K : Option Value → AH → Prop} {A : AH} {nm : NT} {c : Nat} (hN : RepN nm A) (hc : c < 2 ^ 40) (h : K (some (.int (b2i (nIdx nm c).isSome))) A) : Ct yX3_isTold mX3_isTold 0 dC gC [.ref 2, .long (lN c)] A K := by
  refine Ct.of [some (.ref 2), some (.long (lN c)), none, none] rfl rfl rfl (Nat.le_of_ble_eq_true rfl) ?_
  obtain ⟨⟨n14, nOK⟩, nC, nE⟩ := id hN
  have lp2 : ∀ (nf : Nat) (i : Nat), i ≤ nm.1 → fst1 (fun i => decide (nm.2.1 i = c)) i = none → nm.1 - i < nf → WP mX3_isTold 0 dC gC 2 [some (.ref 2), some (.long (lN c)), none, some (.int (nI i))] [] A K := by
    intro nf
    induction nf with
    | zero => intros; omega
    | succ nf ih =>
      intro i hi hf hms
      refine w_iload_n 3 dX3_isTold_2 rfl rfl ?_
      refine w_aload_n 4 dX3_isTold_3 rfl rfl ?_
      refine w_getiv 7 dX3_isTold_4 rfl faX3_22 rfl rfl rfl nC ?_
      refine w_icgeN 29 10 dX3_isTold_7 rfl rfl (by omega) (by omega) (fun c7 => ?_) (fun c7 => ?_)
      · skip
        refine w_iconst 30 dX3_isTold_29 rfl (v := nI 0) rfl ?_
        refine wr_z dX3_isTold_30 rfl (by first | rfl | exact nb_b2i _) ?_
        have e : i = nm.1 := by omega
        subst e
        exact kq h (by rw [nIdx, hf]; rfl)
      · skip
        refine w_aload_n 11 dX3_isTold_10 rfl rfl ?_
        refine w_getr 14 dX3_isTold_11 rfl faX3_11 rfl rfl rfl (r := .ref 3) rfl ?_
        refine w_iload_n 15 dX3_isTold_14 rfl rfl ?_
        refine w_laldv 16 dX3_isTold_15 rfl rfl rfl (by decide) (by omega) (v := lN (nm.2.1 i)) (nE i (by omega)).1 ?_
        refine w_lload_n 17 dX3_isTold_16 rfl rfl ?_
        refine w_lcmp 18 dX3_isTold_17 rfl ?_
        refine w_ifneL 23 21 dX3_isTold_18 rfl rfl (by have := (nOK i (by omega)).1; omega) (by omega) (fun c18 => ?_) (fun c18 => ?_)
        · skip
          refine w_inc3 26 dX3_isTold_23 rfl (by decide) rfl (v := nI (_ + 1)) (nI_1 _) ?_
          refine w_goto 2 dX3_isTold_26 rfl ?_
          exact ih (i + 1) (by omega) (by simp [fst1, hf, c18]) (by omega)
        · skip
          refine w_iconst 22 dX3_isTold_21 rfl (v := nI 1) rfl ?_
          refine wr_z dX3_isTold_22 rfl (by first | rfl | exact nb_b2i _) ?_
          exact kq h (by rw [nIdx, fst1_some hf (decide_eq_true c18) c7]; rfl)
  refine w_iconst 1 dX3_isTold_0 rfl (v := nI 0) rfl ?_
  refine w_ist3 2 dX3_isTold_1 rfl (by decide) rfl ?_
  exact lp2 _ 0 (Nat.zero_le _) rfl (Nat.lt_succ_self _)

set_option maxRecDepth 4000 in
theorem c_X3_numberOf {K : Option Value → AH → Prop} {A : AH} {nm : NT} {c j : Nat} (hN : RepN nm A) (hc : c < 2 ^ 40) (hj : j ≤ 2) (h : K (some (.int (encO (nNum nm c j)))) A) : Ct yX3_numberOf mX3_numberOf 0 dC gC [.ref 2, .long (lN c), .int (nI j)] A K := by
  refine Ct.of [some (.ref 2), some (.long (lN c)), none, some (.int (nI j)), none] rfl rfl rfl (Nat.le_of_ble_eq_true rfl) ?_
  obtain ⟨⟨n14, nOK⟩, nC, nE⟩ := id hN
  have lp3 : ∀ (nf : Nat) (i : Nat), i ≤ nm.1 → fst1 (fun i => decide (nm.2.1 i = c) && decide (nm.2.2.1 i = j)) i = none → nm.1 - i < nf → WP mX3_numberOf 0 dC gC 3 [some (.ref 2), some (.long (lN c)), none, some (.int (nI j)), some (.int (nI i))] [] A K := by
    intro nf
    induction nf with
    | zero => intros; omega
    | succ nf ih =>
      intro i hi hf hms
      refine w_iload 5 dX3_numberOf_3 rfl rfl ?_
      refine w_aload_n 6 dX3_numberOf_5 rfl rfl ?_
      refine w_getiv 9 dX3_numberOf_6 rfl faX3_22 rfl rfl rfl nC ?_
      refine w_icgeN 49 12 dX3_numberOf_9 rfl rfl (by omega) (by omega) (fun c9 => ?_) (fun c9 => ?_)
      · skip
        refine w_iconst 50 dX3_numberOf_49 rfl (v := (-1)) rfl ?_
        refine wr_i dX3_numberOf_50 rfl ?_
        have e : i = nm.1 := by omega
        subst e
        exact kq h (by rw [nNum, hf]; rfl)
      · skip
        refine w_aload_n 13 dX3_numberOf_12 rfl rfl ?_
        refine w_getr 16 dX3_numberOf_13 rfl faX3_11 rfl rfl rfl (r := .ref 3) rfl ?_
        refine w_iload 18 dX3_numberOf_16 rfl rfl ?_
        refine w_laldv 19 dX3_numberOf_18 rfl rfl rfl (by decide) (by omega) (v := lN (nm.2.1 i)) (nE i (by omega)).1 ?_
        refine w_lload_n 20 dX3_numberOf_19 rfl rfl ?_
        refine w_lcmp 21 dX3_numberOf_20 rfl ?_
        refine w_ifneL 43 24 dX3_numberOf_21 rfl rfl (by have := (nOK i (by omega)).1; omega) (by omega) (fun c21 => ?_) (fun c21 => ?_)
        · skip
          refine w_inc4 46 dX3_numberOf_43 rfl (by decide) rfl (v := nI (_ + 1)) (nI_1 _) ?_
          refine w_goto 3 dX3_numberOf_46 rfl ?_
          exact ih (i + 1) (by omega) (by simp [fst1, hf, c21]) (by omega)
        · skip
          refine w_aload_n 25 dX3_numberOf_24 rfl rfl ?_
          refine w_getr 28 dX3_numberOf_25 rfl faX3_15 rfl rfl rfl (r := .ref 4) rfl ?_
          refine w_iload 30 dX3_numberOf_28 rfl rfl ?_
          refine w_ialdv 31 dX3_numberOf_30 rfl rfl rfl (by decide) (by omega) (v := nI (nm.2.2.1 i)) (nE i (by omega)).2.1 ?_
          refine w_iload_n 32 dX3_numberOf_31 rfl rfl ?_
          refine w_icneN 43 35 dX3_numberOf_32 rfl rfl (by have := (nOK i (by omega)).2.1; omega) (by omega) (fun c32 => ?_) (fun c32 => ?_)
          · skip
            refine w_inc4 46 dX3_numberOf_43 rfl (by decide) rfl (v := nI (_ + 1)) (nI_1 _) ?_
            refine w_goto 3 dX3_numberOf_46 rfl ?_
            exact ih (i + 1) (by omega) (by simp [fst1, hf, c32]) (by omega)
          · skip
            refine w_aload_n 36 dX3_numberOf_35 rfl rfl ?_
            refine w_getr 39 dX3_numberOf_36 rfl faX3_19 rfl rfl rfl (r := .ref 5) rfl ?_
            refine w_iload 41 dX3_numberOf_39 rfl rfl ?_
            refine w_ialdv 42 dX3_numberOf_41 rfl rfl rfl (by decide) (by omega) (v := nI (nm.2.2.2 i)) (nE i (by omega)).2.2 ?_
            refine wr_i dX3_numberOf_42 rfl ?_
            exact kq h (by rw [nNum, fst1_some hf (by rw [decide_eq_true c21, decide_eq_true c32]; rfl) c9]; rfl)
  refine w_iconst 1 dX3_numberOf_0 rfl (v := nI 0) rfl ?_
  refine w_ist4 3 dX3_numberOf_1 rfl (by decide) rfl ?_
  exact lp3 _ 0 (Nat.zero_le _) rfl (Nat.lt_succ_self _)

set_option maxRecDepth 4000 in
theorem c_X3_add {K : Option Value → AH → Prop} {A : AH} {nm : NT} {c j k : Nat} (hN : RepN nm A) (h14 : nm.1 < 14) (hc : c < 2 ^ 40) (hj : j ≤ 2) (hk : k < 8) (h : ∀ A', RepN (nAdd nm c j k) A' → OffL [2, 3, 4, 5] A A' → K none A') : Ct yX3_add mX3_add 0 dC gC [.ref 2, .long (lN c), .int (nI j), .int (nI k)] A K := by
  refine Ct.of [some (.ref 2), some (.long (lN c)), none, some (.int (nI j)), some (.int (nI k))] rfl rfl rfl (Nat.le_of_ble_eq_true rfl) ?_
  obtain ⟨⟨n14, nOK⟩, nC, nE⟩ := id hN
  refine w_aload_n 1 dX3_add_0 rfl rfl ?_
  refine w_getiv 4 dX3_add_1 rfl faX3_22 rfl rfl rfl nC ?_
  refine w_bipush 6 dX3_add_4 rfl (v := nI 14) rfl ?_
  refine w_icgeN 50 9 dX3_add_6 rfl rfl (by omega) (by omega) (fun c6 => (by omega)) (fun c6 => ?_)
  refine w_aload_n 10 dX3_add_9 rfl rfl ?_
  refine w_getr 13 dX3_add_10 rfl faX3_11 rfl rfl rfl (r := .ref 3) rfl ?_
  refine w_aload_n 14 dX3_add_13 rfl rfl ?_
  refine w_getiv 17 dX3_add_14 rfl faX3_22 rfl rfl rfl (v := nI nm.1) nC ?_
  refine w_lload_n 18 dX3_add_17 rfl rfl ?_
  refine w_lastN 19 dX3_add_18 rfl rfl rfl (by decide) (by omega) ?_
  refine w_aload_n 20 dX3_add_19 rfl rfl ?_
  refine w_getr 23 dX3_add_20 rfl faX3_15 rfl rfl rfl (r := .ref 4) rfl ?_
  refine w_aload_n 24 dX3_add_23 rfl rfl ?_
  refine w_getiv 27 dX3_add_24 rfl faX3_22 rfl rfl rfl (v := nI nm.1) nC ?_
  refine w_iload_n 28 dX3_add_27 rfl rfl ?_
  refine w_iastN 29 dX3_add_28 rfl rfl rfl (by decide) (by omega) ?_
  refine w_aload_n 30 dX3_add_29 rfl rfl ?_
  refine w_getr 33 dX3_add_30 rfl faX3_19 rfl rfl rfl (r := .ref 5) rfl ?_
  refine w_aload_n 34 dX3_add_33 rfl rfl ?_
  refine w_getiv 37 dX3_add_34 rfl faX3_22 rfl rfl rfl (v := nI nm.1) (by dsimp only; rw [upd2_ne (by decide)]; exact nC) ?_
  refine w_iload 39 dX3_add_37 rfl rfl ?_
  refine w_iastN 40 dX3_add_39 rfl rfl rfl (by decide) (by omega) ?_
  refine w_aload_n 41 dX3_add_40 rfl rfl ?_
  refine w_dup_r 42 dX3_add_41 rfl ?_
  refine w_getiv 45 dX3_add_42 rfl faX3_22 rfl rfl rfl (v := nI nm.1) (by dsimp only; rw [upd2_ne (by decide), upd2_ne (by decide)]; exact nC) ?_
  refine w_iconst 46 dX3_add_45 rfl (v := nI 1) rfl ?_
  refine w_iaddN 47 dX3_add_46 rfl ?_
  refine w_puti 50 dX3_add_47 rfl faX3_22 rfl rfl rfl rfl ?_
  refine wr_v dX3_add_50 rfl ?_
  refine h _ ⟨hN.1.add h14 hc hj hk, (by dsimp only; rw [upd2_at]; rfl), fun i hi => ?_⟩ ?_
  · have hi : i < nm.1 + 1 := hi
    by_cases q : i = nm.1
    · subst q
      simp [upd2, updN, nAdd]
    · have := nE i (by omega)
      simp [upd2, updN, nAdd, q]
      exact this
  · intro x hx
    simp only [List.mem_cons, List.not_mem_nil, or_false, not_or] at hx
    obtain ⟨h1, h2, h3, h4⟩ := hx
    dsimp only
    rw [upd2_ne h1, upd2_ne h4, upd2_ne h3, upd2_ne h2]
    exact ⟨rfl, rfl⟩

