/-- fewer locals known -/
def lle : List (Option Value) → List (Option Value) → Prop
  | [], [] => True
  | a :: l, b :: l' => (b = none ∨ a = b) ∧ lle l l'
  | _, _ => False
theorem lle_at : ∀ {L L' : List (Option Value)}, lle L L' → ∀ (k : Nat) (v : Value), L'[k]? = some (some v) → L[k]? = some (some v)
  | [], [], _, k, v, h => h
  | a :: l, b :: l', hl, k, v, h => by
    obtain ⟨h1, h2⟩ := hl
    rcases k with _ | k
    · simp only [List.getElem?_cons_zero, Option.some.injEq] at h ⊢
      rcases h1 with h1 | h1
      · rw [h1] at h; cases h
      · rw [h1]; exact h
    · simp only [List.getElem?_cons_succ] at h ⊢
      exact lle_at h2 k v h
  | [], _ :: _, hl, _, _, _ => hl.elim
  | _ :: _, [], hl, _, _, _ => hl.elim
theorem wp_to {M : MI} {d : Nat} {dm : Nat × Nat} {G : Nat → Nat → Value} {pc : Nat} {L L' : List (Option Value)} {S S' : List Value} {A A' : AH} {K : Option Value → AH → Prop} (hL : lle L L') (hS : S = S') (hA : A = A') (h : WP M d dm G pc L' S' A' K) : WP M d dm G pc L S A K := by
  subst hS; subst hA
  intro p l e R s m args below meth c D aC ρ H locs ls B ce sl Qc hB hQ0 hR0 X hf hl hW hS hE hv
  exact h p l e R s m args below meth c D aC ρ H locs ls B ce sl Qc hB hQ0 hR0 X hf hl hW hS hE ⟨hv.1, hv.2.1, fun k v hk => hv.2.2 k v (lle_at hL k v hk)⟩
/-! ===== a web as told: how many lines of each sort, their entries ===== -/
abbrev WT : Type := (Nat → Nat) × (Nat → Nat → Nat → Nat)
def RepT (w : WT) (b : Nat) (A : AH) : Prop := ∀ j, j < 8 → RepB (w.1 j) (w.2 j) (b + 1 + 2 * j) A
def tbz (w : WT) (j i c : Nat) : Nat := if i < w.1 j then w.2 j i c else 0
/-- all entries are small -/
def smW (w : WT) : Prop := ∀ j i c, j < 8 → i < w.1 j → c < 6 → w.2 j i c < 1000
theorem tbz_lt {w : WT} (h : smW w) {j i c : Nat} (hj : j < 8) (hc : c < 6) : tbz w j i c < 1000 := by
  unfold tbz
  split
  · exact h j i c hj (by assumption) hc
  · decide
def clashB (w : WT) (m i : Nat) : Bool := m.testBit (w.2 3 i 0) && m.testBit (w.2 3 i 1)
def foesTo (w : WT) (t : Nat) : Nat → Nat
  | 0 => 0
  | i + 1 => foesTo w t i ||| (if w.2 3 i 0 = t then 2 ^ (w.2 3 i 1) else if w.2 3 i 1 = t then 2 ^ (w.2 3 i 0) else 0)
/-- clashing threads are numbers below 8 -/
def clOK (w : WT) : Prop := ∀ i, i < w.1 3 → w.2 3 i 0 < 8 ∧ w.2 3 i 1 < 8
set_option maxRecDepth 4000 in
theorem c_X10_of_9 {K : Option Value → AH → Prop} {A : AH} {j : Nat} (hj : j < 8) (h : K (some (.ref (9 + 1 + 2 * j))) A) : Ct yX10_of mX10_of 0 dC gC [.ref 9, .int (nI j)] A K := by
  refine Ct.of [some (.ref 9), some (.int (nI j))] rfl rfl rfl (Nat.le_of_ble_eq_true rfl) ?_
  refine w_iload_n 1 dX10_of_0 rfl rfl ?_
  rcases j with _ | _ | _ | _ | _ | _ | _ | _ | j
  rotate_left 8
  · omega
  · skip
    skip
    refine w_tabOut 79 dX10_of_1 (by decide) rfl ?_
    refine w_aload_n 80 dX10_of_79 rfl rfl ?_
    refine w_getr 83 dX10_of_80 rfl faX10_12 rfl rfl rfl (r := .ref 10) rfl ?_
    refine wr_a dX10_of_83 rfl (Or.inl ⟨_, rfl⟩) ?_
    exact h
  · skip
    skip
    refine w_tabIn 44 dX10_of_1 (by decide) (by decide) rfl rfl ?_
    refine w_aload_n 45 dX10_of_44 rfl rfl ?_
    refine w_getr 48 dX10_of_45 rfl faX10_18 rfl rfl rfl (r := .ref 12) rfl ?_
    refine wr_a dX10_of_48 rfl (Or.inl ⟨_, rfl⟩) ?_
    exact h
  · skip
    skip
    refine w_tabIn 49 dX10_of_1 (by decide) (by decide) rfl rfl ?_
    refine w_aload_n 50 dX10_of_49 rfl rfl ?_
    refine w_getr 53 dX10_of_50 rfl faX10_21 rfl rfl rfl (r := .ref 14) rfl ?_
    refine wr_a dX10_of_53 rfl (Or.inl ⟨_, rfl⟩) ?_
    exact h
  · skip
    skip
    refine w_tabIn 54 dX10_of_1 (by decide) (by decide) rfl rfl ?_
    refine w_aload_n 55 dX10_of_54 rfl rfl ?_
    refine w_getr 58 dX10_of_55 rfl faX10_24 rfl rfl rfl (r := .ref 16) rfl ?_
    refine wr_a dX10_of_58 rfl (Or.inl ⟨_, rfl⟩) ?_
    exact h
  · skip
    skip
    refine w_tabIn 59 dX10_of_1 (by decide) (by decide) rfl rfl ?_
    refine w_aload_n 60 dX10_of_59 rfl rfl ?_
    refine w_getr 63 dX10_of_60 rfl faX10_27 rfl rfl rfl (r := .ref 18) rfl ?_
    refine wr_a dX10_of_63 rfl (Or.inl ⟨_, rfl⟩) ?_
    exact h
  · skip
    skip
    refine w_tabIn 64 dX10_of_1 (by decide) (by decide) rfl rfl ?_
    refine w_aload_n 65 dX10_of_64 rfl rfl ?_
    refine w_getr 68 dX10_of_65 rfl faX10_30 rfl rfl rfl (r := .ref 20) rfl ?_
    refine wr_a dX10_of_68 rfl (Or.inl ⟨_, rfl⟩) ?_
    exact h
  · skip
    skip
    refine w_tabIn 69 dX10_of_1 (by decide) (by decide) rfl rfl ?_
    refine w_aload_n 70 dX10_of_69 rfl rfl ?_
    refine w_getr 73 dX10_of_70 rfl faX10_33 rfl rfl rfl (r := .ref 22) rfl ?_
    refine wr_a dX10_of_73 rfl (Or.inl ⟨_, rfl⟩) ?_
    exact h
  · skip
    skip
    refine w_tabIn 74 dX10_of_1 (by decide) (by decide) rfl rfl ?_
    refine w_aload_n 75 dX10_of_74 rfl rfl ?_
    refine w_getr 78 dX10_of_75 rfl faX10_36 rfl rfl rfl (r := .ref 24) rfl ?_
    refine wr_a dX10_of_78 rfl (Or.inl ⟨_, rfl⟩) ?_
    exact h

set_option maxRecDepth 4000 in
theorem c_X10_howMany_9 {K : Option Value → AH → Prop} {A : AH} {w : WT} {j : Nat} (hT : RepT w 9 A) (hj : j < 8) (h : K (some (.int (nI (w.1 j)))) A) : Ct yX10_howMany mX10_howMany 1 dC gC [.ref 9, .int (nI j)] A K := by
  refine Ct.of [some (.ref 9), some (.int (nI j))] rfl rfl rfl (Nat.le_of_ble_eq_true rfl) ?_
  refine w_aload_n 1 dX10_howMany_0 rfl rfl ?_
  refine w_iload_n 2 dX10_howMany_1 rfl rfl ?_
  refine w_inv1 5 dX10_howMany_2 rfl mlX10_39 rfl rfl (d' := 0) (by decide) (Nat.le_of_ble_eq_true rfl) (c_X10_of_9 hj ?_)
  refine w_getiv 8 dX10_howMany_5 rfl faX10_43 (tabOK_of (Or.inl rfl) hj).1 (tabOK_of (Or.inl rfl) hj).2.2.1 rfl (hT j hj).1 ?_
  refine wr_i dX10_howMany_8 rfl ?_
  exact h

set_option maxRecDepth 4000 in
theorem c_X10_cell_9 {K : Option Value → AH → Prop} {A : AH} {w : WT} {j i c : Nat} (hT : RepT w 9 A) (hj : j < 8) (hi : i < 2 ^ 31) (hc : c < 6) (h : K (some (.int (nI (tbz w j i c)))) A) : Ct yX10_cell mX10_cell 1 dC gC [.ref 9, .int (nI j), .int (nI i), .int (nI c)] A K := by
  refine Ct.of [some (.ref 9), some (.int (nI j)), some (.int (nI i)), some (.int (nI c))] rfl rfl rfl (Nat.le_of_ble_eq_true rfl) ?_
  refine w_aload_n 1 dX10_cell_0 rfl rfl ?_
  refine w_iload_n 2 dX10_cell_1 rfl rfl ?_
  refine w_inv1 5 dX10_cell_2 rfl mlX10_39 rfl rfl (d' := 0) (by decide) (Nat.le_of_ble_eq_true rfl) (c_X10_of_9 hj ?_)
  refine w_iload_n 6 dX10_cell_5 rfl rfl ?_
  refine w_iload_n 7 dX10_cell_6 rfl rfl ?_
  refine w_inv2 10 dX10_cell_7 rfl mlX10_55 (tabOK_of (Or.inl rfl) hj).1 (tabOK_of (Or.inl rfl) hj).2.2.1 (d' := 0) (by decide) (Nat.le_of_ble_eq_true rfl) (c_X8_cellN (tabOK_of (Or.inl rfl) hj) (hT j hj) hi hc ?_)
  refine wr_i dX10_cell_10 rfl ?_
  exact h

set_option maxRecDepth 4000 in
theorem c_X10_slipsInHundred_9 {K : Option Value → AH → Prop} {A : AH} {w : WT} (hT : RepT w 9 A) (h : K (some (.int (nI (tbz w 0 0 0)))) A) : Ct yX10_slipsInHundred mX10_slipsInHundred 1 dC gC [.ref 9] A K := by
  refine Ct.of [some (.ref 9)] rfl rfl rfl (Nat.le_of_ble_eq_true rfl) ?_
  refine w_aload_n 1 dX10_slipsInHundred_0 rfl rfl ?_
  refine w_getr 4 dX10_slipsInHundred_1 rfl faX10_12 rfl rfl rfl (r := .ref 10) rfl ?_
  refine w_iconst 5 dX10_slipsInHundred_4 rfl (v := nI 0) rfl ?_
  refine w_iconst 6 dX10_slipsInHundred_5 rfl (v := nI 0) rfl ?_
  refine w_inv2 9 dX10_slipsInHundred_6 rfl mlX10_55 rfl rfl (d' := 0) (by decide) (Nat.le_of_ble_eq_true rfl) (c_X8_cellN (tabOK_of (Or.inl rfl) (j := 0) (by decide)) (hT 0 (by decide)) (by decide) (by decide) ?_)
  refine wr_i dX10_slipsInHundred_9 rfl ?_
  exact h

set_option maxRecDepth 4000 in
theorem c_X10_clerksInHundred_9 {K : Option Value → AH → Prop} {A : AH} {w : WT} (hT : RepT w 9 A) (h : K (some (.int (nI (tbz w 0 0 1)))) A) : Ct yX10_clerksInHundred mX10_clerksInHundred 1 dC gC [.ref 9] A K := by
  refine Ct.of [some (.ref 9)] rfl rfl rfl (Nat.le_of_ble_eq_true rfl) ?_
  refine w_aload_n 1 dX10_clerksInHundred_0 rfl rfl ?_
  refine w_getr 4 dX10_clerksInHundred_1 rfl faX10_12 rfl rfl rfl (r := .ref 10) rfl ?_
  refine w_iconst 5 dX10_clerksInHundred_4 rfl (v := nI 0) rfl ?_
  refine w_iconst 6 dX10_clerksInHundred_5 rfl (v := nI 1) rfl ?_
  refine w_inv2 9 dX10_clerksInHundred_6 rfl mlX10_55 rfl rfl (d' := 0) (by decide) (Nat.le_of_ble_eq_true rfl) (c_X8_cellN (tabOK_of (Or.inl rfl) (j := 0) (by decide)) (hT 0 (by decide)) (by decide) (by decide) ?_)
  refine wr_i dX10_clerksInHundred_9 rfl ?_
  exact h

set_option maxRecDepth 4000 in
theorem c_X10_isLied_9 {K : Option Value → AH → Prop} {A : AH} {w : WT} {t : Nat} (hT : RepT w 9 A) (hs : smW w) (ht : t < 2 ^ 31) (h : K (some (.int (b2i (decide (tbz w 2 t 0 = 3))))) A) : Ct yX10_isLied mX10_isLied 1 dC gC [.ref 9, .int (nI t)] A K := by
  refine Ct.of [some (.ref 9), some (.int (nI t))] rfl rfl rfl (Nat.le_of_ble_eq_true rfl) ?_
  refine w_aload_n 1 dX10_isLied_0 rfl rfl ?_
  refine w_getr 4 dX10_isLied_1 rfl faX10_21 rfl rfl rfl (r := .ref 14) rfl ?_
  refine w_iload_n 5 dX10_isLied_4 rfl rfl ?_
  refine w_iconst 6 dX10_isLied_5 rfl (v := nI 0) rfl ?_
  refine w_inv2 9 dX10_isLied_6 rfl mlX10_55 rfl rfl (d' := 0) (by decide) (Nat.le_of_ble_eq_true rfl) (c_X8_cellN (tabOK_of (Or.inl rfl) (j := 2) (by decide)) (hT 2 (by decide)) ht (by decide) ?_)
  refine w_iconst 10 dX10_isLied_9 rfl (v := nI 3) rfl ?_
  refine w_icneN 17 13 dX10_isLied_10 rfl rfl (show tbz w 2 t 0 < 2 ^ 31 from Nat.lt_trans (tbz_lt hs (by decide) (by decide)) (by decide)) (by omega) (fun c10 => ?_) (fun c10 => ?_)
  · skip
    refine w_iconst 18 dX10_isLied_17 rfl (v := nI 0) rfl ?_
    refine wr_z dX10_isLied_18 rfl (by first | rfl | exact nb_b2i _) ?_
    exact kq h (by clear h; simp_all [b2i, nI_0, nI_one, tbz])
  · skip
    refine w_iconst 14 dX10_isLied_13 rfl (v := nI 1) rfl ?_
    refine w_goto 18 dX10_isLied_14 rfl ?_
    refine wr_z dX10_isLied_18 rfl (by first | rfl | exact nb_b2i _) ?_
    exact kq h (by clear h; simp_all [b2i, nI_0, nI_one, tbz])

set_option maxRecDepth 4000 in
theorem c_X10_isToldBrown_9 {K : Option Value → AH → Prop} {A : AH} {w : WT} {t : Nat} (hT : RepT w 9 A) (hs : smW w) (ht : t < 2 ^ 31) (h : K (some (.int (b2i (decide (tbz w 7 t 2 = 1))))) A) : Ct yX10_isToldBrown mX10_isToldBrown 1 dC gC [.ref 9, .int (nI t)] A K := by
  refine Ct.of [some (.ref 9), some (.int (nI t))] rfl rfl rfl (Nat.le_of_ble_eq_true rfl) ?_
  refine w_aload_n 1 dX10_isToldBrown_0 rfl rfl ?_
  refine w_getr 4 dX10_isToldBrown_1 rfl faX10_36 rfl rfl rfl (r := .ref 24) rfl ?_
  refine w_iload_n 5 dX10_isToldBrown_4 rfl rfl ?_
  refine w_iconst 6 dX10_isToldBrown_5 rfl (v := nI 2) rfl ?_
  refine w_inv2 9 dX10_isToldBrown_6 rfl mlX10_55 rfl rfl (d' := 0) (by decide) (Nat.le_of_ble_eq_true rfl) (c_X8_cellN (tabOK_of (Or.inl rfl) (j := 7) (by decide)) (hT 7 (by decide)) ht (by decide) ?_)
  refine w_iconst 10 dX10_isToldBrown_9 rfl (v := nI 1) rfl ?_
  refine w_icneN 17 13 dX10_isToldBrown_10 rfl rfl (show tbz w 7 t 2 < 2 ^ 31 from Nat.lt_trans (tbz_lt hs (by decide) (by decide)) (by decide)) (by omega) (fun c10 => ?_) (fun c10 => ?_)
  · skip
    refine w_iconst 18 dX10_isToldBrown_17 rfl (v := nI 0) rfl ?_
    refine wr_z dX10_isToldBrown_18 rfl (by first | rfl | exact nb_b2i _) ?_
    exact kq h (by clear h; simp_all [b2i, nI_0, nI_one, tbz])
  · skip
    refine w_iconst 14 dX10_isToldBrown_13 rfl (v := nI 1) rfl ?_
    refine w_goto 18 dX10_isToldBrown_14 rfl ?_
    refine wr_z dX10_isToldBrown_18 rfl (by first | rfl | exact nb_b2i _) ?_
    exact kq h (by clear h; simp_all [b2i, nI_0, nI_one, tbz])

set_option maxRecDepth 4000 in
theorem c_X10_clashesAmong_9 {K : Option Value → AH → Prop} {A : AH} {w : WT} {m : Nat} (hT : RepT w 9 A) (hc : clOK w) (hm : m < 2 ^ 31) (h : K (some (.int (nI (cntTo (clashB w m) (w.1 3))))) A) : Ct yX10_clashesAmong mX10_clashesAmong 1 dC gC [.ref 9, .int (nI m)] A K := by
  refine Ct.of [some (.ref 9), some (.int (nI m)), none, none] rfl rfl rfl (Nat.le_of_ble_eq_true rfl) ?_
  have h8 := (hT 3 (by decide)).2.1
  have hn3 : A.1 16 1 = nI (w.1 3) := (hT 3 (by decide)).1
  have lp4 : ∀ (n : Nat) (i : Nat), i ≤ w.1 3 → w.1 3 - i < n → WP mX10_clashesAmong 1 dC gC 4 [some (.ref 9), some (.int (nI m)), some (.int (nI (cntTo (clashB w m) i))), some (.int (nI i))] [] A K := by
    intro n
    induction n with
    | zero => intros; omega
    | succ n ih =>
      intro i hi hms
      refine w_iload_n 5 dX10_clashesAmong_4 rfl rfl ?_
      refine w_aload_n 6 dX10_clashesAmong_5 rfl rfl ?_
      refine w_getr 9 dX10_clashesAmong_6 rfl faX10_24 rfl rfl rfl (r := .ref 16) rfl ?_
      refine w_getiv 12 dX10_clashesAmong_9 rfl faX10_43 rfl rfl rfl hn3 ?_
      refine w_icgeN 56 15 dX10_clashesAmong_12 rfl rfl (by omega) (by omega) (fun c12 => ?_) (fun c12 => ?_)
      · skip
        have e : i = w.1 3 := by omega
        subst e
        refine w_iload_n 57 dX10_clashesAmong_56 rfl rfl ?_
        refine wr_i dX10_clashesAmong_57 rfl ?_
        exact h
      · skip
        obtain ⟨k0, k1⟩ := hc i (by omega)
        refine w_iload_n 16 dX10_clashesAmong_15 rfl rfl ?_
        refine w_aload_n 17 dX10_clashesAmong_16 rfl rfl ?_
        refine w_getr 20 dX10_clashesAmong_17 rfl faX10_24 rfl rfl rfl (r := .ref 16) rfl ?_
        refine w_iload_n 21 dX10_clashesAmong_20 rfl rfl ?_
        refine w_iconst 22 dX10_clashesAmong_21 rfl (v := nI 0) rfl ?_
        refine w_inv2 25 dX10_clashesAmong_22 rfl mlX10_55 rfl rfl (d' := 0) (by decide) (Nat.le_of_ble_eq_true rfl) (c_X8_cellN (tabOK_of (Or.inl rfl) (j := 3) (by decide)) (hT 3 (by decide)) (by omega) (by decide) ?_)
        rw [if_pos (show i < w.1 3 by omega)]
        refine w_invs2 28 dX10_clashesAmong_25 rfl slX10_59 (d' := 0) (by decide) (Nat.le_of_ble_eq_true rfl) (c_X11_has ?_)
        rw [hasB_nI hm (by omega)]
        refine w_ifeqB 50 31 dX10_clashesAmong_28 rfl rfl (fun c28 => ?_) (fun c28 => ?_)
        · skip
          refine w_inc3 53 dX10_clashesAmong_50 rfl (by decide) rfl (v := nI (_ + 1)) (nI_1 _) ?_
          refine w_goto 4 dX10_clashesAmong_53 rfl ?_
          refine wp_eq ?_ rfl rfl (ih (i + 1) (by omega) (by omega))
          simp [cntTo, clashB, c28]
        · skip
          refine w_iload_n 32 dX10_clashesAmong_31 rfl rfl ?_
          refine w_aload_n 33 dX10_clashesAmong_32 rfl rfl ?_
          refine w_getr 36 dX10_clashesAmong_33 rfl faX10_24 rfl rfl rfl (r := .ref 16) rfl ?_
          refine w_iload_n 37 dX10_clashesAmong_36 rfl rfl ?_
          refine w_iconst 38 dX10_clashesAmong_37 rfl (v := nI 1) rfl ?_
          refine w_inv2 41 dX10_clashesAmong_38 rfl mlX10_55 rfl rfl (d' := 0) (by decide) (Nat.le_of_ble_eq_true rfl) (c_X8_cellN (tabOK_of (Or.inl rfl) (j := 3) (by decide)) (hT 3 (by decide)) (by omega) (by decide) ?_)
          rw [if_pos (show i < w.1 3 by omega)]
          refine w_invs2 44 dX10_clashesAmong_41 rfl slX10_59 (d' := 0) (by decide) (Nat.le_of_ble_eq_true rfl) (c_X11_has ?_)
          rw [hasB_nI hm (by omega)]
          refine w_ifeqB 50 47 dX10_clashesAmong_44 rfl rfl (fun c44 => ?_) (fun c44 => ?_)
          · skip
            refine w_inc3 53 dX10_clashesAmong_50 rfl (by decide) rfl (v := nI (_ + 1)) (nI_1 _) ?_
            refine w_goto 4 dX10_clashesAmong_53 rfl ?_
            refine wp_eq ?_ rfl rfl (ih (i + 1) (by omega) (by omega))
            simp [cntTo, clashB, c44]
          · skip
            refine w_inc2 50 dX10_clashesAmong_47 rfl (by decide) rfl (v := nI (_ + 1)) (nI_1 _) ?_
            refine w_inc3 53 dX10_clashesAmong_50 rfl (by decide) rfl (v := nI (_ + 1)) (nI_1 _) ?_
            refine w_goto 4 dX10_clashesAmong_53 rfl ?_
            refine wp_eq ?_ rfl rfl (ih (i + 1) (by omega) (by omega))
            simp [cntTo, clashB, c28, c44]
  refine w_iconst 1 dX10_clashesAmong_0 rfl (v := nI 0) rfl ?_
  refine w_ist2 2 dX10_clashesAmong_1 rfl (by decide) rfl ?_
  refine w_iconst 3 dX10_clashesAmong_2 rfl (v := nI 0) rfl ?_
  refine w_ist3 4 dX10_clashesAmong_3 rfl (by decide) rfl ?_
  exact lp4 _ 0 (Nat.zero_le _) (Nat.lt_succ_self _)

set_option maxRecDepth 4000 in
theorem c_X10_clashingWith_9 {K : Option Value → AH → Prop} {A : AH} {w : WT} {t : Nat} (hT : RepT w 9 A) (hc : clOK w) (ht : t < 2 ^ 31) (h : K (some (.int (nI (foesTo w t (w.1 3))))) A) : Ct yX10_clashingWith mX10_clashingWith 1 dC gC [.ref 9, .int (nI t)] A K := by
  refine Ct.of [some (.ref 9), some (.int (nI t)), none, none, none, none] rfl rfl rfl (Nat.le_of_ble_eq_true rfl) ?_
  have h8 := (hT 3 (by decide)).2.1
  have hn3 : A.1 16 1 = nI (w.1 3) := (hT 3 (by decide)).1
  have lp4 : ∀ (n : Nat) (i : Nat), i ≤ w.1 3 → w.1 3 - i < n → WP mX10_clashingWith 1 dC gC 4 [some (.ref 9), some (.int (nI t)), some (.int (nI (foesTo w t i))), some (.int (nI i)), none, none] [] A K := by
    intro n
    induction n with
    | zero => intros; omega
    | succ n ih =>
      intro i hi hms
      refine w_iload_n 5 dX10_clashingWith_4 rfl rfl ?_
      refine w_aload_n 6 dX10_clashingWith_5 rfl rfl ?_
      refine w_getr 9 dX10_clashingWith_6 rfl faX10_24 rfl rfl rfl (r := .ref 16) rfl ?_
      refine w_getiv 12 dX10_clashingWith_9 rfl faX10_43 rfl rfl rfl hn3 ?_
      refine w_icgeN 73 15 dX10_clashingWith_12 rfl rfl (by omega) (by omega) (fun c12 => ?_) (fun c12 => ?_)
      · skip
        have e : i = w.1 3 := by omega
        subst e
        refine w_iload_n 74 dX10_clashingWith_73 rfl rfl ?_
        refine wr_i dX10_clashingWith_74 rfl ?_
        exact h
      · skip
        obtain ⟨k0, k1⟩ := hc i (by omega)
        refine w_aload_n 16 dX10_clashingWith_15 rfl rfl ?_
        refine w_getr 19 dX10_clashingWith_16 rfl faX10_24 rfl rfl rfl (r := .ref 16) rfl ?_
        refine w_iload_n 20 dX10_clashingWith_19 rfl rfl ?_
        refine w_iconst 21 dX10_clashingWith_20 rfl (v := nI 0) rfl ?_
        refine w_inv2 24 dX10_clashingWith_21 rfl mlX10_55 rfl rfl (d' := 0) (by decide) (Nat.le_of_ble_eq_true rfl) (c_X8_cellN (tabOK_of (Or.inl rfl) (j := 3) (by decide)) (hT 3 (by decide)) (by omega) (by decide) ?_)
        rw [if_pos (show i < w.1 3 by omega)]
        refine w_ist4 26 dX10_clashingWith_24 rfl (by decide) rfl ?_
        refine w_aload_n 27 dX10_clashingWith_26 rfl rfl ?_
        refine w_getr 30 dX10_clashingWith_27 rfl faX10_24 rfl rfl rfl (r := .ref 16) rfl ?_
        refine w_iload_n 31 dX10_clashingWith_30 rfl rfl ?_
        refine w_iconst 32 dX10_clashingWith_31 rfl (v := nI 1) rfl ?_
        refine w_inv2 35 dX10_clashingWith_32 rfl mlX10_55 rfl rfl (d' := 0) (by decide) (Nat.le_of_ble_eq_true rfl) (c_X8_cellN (tabOK_of (Or.inl rfl) (j := 3) (by decide)) (hT 3 (by decide)) (by omega) (by decide) ?_)
        rw [if_pos (show i < w.1 3 by omega)]
        refine w_ist5 37 dX10_clashingWith_35 rfl (by decide) rfl ?_
        refine w_iload_n 38 dX10_clashingWith_37 rfl rfl ?_
        refine w_iload 40 dX10_clashingWith_38 rfl rfl ?_
        refine w_iload_n 41 dX10_clashingWith_40 rfl rfl ?_
        refine w_icneN 51 44 dX10_clashingWith_41 rfl rfl (by omega) (by omega) (fun c41 => ?_) (fun c41 => ?_)
        · skip
          refine w_iload 53 dX10_clashingWith_51 rfl rfl ?_
          refine w_iload_n 54 dX10_clashingWith_53 rfl rfl ?_
          refine w_icneN 64 57 dX10_clashingWith_54 rfl rfl (by omega) (by omega) (fun c54 => ?_) (fun c54 => ?_)
          · skip
            refine w_iconst 65 dX10_clashingWith_64 rfl (v := nI 0) rfl ?_
            refine w_ior 66 dX10_clashingWith_65 rfl ?_
            refine w_top (nI_or _ _) ?_
            refine w_ist2 67 dX10_clashingWith_66 rfl (by decide) rfl ?_
            refine w_inc3 70 dX10_clashingWith_67 rfl (by decide) rfl (v := nI (_ + 1)) (nI_1 _) ?_
            refine w_goto 4 dX10_clashingWith_70 rfl ?_
            refine wp_to ?_ rfl rfl (ih (i + 1) (by omega) (by omega))
            simp [lle, foesTo, c41, c54]
          · skip
            refine w_iconst 58 dX10_clashingWith_57 rfl (v := nI 1) rfl ?_
            refine w_iload 60 dX10_clashingWith_58 rfl rfl ?_
            refine w_shl1 61 dX10_clashingWith_60 rfl (by omega) ?_
            refine w_goto 65 dX10_clashingWith_61 rfl ?_
            refine w_ior 66 dX10_clashingWith_65 rfl ?_
            refine w_top (nI_or _ _) ?_
            refine w_ist2 67 dX10_clashingWith_66 rfl (by decide) rfl ?_
            refine w_inc3 70 dX10_clashingWith_67 rfl (by decide) rfl (v := nI (_ + 1)) (nI_1 _) ?_
            refine w_goto 4 dX10_clashingWith_70 rfl ?_
            refine wp_to ?_ rfl rfl (ih (i + 1) (by omega) (by omega))
            simp [lle, foesTo, c41, c54]
        · skip
          refine w_iconst 45 dX10_clashingWith_44 rfl (v := nI 1) rfl ?_
          refine w_iload 47 dX10_clashingWith_45 rfl rfl ?_
          refine w_shl1 48 dX10_clashingWith_47 rfl (by omega) ?_
          refine w_goto 65 dX10_clashingWith_48 rfl ?_
          refine w_ior 66 dX10_clashingWith_65 rfl ?_
          refine w_top (nI_or _ _) ?_
          refine w_ist2 67 dX10_clashingWith_66 rfl (by decide) rfl ?_
          refine w_inc3 70 dX10_clashingWith_67 rfl (by decide) rfl (v := nI (_ + 1)) (nI_1 _) ?_
          refine w_goto 4 dX10_clashingWith_70 rfl ?_
          refine wp_to ?_ rfl rfl (ih (i + 1) (by omega) (by omega))
          simp [lle, foesTo, c41]
  refine w_iconst 1 dX10_clashingWith_0 rfl (v := nI 0) rfl ?_
  refine w_ist2 2 dX10_clashingWith_1 rfl (by decide) rfl ?_
  refine w_iconst 3 dX10_clashingWith_2 rfl (v := nI 0) rfl ?_
  refine w_ist3 4 dX10_clashingWith_3 rfl (by decide) rfl ?_
  exact lp4 _ 0 (Nat.zero_le _) (Nat.lt_succ_self _)

set_option maxRecDepth 4000 in
theorem c_X10_of_26 {K : Option Value → AH → Prop} {A : AH} {j : Nat} (hj : j < 8) (h : K (some (.ref (26 + 1 + 2 * j))) A) : Ct yX10_of mX10_of 0 dC gC [.ref 26, .int (nI j)] A K := by
  refine Ct.of [some (.ref 26), some (.int (nI j))] rfl rfl rfl (Nat.le_of_ble_eq_true rfl) ?_
  refine w_iload_n 1 dX10_of_0 rfl rfl ?_
  rcases j with _ | _ | _ | _ | _ | _ | _ | _ | j
  rotate_left 8
  · omega
  · skip
    skip
    refine w_tabOut 79 dX10_of_1 (by decide) rfl ?_
    refine w_aload_n 80 dX10_of_79 rfl rfl ?_
    refine w_getr 83 dX10_of_80 rfl faX10_12 rfl rfl rfl (r := .ref 27) rfl ?_
    refine wr_a dX10_of_83 rfl (Or.inl ⟨_, rfl⟩) ?_
    exact h
  · skip
    skip
    refine w_tabIn 44 dX10_of_1 (by decide) (by decide) rfl rfl ?_
    refine w_aload_n 45 dX10_of_44 rfl rfl ?_
    refine w_getr 48 dX10_of_45 rfl faX10_18 rfl rfl rfl (r := .ref 29) rfl ?_
    refine wr_a dX10_of_48 rfl (Or.inl ⟨_, rfl⟩) ?_
    exact h
  · skip
    skip
    refine w_tabIn 49 dX10_of_1 (by decide) (by decide) rfl rfl ?_
    refine w_aload_n 50 dX10_of_49 rfl rfl ?_
    refine w_getr 53 dX10_of_50 rfl faX10_21 rfl rfl rfl (r := .ref 31) rfl ?_
    refine wr_a dX10_of_53 rfl (Or.inl ⟨_, rfl⟩) ?_
    exact h
  · skip
    skip
    refine w_tabIn 54 dX10_of_1 (by decide) (by decide) rfl rfl ?_
    refine w_aload_n 55 dX10_of_54 rfl rfl ?_
    refine w_getr 58 dX10_of_55 rfl faX10_24 rfl rfl rfl (r := .ref 33) rfl ?_
    refine wr_a dX10_of_58 rfl (Or.inl ⟨_, rfl⟩) ?_
    exact h
  · skip
    skip
    refine w_tabIn 59 dX10_of_1 (by decide) (by decide) rfl rfl ?_
    refine w_aload_n 60 dX10_of_59 rfl rfl ?_
    refine w_getr 63 dX10_of_60 rfl faX10_27 rfl rfl rfl (r := .ref 35) rfl ?_
    refine wr_a dX10_of_63 rfl (Or.inl ⟨_, rfl⟩) ?_
    exact h
  · skip
    skip
    refine w_tabIn 64 dX10_of_1 (by decide) (by decide) rfl rfl ?_
    refine w_aload_n 65 dX10_of_64 rfl rfl ?_
    refine w_getr 68 dX10_of_65 rfl faX10_30 rfl rfl rfl (r := .ref 37) rfl ?_
    refine wr_a dX10_of_68 rfl (Or.inl ⟨_, rfl⟩) ?_
    exact h
  · skip
    skip
    refine w_tabIn 69 dX10_of_1 (by decide) (by decide) rfl rfl ?_
    refine w_aload_n 70 dX10_of_69 rfl rfl ?_
    refine w_getr 73 dX10_of_70 rfl faX10_33 rfl rfl rfl (r := .ref 39) rfl ?_
    refine wr_a dX10_of_73 rfl (Or.inl ⟨_, rfl⟩) ?_
    exact h
  · skip
    skip
    refine w_tabIn 74 dX10_of_1 (by decide) (by decide) rfl rfl ?_
    refine w_aload_n 75 dX10_of_74 rfl rfl ?_
    refine w_getr 78 dX10_of_75 rfl faX10_36 rfl rfl rfl (r := .ref 41) rfl ?_
    refine wr_a dX10_of_78 rfl (Or.inl ⟨_, rfl⟩) ?_
    exact h

set_option maxRecDepth 4000 in
theorem c_X10_howMany_26 {K : Option Value → AH → Prop} {A : AH} {w : WT} {j : Nat} (hT : RepT w 26 A) (hj : j < 8) (h : K (some (.int (nI (w.1 j)))) A) : Ct yX10_howMany mX10_howMany 1 dC gC [.ref 26, .int (nI j)] A K := by
  refine Ct.of [some (.ref 26), some (.int (nI j))] rfl rfl rfl (Nat.le_of_ble_eq_true rfl) ?_
  refine w_aload_n 1 dX10_howMany_0 rfl rfl ?_
  refine w_iload_n 2 dX10_howMany_1 rfl rfl ?_
  refine w_inv1 5 dX10_howMany_2 rfl mlX10_39 rfl rfl (d' := 0) (by decide) (Nat.le_of_ble_eq_true rfl) (c_X10_of_26 hj ?_)
  refine w_getiv 8 dX10_howMany_5 rfl faX10_43 (tabOK_of (Or.inr rfl) hj).1 (tabOK_of (Or.inr rfl) hj).2.2.1 rfl (hT j hj).1 ?_
  refine wr_i dX10_howMany_8 rfl ?_
  exact h

set_option maxRecDepth 4000 in
theorem c_X10_cell_26 {K : Option Value → AH → Prop} {A : AH} {w : WT} {j i c : Nat} (hT : RepT w 26 A) (hj : j < 8) (hi : i < 2 ^ 31) (hc : c < 6) (h : K (some (.int (nI (tbz w j i c)))) A) : Ct yX10_cell mX10_cell 1 dC gC [.ref 26, .int (nI j), .int (nI i), .int (nI c)] A K := by
  refine Ct.of [some (.ref 26), some (.int (nI j)), some (.int (nI i)), some (.int (nI c))] rfl rfl rfl (Nat.le_of_ble_eq_true rfl) ?_
  refine w_aload_n 1 dX10_cell_0 rfl rfl ?_
  refine w_iload_n 2 dX10_cell_1 rfl rfl ?_
  refine w_inv1 5 dX10_cell_2 rfl mlX10_39 rfl rfl (d' := 0) (by decide) (Nat.le_of_ble_eq_true rfl) (c_X10_of_26 hj ?_)
  refine w_iload_n 6 dX10_cell_5 rfl rfl ?_
  refine w_iload_n 7 dX10_cell_6 rfl rfl ?_
  refine w_inv2 10 dX10_cell_7 rfl mlX10_55 (tabOK_of (Or.inr rfl) hj).1 (tabOK_of (Or.inr rfl) hj).2.2.1 (d' := 0) (by decide) (Nat.le_of_ble_eq_true rfl) (c_X8_cellN (tabOK_of (Or.inr rfl) hj) (hT j hj) hi hc ?_)
  refine wr_i dX10_cell_10 rfl ?_
  exact h

set_option maxRecDepth 4000 in
theorem c_X10_slipsInHundred_26 {K : Option Value → AH → Prop} {A : AH} {w : WT} (hT : RepT w 26 A) (h : K (some (.int (nI (tbz w 0 0 0)))) A) : Ct yX10_slipsInHundred mX10_slipsInHundred 1 dC gC [.ref 26] A K := by
  refine Ct.of [some (.ref 26)] rfl rfl rfl (Nat.le_of_ble_eq_true rfl) ?_
  refine w_aload_n 1 dX10_slipsInHundred_0 rfl rfl ?_
  refine w_getr 4 dX10_slipsInHundred_1 rfl faX10_12 rfl rfl rfl (r := .ref 27) rfl ?_
  refine w_iconst 5 dX10_slipsInHundred_4 rfl (v := nI 0) rfl ?_
  refine w_iconst 6 dX10_slipsInHundred_5 rfl (v := nI 0) rfl ?_
  refine w_inv2 9 dX10_slipsInHundred_6 rfl mlX10_55 rfl rfl (d' := 0) (by decide) (Nat.le_of_ble_eq_true rfl) (c_X8_cellN (tabOK_of (Or.inr rfl) (j := 0) (by decide)) (hT 0 (by decide)) (by decide) (by decide) ?_)
  refine wr_i dX10_slipsInHundred_9 rfl ?_
  exact h

set_option maxRecDepth 4000 in
theorem c_X10_clerksInHundred_26 {K : Option Value → AH → Prop} {A : AH} {w : WT} (hT : RepT w 26 A) (h : K (some (.int (nI (tbz w 0 0 1)))) A) : Ct yX10_clerksInHundred mX10_clerksInHundred 1 dC gC [.ref 26] A K := by
  refine Ct.of [some (.ref 26)] rfl rfl rfl (Nat.le_of_ble_eq_true rfl) ?_
  refine w_aload_n 1 dX10_clerksInHundred_0 rfl rfl ?_
  refine w_getr 4 dX10_clerksInHundred_1 rfl faX10_12 rfl rfl rfl (r := .ref 27) rfl ?_
  refine w_iconst 5 dX10_clerksInHundred_4 rfl (v := nI 0) rfl ?_
  refine w_iconst 6 dX10_clerksInHundred_5 rfl (v := nI 1) rfl ?_
  refine w_inv2 9 dX10_clerksInHundred_6 rfl mlX10_55 rfl rfl (d' := 0) (by decide) (Nat.le_of_ble_eq_true rfl) (c_X8_cellN (tabOK_of (Or.inr rfl) (j := 0) (by decide)) (hT 0 (by decide)) (by decide) (by decide) ?_)
  refine wr_i dX10_clerksInHundred_9 rfl ?_
  exact h

set_option maxRecDepth 4000 in
theorem c_X10_isLied_26 {K : Option Value → AH → Prop} {A : AH} {w : WT} {t : Nat} (hT : RepT w 26 A) (hs : smW w) (ht : t < 2 ^ 31) (h : K (some (.int (b2i (decide (tbz w 2 t 0 = 3))))) A) : Ct yX10_isLied mX10_isLied 1 dC gC [.ref 26, .int (nI t)] A K := by
  refine Ct.of [some (.ref 26), some (.int (nI t))] rfl rfl rfl (Nat.le_of_ble_eq_true rfl) ?_
  refine w_aload_n 1 dX10_isLied_0 rfl rfl ?_
  refine w_getr 4 dX10_isLied_1 rfl faX10_21 rfl rfl rfl (r := .ref 31) rfl ?_
  refine w_iload_n 5 dX10_isLied_4 rfl rfl ?_
  refine w_iconst 6 dX10_isLied_5 rfl (v := nI 0) rfl ?_
  refine w_inv2 9 dX10_isLied_6 rfl mlX10_55 rfl rfl (d' := 0) (by decide) (Nat.le_of_ble_eq_true rfl) (c_X8_cellN (tabOK_of (Or.inr rfl) (j := 2) (by decide)) (hT 2 (by decide)) ht (by decide) ?_)
  refine w_iconst 10 dX10_isLied_9 rfl (v := nI 3) rfl ?_
  refine w_icneN 17 13 dX10_isLied_10 rfl rfl (show tbz w 2 t 0 < 2 ^ 31 from Nat.lt_trans (tbz_lt hs (by decide) (by decide)) (by decide)) (by omega) (fun c10 => ?_) (fun c10 => ?_)
  · skip
    refine w_iconst 18 dX10_isLied_17 rfl (v := nI 0) rfl ?_
    refine wr_z dX10_isLied_18 rfl (by first | rfl | exact nb_b2i _) ?_
    exact kq h (by clear h; simp_all [b2i, nI_0, nI_one, tbz])
  · skip
    refine w_iconst 14 dX10_isLied_13 rfl (v := nI 1) rfl ?_
    refine w_goto 18 dX10_isLied_14 rfl ?_
    refine wr_z dX10_isLied_18 rfl (by first | rfl | exact nb_b2i _) ?_
    exact kq h (by clear h; simp_all [b2i, nI_0, nI_one, tbz])

set_option maxRecDepth 4000 in
theorem c_X10_isToldBrown_26 {K : Option Value → AH → Prop} {A : AH} {w : WT} {t : Nat} (hT : RepT w 26 A) (hs : smW w) (ht : t < 2 ^ 31) (h : K (some (.int (b2i (decide (tbz w 7 t 2 = 1))))) A) : Ct yX10_isToldBrown mX10_isToldBrown 1 dC gC [.ref 26, .int (nI t)] A K := by
  refine Ct.of [some (.ref 26), some (.int (nI t))] rfl rfl rfl (Nat.le_of_ble_eq_true rfl) ?_
  refine w_aload_n 1 dX10_isToldBrown_0 rfl rfl ?_
  refine w_getr 4 dX10_isToldBrown_1 rfl faX10_36 rfl rfl rfl (r := .ref 41) rfl ?_
  refine w_iload_n 5 dX10_isToldBrown_4 rfl rfl ?_
  refine w_iconst 6 dX10_isToldBrown_5 rfl (v := nI 2) rfl ?_
  refine w_inv2 9 dX10_isToldBrown_6 rfl mlX10_55 rfl rfl (d' := 0) (by decide) (Nat.le_of_ble_eq_true rfl) (c_X8_cellN (tabOK_of (Or.inr rfl) (j := 7) (by decide)) (hT 7 (by decide)) ht (by decide) ?_)
  refine w_iconst 10 dX10_isToldBrown_9 rfl (v := nI 1) rfl ?_
  refine w_icneN 17 13 dX10_isToldBrown_10 rfl rfl (show tbz w 7 t 2 < 2 ^ 31 from Nat.lt_trans (tbz_lt hs (by decide) (by decide)) (by decide)) (by omega) (fun c10 => ?_) (fun c10 => ?_)
  · skip
    refine w_iconst 18 dX10_isToldBrown_17 rfl (v := nI 0) rfl ?_
    refine wr_z dX10_isToldBrown_18 rfl (by first | rfl | exact nb_b2i _) ?_
    exact kq h (by clear h; simp_all [b2i, nI_0, nI_one, tbz])
  · skip
    refine w_iconst 14 dX10_isToldBrown_13 rfl (v := nI 1) rfl ?_
    refine w_goto 18 dX10_isToldBrown_14 rfl ?_
    refine wr_z dX10_isToldBrown_18 rfl (by first | rfl | exact nb_b2i _) ?_
    exact kq h (by clear h; simp_all [b2i, nI_0, nI_one, tbz])

set_option maxRecDepth 4000 in
theorem c_X10_clashesAmong_26 {K : Option Value → AH → Prop} {A : AH} {w : WT} {m : Nat} (hT : RepT w 26 A) (hc : clOK w) (hm : m < 2 ^ 31) (h : K (some (.int (nI (cntTo (clashB w m) (w.1 3))))) A) : Ct yX10_clashesAmong mX10_clashesAmong 1 dC gC [.ref 26, .int (nI m)] A K := by
  refine Ct.of [some (.ref 26), some (.int (nI m)), none, none] rfl rfl rfl (Nat.le_of_ble_eq_true rfl) ?_
  have h8 := (hT 3 (by decide)).2.1
  have hn3 : A.1 33 1 = nI (w.1 3) := (hT 3 (by decide)).1
  have lp4 : ∀ (n : Nat) (i : Nat), i ≤ w.1 3 → w.1 3 - i < n → WP mX10_clashesAmong 1 dC gC 4 [some (.ref 26), some (.int (nI m)), some (.int (nI (cntTo (clashB w m) i))), some (.int (nI i))] [] A K := by
    intro n
    induction n with
    | zero => intros; omega
    | succ n ih =>
      intro i hi hms
      refine w_iload_n 5 dX10_clashesAmong_4 rfl rfl ?_
      refine w_aload_n 6 dX10_clashesAmong_5 rfl rfl ?_
      refine w_getr 9 dX10_clashesAmong_6 rfl faX10_24 rfl rfl rfl (r := .ref 33) rfl ?_
      refine w_getiv 12 dX10_clashesAmong_9 rfl faX10_43 rfl rfl rfl hn3 ?_
      refine w_icgeN 56 15 dX10_clashesAmong_12 rfl rfl (by omega) (by omega) (fun c12 => ?_) (fun c12 => ?_)
      · skip
        have e : i = w.1 3 := by omega
        subst e
        refine w_iload_n 57 dX10_clashesAmong_56 rfl rfl ?_
        refine wr_i dX10_clashesAmong_57 rfl ?_
        exact h
      · skip
        obtain ⟨k0, k1⟩ := hc i (by omega)
        refine w_iload_n 16 dX10_clashesAmong_15 rfl rfl ?_
        refine w_aload_n 17 dX10_clashesAmong_16 rfl rfl ?_
        refine w_getr 20 dX10_clashesAmong_17 rfl faX10_24 rfl rfl rfl (r := .ref 33) rfl ?_
        refine w_iload_n 21 dX10_clashesAmong_20 rfl rfl ?_
        refine w_iconst 22 dX10_clashesAmong_21 rfl (v := nI 0) rfl ?_
        refine w_inv2 25 dX10_clashesAmong_22 rfl mlX10_55 rfl rfl (d' := 0) (by decide) (Nat.le_of_ble_eq_true rfl) (c_X8_cellN (tabOK_of (Or.inr rfl) (j := 3) (by decide)) (hT 3 (by decide)) (by omega) (by decide) ?_)
        rw [if_pos (show i < w.1 3 by omega)]
        refine w_invs2 28 dX10_clashesAmong_25 rfl slX10_59 (d' := 0) (by decide) (Nat.le_of_ble_eq_true rfl) (c_X11_has ?_)
        rw [hasB_nI hm (by omega)]
        refine w_ifeqB 50 31 dX10_clashesAmong_28 rfl rfl (fun c28 => ?_) (fun c28 => ?_)
        · skip
          refine w_inc3 53 dX10_clashesAmong_50 rfl (by decide) rfl (v := nI (_ + 1)) (nI_1 _) ?_
          refine w_goto 4 dX10_clashesAmong_53 rfl ?_
          refine wp_eq ?_ rfl rfl (ih (i + 1) (by omega) (by omega))
          simp [cntTo, clashB, c28]
        · skip
          refine w_iload_n 32 dX10_clashesAmong_31 rfl rfl ?_
          refine w_aload_n 33 dX10_clashesAmong_32 rfl rfl ?_
          refine w_getr 36 dX10_clashesAmong_33 rfl faX10_24 rfl rfl rfl (r := .ref 33) rfl ?_
          refine w_iload_n 37 dX10_clashesAmong_36 rfl rfl ?_
          refine w_iconst 38 dX10_clashesAmong_37 rfl (v := nI 1) rfl ?_
          refine w_inv2 41 dX10_clashesAmong_38 rfl mlX10_55 rfl rfl (d' := 0) (by decide) (Nat.le_of_ble_eq_true rfl) (c_X8_cellN (tabOK_of (Or.inr rfl) (j := 3) (by decide)) (hT 3 (by decide)) (by omega) (by decide) ?_)
          rw [if_pos (show i < w.1 3 by omega)]
          refine w_invs2 44 dX10_clashesAmong_41 rfl slX10_59 (d' := 0) (by decide) (Nat.le_of_ble_eq_true rfl) (c_X11_has ?_)
          rw [hasB_nI hm (by omega)]
          refine w_ifeqB 50 47 dX10_clashesAmong_44 rfl rfl (fun c44 => ?_) (fun c44 => ?_)
          · skip
            refine w_inc3 53 dX10_clashesAmong_50 rfl (by decide) rfl (v := nI (_ + 1)) (nI_1 _) ?_
            refine w_goto 4 dX10_clashesAmong_53 rfl ?_
            refine wp_eq ?_ rfl rfl (ih (i + 1) (by omega) (by omega))
            simp [cntTo, clashB, c44]
          · skip
            refine w_inc2 50 dX10_clashesAmong_47 rfl (by decide) rfl (v := nI (_ + 1)) (nI_1 _) ?_
            refine w_inc3 53 dX10_clashesAmong_50 rfl (by decide) rfl (v := nI (_ + 1)) (nI_1 _) ?_
            refine w_goto 4 dX10_clashesAmong_53 rfl ?_
            refine wp_eq ?_ rfl rfl (ih (i + 1) (by omega) (by omega))
            simp [cntTo, clashB, c28, c44]
  refine w_iconst 1 dX10_clashesAmong_0 rfl (v := nI 0) rfl ?_
  refine w_ist2 2 dX10_clashesAmong_1 rfl (by decide) rfl ?_
  refine w_iconst 3 dX10_clashesAmong_2 rfl (v := nI 0) rfl ?_
  refine w_ist3 4 dX10_clashesAmong_3 rfl (by decide) rfl ?_
  exact lp4 _ 0 (Nat.zero_le _) (Nat.lt_succ_self _)

set_option maxRecDepth 4000 in
theorem c_X10_clashingWith_26 {K : Option Value → AH → Prop} {A : AH} {w : WT} {t : Nat} (hT : RepT w 26 A) (hc : clOK w) (ht : t < 2 ^ 31) (h : K (some (.int (nI (foesTo w t (w.1 3))))) A) : Ct yX10_clashingWith mX10_clashingWith 1 dC gC [.ref 26, .int (nI t)] A K := by
  refine Ct.of [some (.ref 26), some (.int (nI t)), none, none, none, none] rfl rfl rfl (Nat.le_of_ble_eq_true rfl) ?_
  have h8 := (hT 3 (by decide)).2.1
  have hn3 : A.1 33 1 = nI (w.1 3) := (hT 3 (by decide)).1
  have lp4 : ∀ (n : Nat) (i : Nat), i ≤ w.1 3 → w.1 3 - i < n → WP mX10_clashingWith 1 dC gC 4 [some (.ref 26), some (.int (nI t)), some (.int (nI (foesTo w t i))), some (.int (nI i)), none, none] [] A K := by
    intro n
    induction n with
    | zero => intros; omega
    | succ n ih =>
      intro i hi hms
      refine w_iload_n 5 dX10_clashingWith_4 rfl rfl ?_
      refine w_aload_n 6 dX10_clashingWith_5 rfl rfl ?_
      refine w_getr 9 dX10_clashingWith_6 rfl faX10_24 rfl rfl rfl (r := .ref 33) rfl ?_
      refine w_getiv 12 dX10_clashingWith_9 rfl faX10_43 rfl rfl rfl hn3 ?_
      refine w_icgeN 73 15 dX10_clashingWith_12 rfl rfl (by omega) (by omega) (fun c12 => ?_) (fun c12 => ?_)
      · skip
        have e : i = w.1 3 := by omega
        subst e
        refine w_iload_n 74 dX10_clashingWith_73 rfl rfl ?_
        refine wr_i dX10_clashingWith_74 rfl ?_
        exact h
      · skip
        obtain ⟨k0, k1⟩ := hc i (by omega)
        refine w_aload_n 16 dX10_clashingWith_15 rfl rfl ?_
        refine w_getr 19 dX10_clashingWith_16 rfl faX10_24 rfl rfl rfl (r := .ref 33) rfl ?_
        refine w_iload_n 20 dX10_clashingWith_19 rfl rfl ?_
        refine w_iconst 21 dX10_clashingWith_20 rfl (v := nI 0) rfl ?_
        refine w_inv2 24 dX10_clashingWith_21 rfl mlX10_55 rfl rfl (d' := 0) (by decide) (Nat.le_of_ble_eq_true rfl) (c_X8_cellN (tabOK_of (Or.inr rfl) (j := 3) (by decide)) (hT 3 (by decide)) (by omega) (by decide) ?_)
        rw [if_pos (show i < w.1 3 by omega)]
        refine w_ist4 26 dX10_clashingWith_24 rfl (by decide) rfl ?_
        refine w_aload_n 27 dX10_clashingWith_26 rfl rfl ?_
        refine w_getr 30 dX10_clashingWith_27 rfl faX10_24 rfl rfl rfl (r := .ref 33) rfl ?_
        refine w_iload_n 31 dX10_clashingWith_30 rfl rfl ?_
        refine w_iconst 32 dX10_clashingWith_31 rfl (v := nI 1) rfl ?_
        refine w_inv2 35 dX10_clashingWith_32 rfl mlX10_55 rfl rfl (d' := 0) (by decide) (Nat.le_of_ble_eq_true rfl) (c_X8_cellN (tabOK_of (Or.inr rfl) (j := 3) (by decide)) (hT 3 (by decide)) (by omega) (by decide) ?_)
        rw [if_pos (show i < w.1 3 by omega)]
        refine w_ist5 37 dX10_clashingWith_35 rfl (by decide) rfl ?_
        refine w_iload_n 38 dX10_clashingWith_37 rfl rfl ?_
        refine w_iload 40 dX10_clashingWith_38 rfl rfl ?_
        refine w_iload_n 41 dX10_clashingWith_40 rfl rfl ?_
        refine w_icneN 51 44 dX10_clashingWith_41 rfl rfl (by omega) (by omega) (fun c41 => ?_) (fun c41 => ?_)
        · skip
          refine w_iload 53 dX10_clashingWith_51 rfl rfl ?_
          refine w_iload_n 54 dX10_clashingWith_53 rfl rfl ?_
          refine w_icneN 64 57 dX10_clashingWith_54 rfl rfl (by omega) (by omega) (fun c54 => ?_) (fun c54 => ?_)
          · skip
            refine w_iconst 65 dX10_clashingWith_64 rfl (v := nI 0) rfl ?_
            refine w_ior 66 dX10_clashingWith_65 rfl ?_
            refine w_top (nI_or _ _) ?_
            refine w_ist2 67 dX10_clashingWith_66 rfl (by decide) rfl ?_
            refine w_inc3 70 dX10_clashingWith_67 rfl (by decide) rfl (v := nI (_ + 1)) (nI_1 _) ?_
            refine w_goto 4 dX10_clashingWith_70 rfl ?_
            refine wp_to ?_ rfl rfl (ih (i + 1) (by omega) (by omega))
            simp [lle, foesTo, c41, c54]
          · skip
            refine w_iconst 58 dX10_clashingWith_57 rfl (v := nI 1) rfl ?_
            refine w_iload 60 dX10_clashingWith_58 rfl rfl ?_
            refine w_shl1 61 dX10_clashingWith_60 rfl (by omega) ?_
            refine w_goto 65 dX10_clashingWith_61 rfl ?_
            refine w_ior 66 dX10_clashingWith_65 rfl ?_
            refine w_top (nI_or _ _) ?_
            refine w_ist2 67 dX10_clashingWith_66 rfl (by decide) rfl ?_
            refine w_inc3 70 dX10_clashingWith_67 rfl (by decide) rfl (v := nI (_ + 1)) (nI_1 _) ?_
            refine w_goto 4 dX10_clashingWith_70 rfl ?_
            refine wp_to ?_ rfl rfl (ih (i + 1) (by omega) (by omega))
            simp [lle, foesTo, c41, c54]
        · skip
          refine w_iconst 45 dX10_clashingWith_44 rfl (v := nI 1) rfl ?_
          refine w_iload 47 dX10_clashingWith_45 rfl rfl ?_
          refine w_shl1 48 dX10_clashingWith_47 rfl (by omega) ?_
          refine w_goto 65 dX10_clashingWith_48 rfl ?_
          refine w_ior 66 dX10_clashingWith_65 rfl ?_
          refine w_top (nI_or _ _) ?_
          refine w_ist2 67 dX10_clashingWith_66 rfl (by decide) rfl ?_
          refine w_inc3 70 dX10_clashingWith_67 rfl (by decide) rfl (v := nI (_ + 1)) (nI_1 _) ?_
          refine w_goto 4 dX10_clashingWith_70 rfl ?_
          refine wp_to ?_ rfl rfl (ih (i + 1) (by omega) (by omega))
          simp [lle, foesTo, c41]
  refine w_iconst 1 dX10_clashingWith_0 rfl (v := nI 0) rfl ?_
  refine w_ist2 2 dX10_clashingWith_1 rfl (by decide) rfl ?_
  refine w_iconst 3 dX10_clashingWith_2 rfl (v := nI 0) rfl ?_
  refine w_ist3 4 dX10_clashingWith_3 rfl (by decide) rfl ?_
  exact lp4 _ 0 (Nat.zero_le _) (Nat.lt_succ_self _)
