/-! ===== Table and Told, written ===== -/
def OffI (lo hi : Nat) (A A' : AH) : Prop := ∀ x, (x < lo ∨ hi ≤ x) → A'.1 x = A.1 x ∧ A'.2 x = A.2 x
theorem OffI.rf {lo hi : Nat} {A : AH} : OffI lo hi A A := fun _ _ => ⟨rfl, rfl⟩
theorem OffI.tr {lo hi : Nat} {A B C : AH} (h : OffI lo hi A B) (h2 : OffI lo hi B C) : OffI lo hi A C := fun x hx => ⟨(h2 x hx).1.trans (h x hx).1, (h2 x hx).2.trans (h x hx).2⟩
theorem OffI.mono {lo hi lo' hi' : Nat} {A B : AH} (h : OffI lo hi A B) (h1 : lo' ≤ lo) (h2 : hi ≤ hi') : OffI lo' hi' A B := fun x hx => h x (by omega)
theorem OffI.upd {lo hi : Nat} {A A' : AH} (h : OffI lo hi A A') {o : Nat} (h1 : lo ≤ o) (h2 : o < hi) (k : Nat) (x : Int32) : OffI lo hi A (upd2 A'.1 o k x, A'.2) := fun y hy => ⟨(upd2_ne (by omega)).trans (h y hy).1, (h y hy).2⟩
theorem OffI.cpy {lo hi : Nat} {A A' : AH} (h : OffI lo hi A A') {a : Nat} (h1 : lo ≤ a) (h2 : a < hi) (a0 sp dp n : Nat) : OffI lo hi A (cpy2 A'.1 a0 a sp dp n, A'.2) := fun y hy => ⟨(cpy2_ne (by omega)).trans (h y hy).1, (h y hy).2⟩
theorem tabOK.ne6 {t : Nat} (h : tabOK t) : t ≠ 6 ∧ t + 1 ≠ 6 := by
  obtain ⟨-, -, h3, h4, -⟩ := h
  constructor
  · rintro rfl
    cases h3
  · intro e
    rw [e] at h4
    cases h4
theorem RepB.add {n : Nat} {f : Nat → Nat → Nat} {t : Nat} {A : AH} {g : Nat → Nat} (h : RepB n f t A) (hn : n < 8) (hg : ∀ c, c < 6 → A.1 6 c = nI (g c)) : RepB (n + 1) (fun i c => if i = n then g c else f i c) t (upd2 (cpy2 A.1 6 (t + 1) 0 (n * 6) 6) t 1 (nI (n + 1)), A.2) := by
  obtain ⟨h1, h2, h3⟩ := h
  refine ⟨upd2_at, by omega, fun i c hi hc => ?_⟩
  dsimp only
  rw [upd2_ne (by omega)]
  by_cases e : i = n
  · subst e
    rw [cpy2_in (by omega) (by omega), if_pos rfl, show 0 + (i * 6 + c - i * 6) = c by omega]
    exact hg c hc
  · rw [cpy2_out (by omega), if_neg e]
    exact h3 i c (by omega) hc
theorem RepB.copy {n : Nat} {f : Nat → Nat → Nat} {t t0 : Nat} {A : AH} (h : RepB n f t0 A) (hne : t + 1 ≠ t0) : RepB n f t (upd2 (cpy2 A.1 (t0 + 1) (t + 1) 0 0 48) t 1 (A.1 t0 1), A.2) := by
  obtain ⟨h1, h2, h3⟩ := h
  refine ⟨by dsimp only; rw [upd2_at]; exact h1, h2, fun i c hi hc => ?_⟩
  dsimp only
  rw [upd2_ne (by omega), cpy2_in (Nat.zero_le _) (by omega), Nat.sub_zero, Nat.zero_add]
  exact h3 i c hi hc
def addW (w : WT) (j : Nat) (g : Nat → Nat) : WT := (fun i => if i = j then w.1 j + 1 else w.1 i, fun i r c => if i = j ∧ r = w.1 j then g c else w.2 i r c)
theorem RepB.eqf {n m : Nat} {f g : Nat → Nat → Nat} {t : Nat} {A : AH} (h : RepB n f t A) (e : m = n) (hg : ∀ i c, i < n → c < 6 → g i c = f i c) : RepB m g t A := by
  subst e
  exact ⟨h.1, h.2.1, fun i c hi hc => by rw [hg i c hi hc]; exact h.2.2 i c hi hc⟩
def emptyW : WT := (fun _ => 0, fun _ _ _ => 0)
set_option maxRecDepth 4000 in
theorem c_X8_add {K : Option Value → AH → Prop} {A : AH} {t n : Nat} {f : Nat → Nat → Nat} (ht : tabOK t) (hr : RepB n f t A) (hn : n < 8) (h : K none (upd2 (cpy2 A.1 6 (t + 1) 0 (n * 6) 6) t 1 (nI (n + 1)), A.2)) : Ct yX8_add mX8_add 1 dC gC [.ref t, .ref 6] A K := by
  refine Ct.of [some (.ref t), some (.ref 6)] rfl rfl rfl (Nat.le_of_ble_eq_true rfl) ?_
  refine w_aload_n 1 dX8_add_0 rfl rfl ?_
  refine w_getiv 4 dX8_add_1 rfl faX8_15 ht.1 ht.2.2.1 rfl hr.1 ?_
  refine w_bipush 6 dX8_add_4 rfl (v := nI 8) rfl ?_
  refine w_icgeN 44 9 dX8_add_6 rfl rfl (by omega) (by omega) (fun c6 => (by omega)) (fun c6 => ?_)
  refine w_aload_n 10 dX8_add_9 rfl rfl ?_
  refine w_alen 11 dX8_add_10 rfl rfl rfl (by decide) (v := nI 6) rfl ?_
  refine w_bipush 13 dX8_add_11 rfl (v := nI 6) rfl ?_
  refine w_icltN 44 16 dX8_add_13 rfl rfl (by omega) (by omega) (fun c13 => (by omega)) (fun c13 => ?_)
  refine w_aload_n 17 dX8_add_16 rfl rfl ?_
  refine w_iconst 18 dX8_add_17 rfl (v := nI 0) rfl ?_
  refine w_aload_n 19 dX8_add_18 rfl rfl ?_
  refine w_getr 22 dX8_add_19 rfl faX8_11 ht.1 ht.2.2.1 rfl (r := .ref (t + 1)) ht.2.2.2.2 ?_
  refine w_aload_n 23 dX8_add_22 rfl rfl ?_
  refine w_getiv 26 dX8_add_23 rfl faX8_15 ht.1 ht.2.2.1 rfl hr.1 ?_
  refine w_bipush 28 dX8_add_26 rfl (v := nI 6) rfl ?_
  refine w_imulN 29 dX8_add_28 rfl ?_
  refine w_bipush 31 dX8_add_29 rfl (v := nI 6) rfl ?_
  refine w_copyi 34 dX8_add_31 rfl clX8_19 rfl rfl ht.2.1 ht.2.2.2.1 (by decide) (by decide) (by omega) (by omega) (by decide) (Nat.le_of_ble_eq_true rfl) ?_
  refine w_aload_n 35 dX8_add_34 rfl rfl ?_
  refine w_dup_r 36 dX8_add_35 rfl ?_
  refine w_getiv 39 dX8_add_36 rfl faX8_15 ht.1 ht.2.2.1 rfl (show _ = nI n from by dsimp only; rw [cpy2_ne (by omega)]; exact hr.1) ?_
  refine w_iconst 40 dX8_add_39 rfl (v := nI 1) rfl ?_
  refine w_iaddN 41 dX8_add_40 rfl ?_
  refine w_puti 44 dX8_add_41 rfl faX8_15 ht.1 ht.2.2.1 rfl rfl ?_
  refine wr_v dX8_add_44 rfl ?_
  exact h

set_option maxRecDepth 4000 in
theorem c_X8_copyFrom {K : Option Value → AH → Prop} {A : AH} {t t0 : Nat} (ht : tabOK t) (ht0 : tabOK t0) (hne : t + 1 ≠ t0) (h : K none (upd2 (cpy2 A.1 (t0 + 1) (t + 1) 0 0 48) t 1 (A.1 t0 1), A.2)) : Ct yX8_copyFrom mX8_copyFrom 1 dC gC [.ref t, .ref t0] A K := by
  refine Ct.of [some (.ref t), some (.ref t0)] rfl rfl rfl (Nat.le_of_ble_eq_true rfl) ?_
  refine w_aload_n 1 dX8_copyFrom_0 rfl rfl ?_
  refine w_getr 4 dX8_copyFrom_1 rfl faX8_11 ht0.1 ht0.2.2.1 rfl (r := .ref (t0 + 1)) ht0.2.2.2.2 ?_
  refine w_iconst 5 dX8_copyFrom_4 rfl (v := nI 0) rfl ?_
  refine w_aload_n 6 dX8_copyFrom_5 rfl rfl ?_
  refine w_getr 9 dX8_copyFrom_6 rfl faX8_11 ht.1 ht.2.2.1 rfl (r := .ref (t + 1)) ht.2.2.2.2 ?_
  refine w_iconst 10 dX8_copyFrom_9 rfl (v := nI 0) rfl ?_
  refine w_bipush 12 dX8_copyFrom_10 rfl (v := nI 48) rfl ?_
  refine w_copyi 15 dX8_copyFrom_12 rfl clX8_19 ht0.2.1 ht0.2.2.2.1 ht.2.1 ht.2.2.2.1 (by decide) (by decide) (by omega) (by omega) (by decide) (Nat.le_of_ble_eq_true rfl) ?_
  refine w_aload_n 16 dX8_copyFrom_15 rfl rfl ?_
  refine w_aload_n 17 dX8_copyFrom_16 rfl rfl ?_
  refine w_getiv 20 dX8_copyFrom_17 rfl faX8_15 ht0.1 ht0.2.2.1 rfl (show _ = A.1 t0 1 from by dsimp only; rw [cpy2_ne (by omega)]) ?_
  refine w_puti 23 dX8_copyFrom_20 rfl faX8_15 ht.1 ht.2.2.1 rfl rfl ?_
  refine wr_v dX8_copyFrom_23 rfl ?_
  exact h

set_option maxRecDepth 4000 in
theorem c_X10_clear {K : Option Value → AH → Prop} {A : AH} (h : ∀ A', RepT emptyW 9 A' → OffI 10 26 A A' → K none A') : Ct yX10_clear mX10_clear 1 dC gC [.ref 9] A K := by
  refine Ct.of [some (.ref 9), none] rfl rfl rfl (Nat.le_of_ble_eq_true rfl) ?_
  have lp2 : ∀ (n : Nat) (i : Nat) (A' : AH), i ≤ 8 → (∀ j, j < i → A'.1 (9 + 1 + 2 * j) 1 = nI 0) → OffI 10 26 A A' → 8 - i < n → WP mX10_clear 1 dC gC 2 [some (.ref 9), some (.int (nI i))] [] A' K := by
    intro n
    induction n with
    | zero => intros; omega
    | succ n ih =>
      intro i A' hi hz hO hms
      refine w_iload_n 3 dX10_clear_2 rfl rfl ?_
      refine w_bipush 5 dX10_clear_3 rfl (v := nI 7) rfl ?_
      refine w_icgtN 23 8 dX10_clear_5 rfl rfl (by omega) (by omega) (fun c5 => ?_) (fun c5 => ?_)
      · skip
        refine wr_v dX10_clear_23 rfl ?_
        exact h A' (fun j hj => ⟨hz j (by omega), Nat.zero_le _, fun i c hi => absurd hi (Nat.not_lt_zero _)⟩) hO
      · skip
        refine w_aload_n 9 dX10_clear_8 rfl rfl ?_
        refine w_iload_n 10 dX10_clear_9 rfl rfl ?_
        refine w_inv1 13 dX10_clear_10 rfl mlX10_39 rfl rfl (d' := 0) (by decide) (Nat.le_of_ble_eq_true rfl) (c_X10_of_9 (by omega) ?_)
        refine w_iconst 14 dX10_clear_13 rfl (v := nI 0) rfl ?_
        refine w_puti 17 dX10_clear_14 rfl faX10_43 (tabOK_of (b := 9) (Or.inl rfl) (by omega)).1 (tabOK_of (b := 9) (Or.inl rfl) (by omega)).2.2.1 rfl rfl ?_
        refine w_inc1 20 dX10_clear_17 rfl (by decide) rfl (v := nI (_ + 1)) (nI_1 _) ?_
        refine w_goto 2 dX10_clear_20 rfl ?_
        refine ih (i + 1) _ (by omega) (fun j hj => ?_) (hO.upd (by omega) (by omega) _ _) (by omega)
        by_cases e : j = i
        · subst e; exact upd2_at
        · dsimp only
          rw [upd2_ne (by omega)]
          exact hz j (by omega)
  refine w_iconst 1 dX10_clear_0 rfl (v := nI 0) rfl ?_
  refine w_ist1 2 dX10_clear_1 rfl (by decide) rfl ?_
  exact lp2 9 0 A (Nat.zero_le _) (fun j hj => absurd hj (Nat.not_lt_zero j)) OffI.rf (by omega)

set_option maxRecDepth 4000 in
theorem c_X10_add {K : Option Value → AH → Prop} {A : AH} {w : WT} {j : Nat} {g : Nat → Nat} (hT : RepT w 9 A) (hj : j < 8) (hn : w.1 j < 8) (hg : ∀ c, c < 6 → A.1 6 c = nI (g c)) (h : ∀ A', RepT (addW w j g) 9 A' → OffI 10 26 A A' → K none A') : Ct yX10_add mX10_add 2 dC gC [.ref 9, .int (nI j), .ref 6] A K := by
  refine Ct.of [some (.ref 9), some (.int (nI j)), some (.ref 6)] rfl rfl rfl (Nat.le_of_ble_eq_true rfl) ?_
  refine w_aload_n 1 dX10_add_0 rfl rfl ?_
  refine w_iload_n 2 dX10_add_1 rfl rfl ?_
  refine w_inv1 5 dX10_add_2 rfl mlX10_39 rfl rfl (d' := 0) (by decide) (Nat.le_of_ble_eq_true rfl) (c_X10_of_9 hj ?_)
  refine w_aload_n 6 dX10_add_5 rfl rfl ?_
  refine w_inv1 9 dX10_add_6 rfl mlX10_51 (tabOK_of (b := 9) (Or.inl rfl) (hj)).1 (tabOK_of (b := 9) (Or.inl rfl) (hj)).2.2.1 (d' := 1) (by decide) (Nat.le_of_ble_eq_true rfl) (c_X8_add (tabOK_of (b := 9) (Or.inl rfl) (hj)) (hT j hj) hn ?_)
  refine wr_v dX10_add_9 rfl ?_
  refine h _ (fun i hi => ?_) ((OffI.rf.cpy (by omega) (by omega) _ _ _ _).upd (by omega) (by omega) _ _)
  by_cases e : i = j
  · subst e
    exact ((hT i hi).add hn hg).eqf (by simp [addW]) (fun r c _ _ => by simp [addW])
  · exact ((hT i hi).cong (by dsimp only; rw [upd2_ne (by omega), cpy2_ne (by omega)]) (by dsimp only; rw [upd2_ne (by omega), cpy2_ne (by omega)])).eqf (by simp [addW, e]) (fun r c _ _ => by simp [addW, e])

set_option maxRecDepth 4000 in
theorem c_X10_copyFrom {K : Option Value → AH → Prop} {A : AH} {w : WT} (hT : RepT w 9 A) (h : ∀ A', RepT w 26 A' → OffI 27 43 A A' → K none A') : Ct yX10_copyFrom mX10_copyFrom 2 dC gC [.ref 26, .ref 9] A K := by
  refine Ct.of [some (.ref 26), some (.ref 9), none] rfl rfl rfl (Nat.le_of_ble_eq_true rfl) ?_
  have lp2 : ∀ (n : Nat) (i : Nat) (A' : AH), i ≤ 8 → (∀ j, j < i → RepB (w.1 j) (w.2 j) (26 + 1 + 2 * j) A') → OffI 27 43 A A' → 8 - i < n → WP mX10_copyFrom 2 dC gC 2 [some (.ref 26), some (.ref 9), some (.int (nI i))] [] A' K := by
    intro n
    induction n with
    | zero => intros; omega
    | succ n ih =>
      intro i A' hi hz hO hms
      have hT2 : RepT w 9 A' := hT.cong (fun x h1 h2 => (hO x (by omega)).1)
      refine w_iload_n 3 dX10_copyFrom_2 rfl rfl ?_
      refine w_bipush 5 dX10_copyFrom_3 rfl (v := nI 7) rfl ?_
      refine w_icgtN 27 8 dX10_copyFrom_5 rfl rfl (by omega) (by omega) (fun c5 => ?_) (fun c5 => ?_)
      · skip
        refine wr_v dX10_copyFrom_27 rfl ?_
        exact h A' (fun j hj => hz j (by omega)) hO
      · skip
        refine w_aload_n 9 dX10_copyFrom_8 rfl rfl ?_
        refine w_iload_n 10 dX10_copyFrom_9 rfl rfl ?_
        refine w_inv1 13 dX10_copyFrom_10 rfl mlX10_39 rfl rfl (d' := 0) (by decide) (Nat.le_of_ble_eq_true rfl) (c_X10_of_26 (by omega) ?_)
        refine w_aload_n 14 dX10_copyFrom_13 rfl rfl ?_
        refine w_iload_n 15 dX10_copyFrom_14 rfl rfl ?_
        refine w_inv1 18 dX10_copyFrom_15 rfl mlX10_39 rfl rfl (d' := 0) (by decide) (Nat.le_of_ble_eq_true rfl) (c_X10_of_9 (by omega) ?_)
        refine w_inv1 21 dX10_copyFrom_18 rfl mlX10_47 (tabOK_of (b := 26) (Or.inr rfl) (by omega)).1 (tabOK_of (b := 26) (Or.inr rfl) (by omega)).2.2.1 (d' := 1) (by decide) (Nat.le_of_ble_eq_true rfl) (c_X8_copyFrom (tabOK_of (b := 26) (Or.inr rfl) (by omega)) (tabOK_of (b := 9) (Or.inl rfl) (by omega)) (by omega) ?_)
        refine w_inc2 24 dX10_copyFrom_21 rfl (by decide) rfl (v := nI (_ + 1)) (nI_1 _) ?_
        refine w_goto 2 dX10_copyFrom_24 rfl ?_
        refine ih (i + 1) _ (by omega) (fun j hj => ?_) ((hO.cpy (by omega) (by omega) _ _ _ _).upd (by omega) (by omega) _ _) (by omega)
        by_cases e : j = i
        · subst e
          exact (hT2 j (by omega)).copy (by omega)
        · exact (hz j (by omega)).cong (by dsimp only; rw [upd2_ne (by omega), cpy2_ne (by omega)]) (by dsimp only; rw [upd2_ne (by omega), cpy2_ne (by omega)])
  refine w_iconst 1 dX10_copyFrom_0 rfl (v := nI 0) rfl ?_
  refine w_ist2 2 dX10_copyFrom_1 rfl (by decide) rfl ?_
  exact lp2 9 0 A (Nat.zero_le _) (fun j hj => absurd hj (Nat.not_lt_zero j)) OffI.rf (by omega)
