/-! ===== the state row ===== -/
def RepS (s : Nat → Nat) (A : AH) : Prop := ∀ k, k < 51 → A.1 44 k = nI (s k)
def updN (s : Nat → Nat) (k v : Nat) : Nat → Nat := fun j => if j = k then v else s j
theorem updN_at {s : Nat → Nat} {k v : Nat} : updN s k v k = v := by simp [updN]
theorem updN_ne {s : Nat → Nat} {k v j : Nat} (h : j ≠ k) : updN s k v j = s j := by simp [updN, h]
theorem RepS.upd {s : Nat → Nat} {A : AH} (h : RepS s A) (k v : Nat) : RepS (updN s k v) (upd2 A.1 44 k (nI v), A.2) := by
  intro j hj
  by_cases e : j = k
  · subst e
    simp [upd2, updN]
  · simp [upd2, updN, e, h j hj]
/-- nothing but the rows o has changed -/
def Off (o : Nat) (A A' : AH) : Prop := A'.2 = A.2 ∧ ∀ x, x ≠ o → A'.1 x = A.1 x
theorem Off.rf {o : Nat} {A : AH} : Off o A A := ⟨rfl, fun _ _ => rfl⟩
theorem Off.upd {o : Nat} {A A' : AH} (h : Off o A A') (k : Nat) (x : Int32) : Off o A (upd2 A'.1 o k x, A'.2) := ⟨h.1, fun y hy => (upd2_ne hy).trans (h.2 y hy)⟩
theorem Off.tr {o : Nat} {A B C : AH} (h : Off o A B) (h2 : Off o B C) : Off o A C := ⟨h2.1.trans h.1, fun y hy => (h2.2 y hy).trans (h.2 y hy)⟩
def cz (s : Nat → Nat) (t c : Nat) : Nat := if t < s 1 then s (3 + t * 6 + c) else 0
/-- numbers of a row, as the machine needs them small -/
def okS (s : Nat → Nat) : Prop := s 0 ≤ 999 ∧ s 1 ≤ 8 ∧ s 2 < 256 ∧ ∀ t, t < s 1 → s (3 + t * 6) ≤ 3 ∧ s (3 + t * 6 + 1) < 7 ∧ s (3 + t * 6 + 2) < 7 ∧ s (3 + t * 6 + 3) ≤ 99 ∧ s (3 + t * 6 + 4) ≤ 20 ∧ s (3 + t * 6 + 5) ≤ s 0
/-- strength behind n more years -/
def stg (s : Nat → Nat) (t n : Nat) : Nat :=
  if (s 2).testBit t then 0
  else if cz s t 0 = 1 then cz s t 3 - cz s t 4 * (s 0 - cz s t 5 + n)
  else if cz s t 0 = 2 then (if cz s t 3 + cz s t 4 * (s 0 - cz s t 5 + n) < 99 then cz s t 3 + cz s t 4 * (s 0 - cz s t 5 + n) else 99)
  else if cz s t 0 = 3 then (if cz s t 4 ≤ s 0 - cz s t 5 + n then 0 else cz s t 3)
  else cz s t 3
theorem cz_ok {s : Nat → Nat} (h : okS s) (t : Nat) : cz s t 0 ≤ 3 ∧ cz s t 1 < 7 ∧ cz s t 2 < 7 ∧ cz s t 3 ≤ 99 ∧ cz s t 4 ≤ 20 ∧ cz s t 5 ≤ s 0 := by
  unfold cz
  split
  · next ht => exact h.2.2.2 t ht
  · omega
theorem stg_le {s : Nat → Nat} (h : okS s) (t n : Nat) : stg s t n ≤ 99 := by
  obtain ⟨-, -, -, h3, -, -⟩ := cz_ok h t
  unfold stg
  repeat' split
  all_goals omega
theorem i8 {t c : Int32} {n : Nat} (h : 0 ≤ t ∧ t < nI n ∧ t < nI 8 ∧ 0 ≤ c ∧ c < nI 6) (hn : n ≤ 8) : ∃ t' c' : Nat, t = nI t' ∧ c = nI c' ∧ t' < n ∧ c' < 6 := by
  obtain ⟨h1, h2, h3, h4, h5⟩ := h
  obtain ⟨t', ht, rfl⟩ := nI_of (Int32.not_lt.mpr h1)
  obtain ⟨c', hc, rfl⟩ := nI_of (Int32.not_lt.mpr h4)
  rw [nI_ltI ht (by omega)] at h2
  rw [nI_ltI hc (by omega)] at h5
  exact ⟨t', c', rfl, rfl, h2, h5⟩
set_option maxRecDepth 4000 in
theorem c_X7_isThere {K : Option Value → AH → Prop} {A : AH} {s : Nat → Nat} {t c : Int32} (hS : RepS s A) (h : K (some (.int (b2i (decide (0 ≤ t ∧ t < nI (s 1) ∧ t < nI 8 ∧ 0 ≤ c ∧ c < nI 6))))) A) : Ct yX7_isThere mX7_isThere 0 dC gC [.ref 43, .int t, .int c] A K := by
  refine Ct.of [some (.ref 43), some (.int t), some (.int c)] rfl rfl rfl (Nat.le_of_ble_eq_true rfl) ?_
  refine w_iload_n 1 dX7_isThere_0 rfl rfl ?_
  refine w_iflt 34 4 dX7_isThere_1 rfl rfl (fun c1 => ?_) (fun c1 => ?_)
  · skip
    refine w_iconst 35 dX7_isThere_34 rfl (v := nI 0) rfl ?_
    refine wr_z dX7_isThere_35 rfl (by first | rfl | exact nb_b2i _) ?_
    exact kq h (by clear h; simp only [b2i, Int32.lt_iff_toInt_lt, Int32.le_iff_toInt_le, decide_eq_true_eq, Int32.toInt_zero] at *; (repeat' split) <;> first | rfl | (exfalso; omega) | omega)
  · skip
    refine w_iload_n 5 dX7_isThere_4 rfl rfl ?_
    refine w_aload_n 6 dX7_isThere_5 rfl rfl ?_
    refine w_getr 9 dX7_isThere_6 rfl faX7_11 rfl rfl rfl (r := .ref 44) rfl ?_
    refine w_iconst 10 dX7_isThere_9 rfl (v := nI 1) rfl ?_
    refine w_ialdv 11 dX7_isThere_10 rfl rfl rfl (by decide) (by omega) (hS 1 (by decide)) ?_
    refine w_icge 34 14 dX7_isThere_11 rfl rfl (fun c11 => ?_) (fun c11 => ?_)
    · skip
      refine w_iconst 35 dX7_isThere_34 rfl (v := nI 0) rfl ?_
      refine wr_z dX7_isThere_35 rfl (by first | rfl | exact nb_b2i _) ?_
      exact kq h (by clear h; simp only [b2i, Int32.lt_iff_toInt_lt, Int32.le_iff_toInt_le, decide_eq_true_eq, Int32.toInt_zero] at *; (repeat' split) <;> first | rfl | (exfalso; omega) | omega)
    · skip
      refine w_iload_n 15 dX7_isThere_14 rfl rfl ?_
      refine w_bipush 17 dX7_isThere_15 rfl (v := nI 8) rfl ?_
      refine w_icge 34 20 dX7_isThere_17 rfl rfl (fun c17 => ?_) (fun c17 => ?_)
      · skip
        refine w_iconst 35 dX7_isThere_34 rfl (v := nI 0) rfl ?_
        refine wr_z dX7_isThere_35 rfl (by first | rfl | exact nb_b2i _) ?_
        exact kq h (by clear h; simp only [b2i, Int32.lt_iff_toInt_lt, Int32.le_iff_toInt_le, decide_eq_true_eq, Int32.toInt_zero] at *; (repeat' split) <;> first | rfl | (exfalso; omega) | omega)
      · skip
        refine w_iload_n 21 dX7_isThere_20 rfl rfl ?_
        refine w_iflt 34 24 dX7_isThere_21 rfl rfl (fun c21 => ?_) (fun c21 => ?_)
        · skip
          refine w_iconst 35 dX7_isThere_34 rfl (v := nI 0) rfl ?_
          refine wr_z dX7_isThere_35 rfl (by first | rfl | exact nb_b2i _) ?_
          exact kq h (by clear h; simp only [b2i, Int32.lt_iff_toInt_lt, Int32.le_iff_toInt_le, decide_eq_true_eq, Int32.toInt_zero] at *; (repeat' split) <;> first | rfl | (exfalso; omega) | omega)
        · skip
          refine w_iload_n 25 dX7_isThere_24 rfl rfl ?_
          refine w_bipush 27 dX7_isThere_25 rfl (v := nI 6) rfl ?_
          refine w_icge 34 30 dX7_isThere_27 rfl rfl (fun c27 => ?_) (fun c27 => ?_)
          · skip
            refine w_iconst 35 dX7_isThere_34 rfl (v := nI 0) rfl ?_
            refine wr_z dX7_isThere_35 rfl (by first | rfl | exact nb_b2i _) ?_
            exact kq h (by clear h; simp only [b2i, Int32.lt_iff_toInt_lt, Int32.le_iff_toInt_le, decide_eq_true_eq, Int32.toInt_zero] at *; (repeat' split) <;> first | rfl | (exfalso; omega) | omega)
          · skip
            refine w_iconst 31 dX7_isThere_30 rfl (v := nI 1) rfl ?_
            refine w_goto 35 dX7_isThere_31 rfl ?_
            refine wr_z dX7_isThere_35 rfl (by first | rfl | exact nb_b2i _) ?_
            exact kq h (by clear h; simp only [b2i, Int32.lt_iff_toInt_lt, Int32.le_iff_toInt_le, decide_eq_true_eq, Int32.toInt_zero] at *; (repeat' split) <;> first | rfl | (exfalso; omega) | omega)

set_option maxRecDepth 4000 in
theorem c_X7_cell {K : Option Value → AH → Prop} {A : AH} {s : Nat → Nat} {t c : Int32} (hS : RepS s A) (hn : s 1 ≤ 8) (h0 : ¬ (0 ≤ t ∧ t < nI (s 1) ∧ t < nI 8 ∧ 0 ≤ c ∧ c < nI 6) → K (some (.int (nI 0))) A) (h1 : ∀ t' c' : Nat, t = nI t' → c = nI c' → t' < s 1 → c' < 6 → K (some (.int (nI (s (3 + t' * 6 + c'))))) A) : Ct yX7_cell mX7_cell 1 dC gC [.ref 43, .int t, .int c] A K := by
  refine Ct.of [some (.ref 43), some (.int t), some (.int c)] rfl rfl rfl (Nat.le_of_ble_eq_true rfl) ?_
  refine w_aload_n 1 dX7_cell_0 rfl rfl ?_
  refine w_iload_n 2 dX7_cell_1 rfl rfl ?_
  refine w_iload_n 3 dX7_cell_2 rfl rfl ?_
  refine w_inv2 6 dX7_cell_3 rfl mlX7_32 rfl rfl (d' := 0) (by decide) (Nat.le_of_ble_eq_true rfl) (c_X7_isThere hS ?_)
  refine w_ifeqB 25 9 dX7_cell_6 rfl rfl (fun c6 => ?_) (fun c6 => ?_)
  · skip
    refine w_iconst 26 dX7_cell_25 rfl (v := nI 0) rfl ?_
    refine wr_i dX7_cell_26 rfl ?_
    exact h0 (of_decide_eq_false c6)
  · skip
    obtain ⟨t', c', rfl, rfl, ht, hc⟩ := i8 (of_decide_eq_true c6) hn
    refine w_aload_n 10 dX7_cell_9 rfl rfl ?_
    refine w_getr 13 dX7_cell_10 rfl faX7_11 rfl rfl rfl (r := .ref 44) rfl ?_
    refine w_iconst 14 dX7_cell_13 rfl (v := nI 3) rfl ?_
    refine w_iload_n 15 dX7_cell_14 rfl rfl ?_
    refine w_bipush 17 dX7_cell_15 rfl (v := nI 6) rfl ?_
    refine w_imul 18 dX7_cell_17 rfl ?_
    refine w_iadd 19 dX7_cell_18 rfl ?_
    refine w_iload_n 20 dX7_cell_19 rfl rfl ?_
    refine w_iadd 21 dX7_cell_20 rfl ?_
    refine w_top (by rw [pk_mul, nI_add, nI_add]) ?_
    refine w_ialdv 22 dX7_cell_21 rfl rfl rfl (by decide) (by omega) (hS _ (by omega)) ?_
    refine w_goto 26 dX7_cell_22 rfl ?_
    refine wr_i dX7_cell_26 rfl ?_
    exact h1 t' c' rfl rfl ht hc

theorem c_X7_cellN {K : Option Value → AH → Prop} {A : AH} {s : Nat → Nat} {t c : Nat} (hS : RepS s A) (hn : s 1 ≤ 8) (ht : t < 2 ^ 31) (hc : c < 6) (h : K (some (.int (nI (cz s t c)))) A) : Ct yX7_cell mX7_cell 1 dC gC [.ref 43, .int (nI t), .int (nI c)] A K := by
  refine c_X7_cell hS hn (fun hz => ?_) (fun t' c' e1 e2 h1 h2 => ?_)
  · have : ¬ t < s 1 := fun q => hz ⟨nI_pos' ht, (nI_ltI ht (by omega)).mpr q, (nI_ltI ht (by decide)).mpr (by omega), nI_pos' (by omega), (nI_ltI (by omega) (by decide)).mpr hc⟩
    rw [cz, if_neg this] at h
    exact h
  · have e3 := (nI_eq ht (by omega)).mp e1
    have e4 := (nI_eq (by omega) (by omega)).mp e2
    subst e3; subst e4
    rw [cz, if_pos h1] at h
    exact h
theorem c_X7_cell0 {K : Option Value → AH → Prop} {A : AH} {s : Nat → Nat} {t c : Int32} (hS : RepS s A) (hn : s 1 ≤ 8) (ht : t < 0 ∨ nI (s 1) ≤ t) (h : K (some (.int (nI 0))) A) : Ct yX7_cell mX7_cell 1 dC gC [.ref 43, .int t, .int c] A K := by
  refine c_X7_cell hS hn (fun _ => h) (fun t' c' e1 e2 h1 h2 => ?_)
  subst e1
  rcases ht with q | q
  · exact absurd q (nI_lt0 (by omega))
  · rw [nI_leI (by omega) (by omega)] at q; omega
set_option maxRecDepth 4000 in
theorem c_X7_threads {K : Option Value → AH → Prop} {A : AH} {s : Nat → Nat} (hS : RepS s A) (h : K (some (.int (nI (s 1)))) A) : Ct yX7_threads mX7_threads 0 dC gC [.ref 43] A K := by
  refine Ct.of [some (.ref 43)] rfl rfl rfl (Nat.le_of_ble_eq_true rfl) ?_
  refine w_aload_n 1 dX7_threads_0 rfl rfl ?_
  refine w_getr 4 dX7_threads_1 rfl faX7_11 rfl rfl rfl (r := .ref 44) rfl ?_
  refine w_iconst 5 dX7_threads_4 rfl (v := nI 1) rfl ?_
  refine w_ialdv 6 dX7_threads_5 rfl rfl rfl (by decide) (by omega) (hS 1 (by decide)) ?_
  refine wr_i dX7_threads_6 rfl ?_
  exact h

set_option maxRecDepth 4000 in
theorem c_X7_yearsGone {K : Option Value → AH → Prop} {A : AH} {s : Nat → Nat} (hS : RepS s A) (h : K (some (.int (nI (s 0)))) A) : Ct yX7_yearsGone mX7_yearsGone 0 dC gC [.ref 43] A K := by
  refine Ct.of [some (.ref 43)] rfl rfl rfl (Nat.le_of_ble_eq_true rfl) ?_
  refine w_aload_n 1 dX7_yearsGone_0 rfl rfl ?_
  refine w_getr 4 dX7_yearsGone_1 rfl faX7_11 rfl rfl rfl (r := .ref 44) rfl ?_
  refine w_iconst 5 dX7_yearsGone_4 rfl (v := nI 0) rfl ?_
  refine w_ialdv 6 dX7_yearsGone_5 rfl rfl rfl (by decide) (by omega) (hS 0 (by decide)) ?_
  refine wr_i dX7_yearsGone_6 rfl ?_
  exact h

set_option maxRecDepth 4000 in
theorem c_X7_isSnapped {K : Option Value → AH → Prop} {A : AH} {s : Nat → Nat} {t : Int32} (hS : RepS s A) (h : K (some (.int (b2i (hasB (nI (s 2)) t)))) A) : Ct yX7_isSnapped mX7_isSnapped 1 dC gC [.ref 43, .int t] A K := by
  refine Ct.of [some (.ref 43), some (.int t)] rfl rfl rfl (Nat.le_of_ble_eq_true rfl) ?_
  refine w_aload_n 1 dX7_isSnapped_0 rfl rfl ?_
  refine w_getr 4 dX7_isSnapped_1 rfl faX7_11 rfl rfl rfl (r := .ref 44) rfl ?_
  refine w_iconst 5 dX7_isSnapped_4 rfl (v := nI 2) rfl ?_
  refine w_ialdv 6 dX7_isSnapped_5 rfl rfl rfl (by decide) (by omega) (hS 2 (by decide)) ?_
  refine w_iload_n 7 dX7_isSnapped_6 rfl rfl ?_
  refine w_invs2 10 dX7_isSnapped_7 rfl slX7_39 (d' := 0) (by decide) (Nat.le_of_ble_eq_true rfl) (c_X11_has ?_)
  refine wr_z dX7_isSnapped_10 rfl (by first | rfl | exact nb_b2i _) ?_
  exact h

set_option maxRecDepth 4000 in
theorem c_X7_age {K : Option Value → AH → Prop} {A : AH} {s : Nat → Nat} {t : Nat} (hS : RepS s A) (hn : okS s) (ht : t < 2 ^ 31) (h : K (some (.int (nI (s 0 - cz s t 5)))) A) : Ct yX7_age mX7_age 2 dC gC [.ref 43, .int (nI t)] A K := by
  refine Ct.of [some (.ref 43), some (.int (nI t))] rfl rfl rfl (Nat.le_of_ble_eq_true rfl) ?_
  refine w_aload_n 1 dX7_age_0 rfl rfl ?_
  refine w_getr 4 dX7_age_1 rfl faX7_11 rfl rfl rfl (r := .ref 44) rfl ?_
  refine w_iconst 5 dX7_age_4 rfl (v := nI 0) rfl ?_
  refine w_ialdv 6 dX7_age_5 rfl rfl rfl (by decide) (by omega) (hS 0 (by decide)) ?_
  refine w_aload_n 7 dX7_age_6 rfl rfl ?_
  refine w_iload_n 8 dX7_age_7 rfl rfl ?_
  refine w_iconst 9 dX7_age_8 rfl (v := nI 5) rfl ?_
  refine w_inv2 12 dX7_age_9 rfl mlX7_36 rfl rfl (d' := 1) (by decide) (Nat.le_of_ble_eq_true rfl) (c_X7_cellN hS hn.2.1 ht (by decide) ?_)
  refine w_isubN 13 dX7_age_12 rfl (cz_ok hn t).2.2.2.2.2 ?_
  refine wr_i dX7_age_13 rfl ?_
  exact h

set_option maxRecDepth 4000 in
theorem c_X7_age0 {K : Option Value → AH → Prop} {A : AH} {s : Nat → Nat} {t : Int32} (hS : RepS s A) (hn : okS s) (ht : t < 0 ∨ nI (s 1) ≤ t) (h : K (some (.int (nI (s 0)))) A) : Ct yX7_age mX7_age 2 dC gC [.ref 43, .int t] A K := by
  refine Ct.of [some (.ref 43), some (.int t)] rfl rfl rfl (Nat.le_of_ble_eq_true rfl) ?_
  refine w_aload_n 1 dX7_age_0 rfl rfl ?_
  refine w_getr 4 dX7_age_1 rfl faX7_11 rfl rfl rfl (r := .ref 44) rfl ?_
  refine w_iconst 5 dX7_age_4 rfl (v := nI 0) rfl ?_
  refine w_ialdv 6 dX7_age_5 rfl rfl rfl (by decide) (by omega) (hS 0 (by decide)) ?_
  refine w_aload_n 7 dX7_age_6 rfl rfl ?_
  refine w_iload_n 8 dX7_age_7 rfl rfl ?_
  refine w_iconst 9 dX7_age_8 rfl (v := nI 5) rfl ?_
  refine w_inv2 12 dX7_age_9 rfl mlX7_36 rfl rfl (d' := 1) (by decide) (Nat.le_of_ble_eq_true rfl) (c_X7_cell0 hS hn.2.1 ht ?_)
  refine w_isubN 13 dX7_age_12 rfl (Nat.zero_le _) ?_
  refine wr_i dX7_age_13 rfl ?_
  exact h

theorem max0 {a b : Nat} (ha : a < 2 ^ 30) (hb : b < 2 ^ 30) : (if nI 0 < nI a - nI b then nI a - nI b else nI 0) = nI (a - b) := by
  by_cases h : b ≤ a
  · rw [pk_sub h]
    by_cases h2 : a - b = 0
    · rw [h2]; simp
    · rw [if_pos ((nI_ltI (by decide) (by omega)).mpr (by omega))]
  · have h1 := pk_sneg (a := a) (b := b) hb (by omega)
    have h2 : ¬ nI 0 < nI a - nI b := fun q => by
      rw [nI_0] at q
      simp only [Int32.lt_iff_toInt_lt] at h1 q
      omega
    rw [if_neg h2, show a - b = 0 by omega]
theorem min99 {a : Nat} (ha : a < 2 ^ 31) : (if nI a < nI 99 then nI a else nI 99) = nI (if a < 99 then a else 99) := by
  by_cases h : a < 99
  · rw [if_pos ((nI_ltI ha (by decide)).mpr h), if_pos h]
  · rw [if_neg (fun q => h ((nI_ltI ha (by decide)).mp q)), if_neg h]
set_option maxRecDepth 4000 in
theorem c_X7_strength {K : Option Value → AH → Prop} {A : AH} {s : Nat → Nat} {t n : Nat} (hS : RepS s A) (hn : okS s) (ht : t < 32) (hnn : n ≤ 60) (h : K (some (.int (nI (stg s t n)))) A) : Ct yX7_strength mX7_strength 2 dC gC [.ref 43, .int (nI t), .int (nI n)] A K := by
  refine Ct.of [some (.ref 43), some (.int (nI t)), some (.int (nI n)), none, none, none] rfl rfl rfl (Nat.le_of_ble_eq_true rfl) ?_
  obtain ⟨z0, z1, z2, z3, z4, z5⟩ := cz_ok hn t
  have zz := hn.1
  have zm : cz s t 4 * (s 0 - cz s t 5 + n) ≤ 20 * (s 0 - cz s t 5 + n) := Nat.mul_le_mul_right _ z4
  refine w_aload_n 1 dX7_strength_0 rfl rfl ?_
  refine w_iload_n 2 dX7_strength_1 rfl rfl ?_
  refine w_inv1 5 dX7_strength_2 rfl mlX7_42 rfl rfl (d' := 1) (by decide) (Nat.le_of_ble_eq_true rfl) (c_X7_isSnapped hS ?_)
  rw [hasB_nI (Nat.lt_trans hn.2.2.1 (by decide)) (by omega)]
  refine w_ifeqB 10 8 dX7_strength_5 rfl rfl (fun c5 => ?_) (fun c5 => ?_)
  · skip
    refine w_aload_n 11 dX7_strength_10 rfl rfl ?_
    refine w_iload_n 12 dX7_strength_11 rfl rfl ?_
    refine w_iconst 13 dX7_strength_12 rfl (v := nI 3) rfl ?_
    refine w_inv2 16 dX7_strength_13 rfl mlX7_36 rfl rfl (d' := 1) (by decide) (Nat.le_of_ble_eq_true rfl) (c_X7_cellN hS hn.2.1 (by omega) (by decide) ?_)
    refine w_ist3 17 dX7_strength_16 rfl (by decide) rfl ?_
    refine w_aload_n 18 dX7_strength_17 rfl rfl ?_
    refine w_iload_n 19 dX7_strength_18 rfl rfl ?_
    refine w_iconst 20 dX7_strength_19 rfl (v := nI 4) rfl ?_
    refine w_inv2 23 dX7_strength_20 rfl mlX7_36 rfl rfl (d' := 1) (by decide) (Nat.le_of_ble_eq_true rfl) (c_X7_cellN hS hn.2.1 (by omega) (by decide) ?_)
    refine w_ist4 25 dX7_strength_23 rfl (by decide) rfl ?_
    refine w_aload_n 26 dX7_strength_25 rfl rfl ?_
    refine w_getr 29 dX7_strength_26 rfl faX7_11 rfl rfl rfl (r := .ref 44) rfl ?_
    refine w_iconst 30 dX7_strength_29 rfl (v := nI 0) rfl ?_
    refine w_ialdv 31 dX7_strength_30 rfl rfl rfl (by decide) (by omega) (hS 0 (by decide)) ?_
    refine w_aload_n 32 dX7_strength_31 rfl rfl ?_
    refine w_iload_n 33 dX7_strength_32 rfl rfl ?_
    refine w_iconst 34 dX7_strength_33 rfl (v := nI 5) rfl ?_
    refine w_inv2 37 dX7_strength_34 rfl mlX7_36 rfl rfl (d' := 1) (by decide) (Nat.le_of_ble_eq_true rfl) (c_X7_cellN hS hn.2.1 (by omega) (by decide) ?_)
    refine w_isubN 38 dX7_strength_37 rfl z5 ?_
    refine w_iload_n 39 dX7_strength_38 rfl rfl ?_
    refine w_iaddN 40 dX7_strength_39 rfl ?_
    refine w_ist5 42 dX7_strength_40 rfl (by decide) rfl ?_
    refine w_aload_n 43 dX7_strength_42 rfl rfl ?_
    refine w_iload_n 44 dX7_strength_43 rfl rfl ?_
    refine w_iconst 45 dX7_strength_44 rfl (v := nI 0) rfl ?_
    refine w_inv2 48 dX7_strength_45 rfl mlX7_36 rfl rfl (d' := 1) (by decide) (Nat.le_of_ble_eq_true rfl) (c_X7_cellN hS hn.2.1 (by omega) (by decide) ?_)
    have zk : cz s t 0 = 0 ∨ cz s t 0 = 1 ∨ cz s t 0 = 2 ∨ cz s t 0 = 3 := by omega
    rcases zk with zk | zk | zk | zk
    · skip
      rw [zk]
      refine w_tabOut 114 dX7_strength_48 (by decide) rfl ?_
      refine w_iload_n 115 dX7_strength_114 rfl rfl ?_
      refine wr_i dX7_strength_115 rfl ?_
      exact kq h (by simp [stg, c5, zk])
    · skip
      rw [zk]
      refine w_tabIn 76 dX7_strength_48 (by decide) (by decide) rfl rfl ?_
      refine w_iconst 77 dX7_strength_76 rfl (v := nI 0) rfl ?_
      refine w_iload_n 78 dX7_strength_77 rfl rfl ?_
      refine w_iload 80 dX7_strength_78 rfl rfl ?_
      refine w_iload 82 dX7_strength_80 rfl rfl ?_
      refine w_imulN 83 dX7_strength_82 rfl ?_
      refine w_isub 84 dX7_strength_83 rfl ?_
      refine w_mmax 87 dX7_strength_84 rfl mxX7_46 (by decide) (Nat.le_of_ble_eq_true rfl) ?_
      refine w_top (show _ = nI (cz s t 3 - cz s t 4 * (s 0 - cz s t 5 + n)) from max0 (by omega) (by omega)) ?_
      refine wr_i dX7_strength_87 rfl ?_
      exact kq h (by simp [stg, c5, zk])
    · skip
      rw [zk]
      refine w_tabIn 88 dX7_strength_48 (by decide) (by decide) rfl rfl ?_
      refine w_bipush 90 dX7_strength_88 rfl (v := nI 99) rfl ?_
      refine w_iload_n 91 dX7_strength_90 rfl rfl ?_
      refine w_iload 93 dX7_strength_91 rfl rfl ?_
      refine w_iload 95 dX7_strength_93 rfl rfl ?_
      refine w_imulN 96 dX7_strength_95 rfl ?_
      refine w_iaddN 97 dX7_strength_96 rfl ?_
      refine w_mmin 100 dX7_strength_97 rfl mxX7_51 (by decide) (Nat.le_of_ble_eq_true rfl) ?_
      refine w_top (show _ = nI (if cz s t 3 + cz s t 4 * (s 0 - cz s t 5 + n) < 99 then cz s t 3 + cz s t 4 * (s 0 - cz s t 5 + n) else 99) from min99 (by omega)) ?_
      refine wr_i dX7_strength_100 rfl ?_
      exact kq h (by simp [stg, c5, zk])
    · skip
      rw [zk]
      refine w_tabIn 101 dX7_strength_48 (by decide) (by decide) rfl rfl ?_
      refine w_iload 103 dX7_strength_101 rfl rfl ?_
      refine w_iload 105 dX7_strength_103 rfl rfl ?_
      refine w_icltN 112 108 dX7_strength_105 rfl rfl (by omega) (by omega) (fun c105 => ?_) (fun c105 => ?_)
      · skip
        refine w_iload_n 113 dX7_strength_112 rfl rfl ?_
        refine wr_i dX7_strength_113 rfl ?_
        exact kq h (by simp [stg, c5, zk, Nat.not_le.mpr c105])
      · skip
        refine w_iconst 109 dX7_strength_108 rfl (v := nI 0) rfl ?_
        refine w_goto 113 dX7_strength_109 rfl ?_
        refine wr_i dX7_strength_113 rfl ?_
        exact kq h (by simp [stg, c5, zk, c105])
  · skip
    refine w_iconst 9 dX7_strength_8 rfl (v := nI 0) rfl ?_
    refine wr_i dX7_strength_9 rfl ?_
    exact kq h (by simp [stg, c5])

set_option maxRecDepth 4000 in
theorem c_X7_strength0 {K : Option Value → AH → Prop} {A : AH} {s : Nat → Nat} {t : Int32} (hS : RepS s A) (hn : okS s) (ht : t < 0 ∨ nI (s 1) ≤ t) (h : K (some (.int (nI 0))) A) : Ct yX7_strength mX7_strength 2 dC gC [.ref 43, .int t, .int (nI 0)] A K := by
  refine Ct.of [some (.ref 43), some (.int t), some (.int (nI 0)), none, none, none] rfl rfl rfl (Nat.le_of_ble_eq_true rfl) ?_
  refine w_aload_n 1 dX7_strength_0 rfl rfl ?_
  refine w_iload_n 2 dX7_strength_1 rfl rfl ?_
  refine w_inv1 5 dX7_strength_2 rfl mlX7_42 rfl rfl (d' := 1) (by decide) (Nat.le_of_ble_eq_true rfl) (c_X7_isSnapped hS ?_)
  refine w_ifeqB 10 8 dX7_strength_5 rfl rfl (fun c5 => ?_) (fun c5 => ?_)
  · skip
    refine w_aload_n 11 dX7_strength_10 rfl rfl ?_
    refine w_iload_n 12 dX7_strength_11 rfl rfl ?_
    refine w_iconst 13 dX7_strength_12 rfl (v := nI 3) rfl ?_
    refine w_inv2 16 dX7_strength_13 rfl mlX7_36 rfl rfl (d' := 1) (by decide) (Nat.le_of_ble_eq_true rfl) (c_X7_cell0 hS hn.2.1 ht ?_)
    refine w_ist3 17 dX7_strength_16 rfl (by decide) rfl ?_
    refine w_aload_n 18 dX7_strength_17 rfl rfl ?_
    refine w_iload_n 19 dX7_strength_18 rfl rfl ?_
    refine w_iconst 20 dX7_strength_19 rfl (v := nI 4) rfl ?_
    refine w_inv2 23 dX7_strength_20 rfl mlX7_36 rfl rfl (d' := 1) (by decide) (Nat.le_of_ble_eq_true rfl) (c_X7_cell0 hS hn.2.1 ht ?_)
    refine w_ist4 25 dX7_strength_23 rfl (by decide) rfl ?_
    refine w_aload_n 26 dX7_strength_25 rfl rfl ?_
    refine w_getr 29 dX7_strength_26 rfl faX7_11 rfl rfl rfl (r := .ref 44) rfl ?_
    refine w_iconst 30 dX7_strength_29 rfl (v := nI 0) rfl ?_
    refine w_ialdv 31 dX7_strength_30 rfl rfl rfl (by decide) (by omega) (hS 0 (by decide)) ?_
    refine w_aload_n 32 dX7_strength_31 rfl rfl ?_
    refine w_iload_n 33 dX7_strength_32 rfl rfl ?_
    refine w_iconst 34 dX7_strength_33 rfl (v := nI 5) rfl ?_
    refine w_inv2 37 dX7_strength_34 rfl mlX7_36 rfl rfl (d' := 1) (by decide) (Nat.le_of_ble_eq_true rfl) (c_X7_cell0 hS hn.2.1 ht ?_)
    refine w_isubN 38 dX7_strength_37 rfl (Nat.zero_le _) ?_
    refine w_iload_n 39 dX7_strength_38 rfl rfl ?_
    refine w_iaddN 40 dX7_strength_39 rfl ?_
    refine w_ist5 42 dX7_strength_40 rfl (by decide) rfl ?_
    refine w_aload_n 43 dX7_strength_42 rfl rfl ?_
    refine w_iload_n 44 dX7_strength_43 rfl rfl ?_
    refine w_iconst 45 dX7_strength_44 rfl (v := nI 0) rfl ?_
    refine w_inv2 48 dX7_strength_45 rfl mlX7_36 rfl rfl (d' := 1) (by decide) (Nat.le_of_ble_eq_true rfl) (c_X7_cell0 hS hn.2.1 ht ?_)
    rcases Nat.lt_or_ge 0 1 with zz | zz
    rotate_left 1
    · omega
    · skip
      skip
      refine w_tabOut 114 dX7_strength_48 (by decide) rfl ?_
      refine w_iload_n 115 dX7_strength_114 rfl rfl ?_
      refine wr_i dX7_strength_115 rfl ?_
      exact h
  · skip
    refine w_iconst 9 dX7_strength_8 rfl (v := nI 0) rfl ?_
    refine wr_i dX7_strength_9 rfl ?_
    exact h

set_option maxRecDepth 4000 in
theorem c_X7_passYear {K : Option Value → AH → Prop} {A : AH} {s : Nat → Nat} (hS : RepS s A) (h : K none (upd2 A.1 44 0 (nI (s 0 + 1)), A.2)) : Ct yX7_passYear mX7_passYear 0 dC gC [.ref 43] A K := by
  refine Ct.of [some (.ref 43)] rfl rfl rfl (Nat.le_of_ble_eq_true rfl) ?_
  refine w_aload_n 1 dX7_passYear_0 rfl rfl ?_
  refine w_getr 4 dX7_passYear_1 rfl faX7_11 rfl rfl rfl (r := .ref 44) rfl ?_
  refine w_iconst 5 dX7_passYear_4 rfl (v := nI 0) rfl ?_
  refine w_dup2 6 dX7_passYear_5 rfl ?_
  refine w_ialdv 7 dX7_passYear_6 rfl rfl rfl (by decide) (by omega) (hS 0 (by decide)) ?_
  refine w_iconst 8 dX7_passYear_7 rfl (v := nI 1) rfl ?_
  refine w_iaddN 9 dX7_passYear_8 rfl ?_
  refine w_iastN 10 dX7_passYear_9 rfl rfl rfl (by decide) (by omega) ?_
  refine wr_v dX7_passYear_10 rfl ?_
  exact h

set_option maxRecDepth 4000 in
theorem c_X7_setSnapped {K : Option Value → AH → Prop} {A : AH} {s : Nat → Nat} {t : Nat} (hS : RepS s A) (ht : t < 32) (h : K none (upd2 A.1 44 2 (nI (s 2 ||| 2 ^ t)), A.2)) : Ct yX7_setSnapped mX7_setSnapped 0 dC gC [.ref 43, .int (nI t)] A K := by
  refine Ct.of [some (.ref 43), some (.int (nI t))] rfl rfl rfl (Nat.le_of_ble_eq_true rfl) ?_
  refine w_aload_n 1 dX7_setSnapped_0 rfl rfl ?_
  refine w_getr 4 dX7_setSnapped_1 rfl faX7_11 rfl rfl rfl (r := .ref 44) rfl ?_
  refine w_iconst 5 dX7_setSnapped_4 rfl (v := nI 2) rfl ?_
  refine w_dup2 6 dX7_setSnapped_5 rfl ?_
  refine w_ialdv 7 dX7_setSnapped_6 rfl rfl rfl (by decide) (by omega) (hS 2 (by decide)) ?_
  refine w_iconst 8 dX7_setSnapped_7 rfl (v := nI 1) rfl ?_
  refine w_iload_n 9 dX7_setSnapped_8 rfl rfl ?_
  refine w_shl1 10 dX7_setSnapped_9 rfl (by omega) ?_
  refine w_ior 11 dX7_setSnapped_10 rfl ?_
  refine w_top (nI_or _ _) ?_
  refine w_iastN 12 dX7_setSnapped_11 rfl rfl rfl (by decide) (by omega) ?_
  refine wr_v dX7_setSnapped_12 rfl ?_
  exact h

set_option maxRecDepth 4000 in
theorem c_X7_setCell {K : Option Value → AH → Prop} {A : AH} {s : Nat → Nat} {t c : Nat} {x : Int32} (hS : RepS s A) (hn : s 1 ≤ 8) (ht : t < s 1) (hc : c < 6) (h : K none (upd2 A.1 44 (3 + t * 6 + c) x, A.2)) : Ct yX7_setCell mX7_setCell 1 dC gC [.ref 43, .int (nI t), .int (nI c), .int x] A K := by
  refine Ct.of [some (.ref 43), some (.int (nI t)), some (.int (nI c)), some (.int x)] rfl rfl rfl (Nat.le_of_ble_eq_true rfl) ?_
  refine w_aload_n 1 dX7_setCell_0 rfl rfl ?_
  refine w_iload_n 2 dX7_setCell_1 rfl rfl ?_
  refine w_iload_n 3 dX7_setCell_2 rfl rfl ?_
  refine w_inv2 6 dX7_setCell_3 rfl mlX7_32 rfl rfl (d' := 0) (by decide) (Nat.le_of_ble_eq_true rfl) (c_X7_isThere hS ?_)
  refine w_ifeqB 23 9 dX7_setCell_6 rfl rfl (fun c6 => (by have := of_decide_eq_false c6; exact absurd ⟨nI_pos' (by omega), (nI_ltI (by omega) (by omega)).mpr ht, (nI_ltI (by omega) (by decide)).mpr (by omega), nI_pos' (by omega), (nI_ltI (by omega) (by decide)).mpr hc⟩ this)) (fun c6 => ?_)
  refine w_aload_n 10 dX7_setCell_9 rfl rfl ?_
  refine w_getr 13 dX7_setCell_10 rfl faX7_11 rfl rfl rfl (r := .ref 44) rfl ?_
  refine w_iconst 14 dX7_setCell_13 rfl (v := nI 3) rfl ?_
  refine w_iload_n 15 dX7_setCell_14 rfl rfl ?_
  refine w_bipush 17 dX7_setCell_15 rfl (v := nI 6) rfl ?_
  refine w_imulN 18 dX7_setCell_17 rfl ?_
  refine w_iaddN 19 dX7_setCell_18 rfl ?_
  refine w_iload_n 20 dX7_setCell_19 rfl rfl ?_
  refine w_iaddN 21 dX7_setCell_20 rfl ?_
  refine w_iload_n 22 dX7_setCell_21 rfl rfl ?_
  refine w_iastN 23 dX7_setCell_22 rfl rfl rfl (by decide) (by omega) ?_
  refine wr_v dX7_setCell_23 rfl ?_
  exact h

theorem clr_bit : ∀ {m t : Nat}, m < 256 → t < 8 → nI m &&& (nI (2 ^ t) ^^^ (-1)) = nI (m &&& (255 - 2 ^ t)) := by
  have h : ∀ m : Fin 256, ∀ t : Fin 8, nI m.val &&& (nI (2 ^ t.val) ^^^ (-1)) = nI (m.val &&& (255 - 2 ^ t.val)) := by decide +kernel
  intro m t hm ht
  exact h ⟨m, hm⟩ ⟨t, ht⟩
set_option maxRecDepth 4000 in
theorem c_X7_renew {K : Option Value → AH → Prop} {A : AH} {s : Nat → Nat} {t : Nat} (hS : RepS s A) (hn : okS s) (ht : t < s 1) (h : K none (upd2 (upd2 A.1 44 2 (nI (s 2 &&& (255 - 2 ^ t)))) 44 (3 + t * 6 + 5) (nI (s 0)), A.2)) : Ct yX7_renew mX7_renew 2 dC gC [.ref 43, .int (nI t)] A K := by
  refine Ct.of [some (.ref 43), some (.int (nI t))] rfl rfl rfl (Nat.le_of_ble_eq_true rfl) ?_
  have h8 := hn.2.1
  have hs2 := hn.2.2.1
  refine w_aload_n 1 dX7_renew_0 rfl rfl ?_
  refine w_getr 4 dX7_renew_1 rfl faX7_11 rfl rfl rfl (r := .ref 44) rfl ?_
  refine w_iconst 5 dX7_renew_4 rfl (v := nI 2) rfl ?_
  refine w_dup2 6 dX7_renew_5 rfl ?_
  refine w_ialdv 7 dX7_renew_6 rfl rfl rfl (by decide) (by omega) (hS 2 (by decide)) ?_
  refine w_iconst 8 dX7_renew_7 rfl (v := nI 1) rfl ?_
  refine w_iload_n 9 dX7_renew_8 rfl rfl ?_
  refine w_shl1 10 dX7_renew_9 rfl (by omega) ?_
  refine w_iconst 11 dX7_renew_10 rfl (v := (-1)) rfl ?_
  refine w_ixor 12 dX7_renew_11 rfl ?_
  refine w_iand 13 dX7_renew_12 rfl ?_
  refine w_top (show _ = nI (s 2 &&& (255 - 2 ^ t)) from clr_bit hs2 (by omega)) ?_
  refine w_iastN 14 dX7_renew_13 rfl rfl rfl (by decide) (by omega) ?_
  refine w_aload_n 15 dX7_renew_14 rfl rfl ?_
  refine w_iload_n 16 dX7_renew_15 rfl rfl ?_
  refine w_iconst 17 dX7_renew_16 rfl (v := nI 5) rfl ?_
  refine w_aload_n 18 dX7_renew_17 rfl rfl ?_
  refine w_getr 21 dX7_renew_18 rfl faX7_11 rfl rfl rfl (r := .ref 44) rfl ?_
  refine w_iconst 22 dX7_renew_21 rfl (v := nI 0) rfl ?_
  refine w_ialdv 23 dX7_renew_22 rfl rfl rfl (by decide) (by omega) ((hS.upd 2 (s 2 &&& (255 - 2 ^ t))) 0 (by decide)) ?_
  refine w_inv3 26 dX7_renew_23 rfl mlX7_29 rfl rfl (d' := 1) (by decide) (Nat.le_of_ble_eq_true rfl) (c_X7_setCell (s := updN s 2 (s 2 &&& (255 - 2 ^ t))) (hS.upd 2 _) h8 ht (by decide) ?_)
  refine wr_v dX7_renew_26 rfl ?_
  exact h
