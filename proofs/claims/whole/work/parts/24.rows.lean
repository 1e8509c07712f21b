/-! ===== a thread more ===== -/
theorem c_X7_setCellN {K : Option Value → AH → Prop} {A : AH} {s : Nat → Nat} {t c n : Nat} {x : Int32} (hS : RepS s A) (e : s 1 = n) (hn : n ≤ 8) (ht : t < n) (hc : c < 6) (h : K none (upd2 A.1 44 (3 + t * 6 + c) x, A.2)) : Ct yX7_setCell mX7_setCell 1 dC gC [.ref 43, .int (nI t), .int (nI c), .int x] A K := c_X7_setCell hS (by omega) (by omega) hc h
def addR (s : Nat → Nat) (a b c : Nat) : Nat → Nat := updN (updN (updN (updN (updN (updN (updN s 1 (s 1 + 1)) (3 + s 1 * 6 + 0) 0) (3 + s 1 * 6 + 1) a) (3 + s 1 * 6 + 2) b) (3 + s 1 * 6 + 3) c) (3 + s 1 * 6 + 4) 0) (3 + s 1 * 6 + 5) (s 0)
theorem addR_1 {s : Nat → Nat} {a b c : Nat} : addR s a b c 1 = s 1 + 1 := by
  unfold addR
  repeat rw [updN_ne (by omega)]
  exact updN_at
theorem addR_lo {s : Nat → Nat} {a b c k : Nat} (h : k < 3 + s 1 * 6) (h1 : k ≠ 1) : addR s a b c k = s k := by
  unfold addR
  repeat rw [updN_ne (by omega)]
theorem addR_new {s : Nat → Nat} {a b c : Nat} : addR s a b c (3 + s 1 * 6 + 0) = 0 ∧ addR s a b c (3 + s 1 * 6 + 1) = a ∧ addR s a b c (3 + s 1 * 6 + 2) = b ∧ addR s a b c (3 + s 1 * 6 + 3) = c ∧ addR s a b c (3 + s 1 * 6 + 4) = 0 ∧ addR s a b c (3 + s 1 * 6 + 5) = s 0 := by
  unfold addR
  refine ⟨?_, ?_, ?_, ?_, ?_, ?_⟩
  · rw [updN_ne (by omega), updN_ne (by omega), updN_ne (by omega), updN_ne (by omega), updN_ne (by omega), updN_at]
  · rw [updN_ne (by omega), updN_ne (by omega), updN_ne (by omega), updN_ne (by omega), updN_at]
  · rw [updN_ne (by omega), updN_ne (by omega), updN_ne (by omega), updN_at]
  · rw [updN_ne (by omega), updN_ne (by omega), updN_at]
  · rw [updN_ne (by omega), updN_at]
  · rw [updN_at]
set_option maxRecDepth 4000 in
theorem c_X7_addKept {K : Option Value → AH → Prop} {A : AH} {s : Nat → Nat} {a b c : Nat} (hS : RepS s A) (hn : s 1 < 8) (h : ∀ A', RepS (addR s a b c) A' → Off 44 A A' → K none A') : Ct yX7_addKept mX7_addKept 2 dC gC [.ref 43, .int (nI a), .int (nI b), .int (nI c)] A K := by
  refine Ct.of [some (.ref 43), some (.int (nI a)), some (.int (nI b)), some (.int (nI c)), none] rfl rfl rfl (Nat.le_of_ble_eq_true rfl) ?_
  refine w_aload_n 1 dX7_addKept_0 rfl rfl ?_
  refine w_getr 4 dX7_addKept_1 rfl faX7_11 rfl rfl rfl (r := .ref 44) rfl ?_
  refine w_iconst 5 dX7_addKept_4 rfl (v := nI 1) rfl ?_
  refine w_ialdv 6 dX7_addKept_5 rfl rfl rfl (by decide) (by omega) (hS 1 (by decide)) ?_
  refine w_ist4 8 dX7_addKept_6 rfl (by decide) rfl ?_
  refine w_iload 10 dX7_addKept_8 rfl rfl ?_
  refine w_bipush 12 dX7_addKept_10 rfl (v := nI 8) rfl ?_
  refine w_icgeN 78 15 dX7_addKept_12 rfl rfl (by omega) (by omega) (fun c12 => (by omega)) (fun c12 => ?_)
  refine w_aload_n 16 dX7_addKept_15 rfl rfl ?_
  refine w_getr 19 dX7_addKept_16 rfl faX7_11 rfl rfl rfl (r := .ref 44) rfl ?_
  refine w_iconst 20 dX7_addKept_19 rfl (v := nI 1) rfl ?_
  refine w_iload 22 dX7_addKept_20 rfl rfl ?_
  refine w_iconst 23 dX7_addKept_22 rfl (v := nI 1) rfl ?_
  refine w_iaddN 24 dX7_addKept_23 rfl ?_
  refine w_iastN 25 dX7_addKept_24 rfl rfl rfl (by decide) (by omega) ?_
  have hS1 := hS.upd 1 (s 1 + 1)
  have hO1 := (Off.rf (o := 44) (A := A)).upd 1 (nI (s 1 + 1))
  have e1 : updN s 1 (s 1 + 1) 1 = s 1 + 1 := updN_at
  refine w_aload_n 26 dX7_addKept_25 rfl rfl ?_
  refine w_iload 28 dX7_addKept_26 rfl rfl ?_
  refine w_iconst 29 dX7_addKept_28 rfl (v := nI 0) rfl ?_
  refine w_iconst 30 dX7_addKept_29 rfl (v := nI 0) rfl ?_
  refine w_inv3 33 dX7_addKept_30 rfl mlX7_29 rfl rfl (d' := 1) (by decide) (Nat.le_of_ble_eq_true rfl) (c_X7_setCellN hS1 e1 (by omega) (by omega) (by decide) ?_)
  have hS2 := hS1.upd (3 + s 1 * 6 + 0) (0)
  have hO2 := hO1.upd (3 + s 1 * 6 + 0) (nI (0))
  have e2 : _ = s 1 + 1 := (updN_ne (v := 0) (show 1 ≠ 3 + s 1 * 6 + 0 by omega)).trans e1
  refine w_aload_n 34 dX7_addKept_33 rfl rfl ?_
  refine w_iload 36 dX7_addKept_34 rfl rfl ?_
  refine w_iconst 37 dX7_addKept_36 rfl (v := nI 1) rfl ?_
  refine w_iload_n 38 dX7_addKept_37 rfl rfl ?_
  refine w_inv3 41 dX7_addKept_38 rfl mlX7_29 rfl rfl (d' := 1) (by decide) (Nat.le_of_ble_eq_true rfl) (c_X7_setCellN hS2 e2 (by omega) (by omega) (by decide) ?_)
  have hS3 := hS2.upd (3 + s 1 * 6 + 1) (a)
  have hO3 := hO2.upd (3 + s 1 * 6 + 1) (nI (a))
  have e3 : _ = s 1 + 1 := (updN_ne (v := a) (show 1 ≠ 3 + s 1 * 6 + 1 by omega)).trans e2
  refine w_aload_n 42 dX7_addKept_41 rfl rfl ?_
  refine w_iload 44 dX7_addKept_42 rfl rfl ?_
  refine w_iconst 45 dX7_addKept_44 rfl (v := nI 2) rfl ?_
  refine w_iload_n 46 dX7_addKept_45 rfl rfl ?_
  refine w_inv3 49 dX7_addKept_46 rfl mlX7_29 rfl rfl (d' := 1) (by decide) (Nat.le_of_ble_eq_true rfl) (c_X7_setCellN hS3 e3 (by omega) (by omega) (by decide) ?_)
  have hS4 := hS3.upd (3 + s 1 * 6 + 2) (b)
  have hO4 := hO3.upd (3 + s 1 * 6 + 2) (nI (b))
  have e4 : _ = s 1 + 1 := (updN_ne (v := b) (show 1 ≠ 3 + s 1 * 6 + 2 by omega)).trans e3
  refine w_aload_n 50 dX7_addKept_49 rfl rfl ?_
  refine w_iload 52 dX7_addKept_50 rfl rfl ?_
  refine w_iconst 53 dX7_addKept_52 rfl (v := nI 3) rfl ?_
  refine w_iload_n 54 dX7_addKept_53 rfl rfl ?_
  refine w_inv3 57 dX7_addKept_54 rfl mlX7_29 rfl rfl (d' := 1) (by decide) (Nat.le_of_ble_eq_true rfl) (c_X7_setCellN hS4 e4 (by omega) (by omega) (by decide) ?_)
  have hS5 := hS4.upd (3 + s 1 * 6 + 3) (c)
  have hO5 := hO4.upd (3 + s 1 * 6 + 3) (nI (c))
  have e5 : _ = s 1 + 1 := (updN_ne (v := c) (show 1 ≠ 3 + s 1 * 6 + 3 by omega)).trans e4
  refine w_aload_n 58 dX7_addKept_57 rfl rfl ?_
  refine w_iload 60 dX7_addKept_58 rfl rfl ?_
  refine w_iconst 61 dX7_addKept_60 rfl (v := nI 4) rfl ?_
  refine w_iconst 62 dX7_addKept_61 rfl (v := nI 0) rfl ?_
  refine w_inv3 65 dX7_addKept_62 rfl mlX7_29 rfl rfl (d' := 1) (by decide) (Nat.le_of_ble_eq_true rfl) (c_X7_setCellN hS5 e5 (by omega) (by omega) (by decide) ?_)
  have hS6 := hS5.upd (3 + s 1 * 6 + 4) (0)
  have hO6 := hO5.upd (3 + s 1 * 6 + 4) (nI (0))
  have e6 : _ = s 1 + 1 := (updN_ne (v := 0) (show 1 ≠ 3 + s 1 * 6 + 4 by omega)).trans e5
  refine w_aload_n 66 dX7_addKept_65 rfl rfl ?_
  refine w_iload 68 dX7_addKept_66 rfl rfl ?_
  refine w_iconst 69 dX7_addKept_68 rfl (v := nI 5) rfl ?_
  refine w_aload_n 70 dX7_addKept_69 rfl rfl ?_
  refine w_getr 73 dX7_addKept_70 rfl faX7_11 rfl rfl rfl (r := .ref 44) rfl ?_
  refine w_iconst 74 dX7_addKept_73 rfl (v := nI 0) rfl ?_
  refine w_ialdv 75 dX7_addKept_74 rfl rfl rfl (by decide) (by omega) (show _ = nI (s 0) from (hS6 0 (by decide)).trans (by rw [updN_ne (by omega), updN_ne (by omega), updN_ne (by omega), updN_ne (by omega), updN_ne (by omega), updN_ne (by omega)])) ?_
  refine w_inv3 78 dX7_addKept_75 rfl mlX7_29 rfl rfl (d' := 1) (by decide) (Nat.le_of_ble_eq_true rfl) (c_X7_setCellN hS6 e6 (by omega) (by omega) (by decide) ?_)
  have hS7 := hS6.upd (3 + s 1 * 6 + 5) (s 0)
  have hO7 := hO6.upd (3 + s 1 * 6 + 5) (nI (s 0))
  have e7 : _ = s 1 + 1 := (updN_ne (v := s 0) (show 1 ≠ 3 + s 1 * 6 + 5 by omega)).trans e6
  refine wr_v dX7_addKept_78 rfl ?_
  exact h _ hS7 hO7

theorem RepB.cong {n : Nat} {f : Nat → Nat → Nat} {t : Nat} {A A' : AH} (h : RepB n f t A) (h1 : A'.1 t = A.1 t) (h2 : A'.1 (t + 1) = A.1 (t + 1)) : RepB n f t A' := ⟨by rw [h1]; exact h.1, h.2.1, fun i c hi hc => by rw [h2]; exact h.2.2 i c hi hc⟩
theorem RepT.cong {w : WT} {b : Nat} {A A' : AH} (h : RepT w b A) (hx : ∀ x, b < x → x ≤ b + 16 → A'.1 x = A.1 x) : RepT w b A' := fun j hj => (h j hj).cong (hx _ (by omega) (by omega)) (hx _ (by omega) (by omega))
def begOK (w : WT) (n : Nat) (s : Nat → Nat) : Prop := s 0 = 0 ∧ s 1 = n ∧ s 2 = 0 ∧ ∀ t, t < n → (∀ c, c < 5 → s (3 + t * 6 + c) = w.2 2 t c) ∧ s (3 + t * 6 + 5) = 0
theorem begOK_0 {w : WT} {s : Nat → Nat} : begOK w 0 (updN (updN (updN s 0 0) 1 0) 2 0) := ⟨by simp [updN], by simp [updN], by simp [updN], fun t h => absurd h (Nat.not_lt_zero t)⟩
theorem begOK_s {w : WT} {n : Nat} {s : Nat → Nat} (h : begOK w n s) : begOK w (n + 1) (updN (updN (addR s (w.2 2 n 1) (w.2 2 n 2) (w.2 2 n 3)) (3 + n * 6 + 0) (w.2 2 n 0)) (3 + n * 6 + 4) (w.2 2 n 4)) := by
  obtain ⟨h0, h1, h2, h3⟩ := h
  obtain ⟨a0, a1, a2, a3, a4, a5⟩ := addR_new (s := s) (a := w.2 2 n 1) (b := w.2 2 n 2) (c := w.2 2 n 3)
  rw [h1] at a0 a1 a2 a3 a4 a5
  have lo : ∀ k, k < 3 + n * 6 → k ≠ 1 → addR s (w.2 2 n 1) (w.2 2 n 2) (w.2 2 n 3) k = s k := fun k hk hk1 => addR_lo (by rw [h1]; exact hk) hk1
  refine ⟨?_, ?_, ?_, fun t ht => ?_⟩
  · rw [updN_ne (by omega), updN_ne (by omega), lo 0 (by omega) (by omega), h0]
  · rw [updN_ne (by omega), updN_ne (by omega), addR_1, h1]
  · rw [updN_ne (by omega), updN_ne (by omega), lo 2 (by omega) (by omega), h2]
  · by_cases e : t = n
    · subst e
      refine ⟨fun c hc => ?_, ?_⟩
      · rcases c with _ | _ | _ | _ | _ | c
        · rw [updN_ne (by omega), updN_at]
        · rw [updN_ne (by omega), updN_ne (by omega)]; exact a1
        · rw [updN_ne (by omega), updN_ne (by omega)]; exact a2
        · rw [updN_ne (by omega), updN_ne (by omega)]; exact a3
        · rw [updN_at]
        · omega
      · rw [updN_ne (by omega), updN_ne (by omega), a5, h0]
    · have hlt : t < n := by omega
      refine ⟨fun c hc => ?_, ?_⟩
      · rw [updN_ne (by omega), updN_ne (by omega), lo _ (by omega) (by omega)]
        exact (h3 t hlt).1 c hc
      · rw [updN_ne (by omega), updN_ne (by omega), lo _ (by omega) (by omega)]
        exact (h3 t hlt).2
theorem tbz_in {w : WT} {j i c : Nat} (h : i < w.1 j) : tbz w j i c = w.2 j i c := if_pos h
set_option maxRecDepth 4000 in
theorem c_X7_begin {K : Option Value → AH → Prop} {A : AH} {s : Nat → Nat} {w : WT} (hS : RepS s A) (hT : RepT w 26 A) (hw : w.1 2 ≤ 7) (h : ∀ A' s', RepS s' A' → Off 44 A A' → begOK w (w.1 2) s' → K none A') : Ct yX7_begin mX7_begin 3 dC gC [.ref 43, .ref 26] A K := by
  refine Ct.of [some (.ref 43), some (.ref 26), none] rfl rfl rfl (Nat.le_of_ble_eq_true rfl) ?_
  have lp23 : ∀ (n : Nat) (i : Nat) (A' : AH) (s' : Nat → Nat), i ≤ w.1 2 → RepS s' A' → Off 44 A A' → begOK w i s' → w.1 2 - i < n → WP mX7_begin 3 dC gC 23 [some (.ref 43), some (.ref 26), some (.int (nI i))] [] A' K := by
    intro n
    induction n with
    | zero => intros; omega
    | succ n ih =>
      intro i A' s' hi hS2 hO2 hB hms
      have hT2 : RepT w 26 A' := hT.cong (fun x h1 h2 => hO2.2 x (by omega))
      have hi1 := hB.2.1
      refine w_iload_n 24 dX7_begin_23 rfl rfl ?_
      refine w_aload_n 25 dX7_begin_24 rfl rfl ?_
      refine w_iconst 26 dX7_begin_25 rfl (v := nI 2) rfl ?_
      refine w_inv1 29 dX7_begin_26 rfl mlX7_15 rfl rfl (d' := 1) (by decide) (Nat.le_of_ble_eq_true rfl) (c_X10_howMany_26 hT2 (by decide) ?_)
      refine w_icgeN 89 32 dX7_begin_29 rfl rfl (by omega) (by omega) (fun c29 => ?_) (fun c29 => ?_)
      · skip
        have e : i = w.1 2 := by omega
        subst e
        refine wr_v dX7_begin_89 rfl ?_
        exact h A' s' hS2 hO2 hB
      · skip
        refine w_aload_n 33 dX7_begin_32 rfl rfl ?_
        refine w_aload_n 34 dX7_begin_33 rfl rfl ?_
        refine w_iconst 35 dX7_begin_34 rfl (v := nI 2) rfl ?_
        refine w_iload_n 36 dX7_begin_35 rfl rfl ?_
        refine w_iconst 37 dX7_begin_36 rfl (v := nI 1) rfl ?_
        refine w_inv3 40 dX7_begin_37 rfl mlX7_21 rfl rfl (d' := 1) (by decide) (Nat.le_of_ble_eq_true rfl) (c_X10_cell_26 hT2 (by decide) (by omega) (by decide) ?_)
        refine w_aload_n 41 dX7_begin_40 rfl rfl ?_
        refine w_iconst 42 dX7_begin_41 rfl (v := nI 2) rfl ?_
        refine w_iload_n 43 dX7_begin_42 rfl rfl ?_
        refine w_iconst 44 dX7_begin_43 rfl (v := nI 2) rfl ?_
        refine w_inv3 47 dX7_begin_44 rfl mlX7_21 rfl rfl (d' := 1) (by decide) (Nat.le_of_ble_eq_true rfl) (c_X10_cell_26 hT2 (by decide) (by omega) (by decide) ?_)
        refine w_aload_n 48 dX7_begin_47 rfl rfl ?_
        refine w_iconst 49 dX7_begin_48 rfl (v := nI 2) rfl ?_
        refine w_iload_n 50 dX7_begin_49 rfl rfl ?_
        refine w_iconst 51 dX7_begin_50 rfl (v := nI 3) rfl ?_
        refine w_inv3 54 dX7_begin_51 rfl mlX7_21 rfl rfl (d' := 1) (by decide) (Nat.le_of_ble_eq_true rfl) (c_X10_cell_26 hT2 (by decide) (by omega) (by decide) ?_)
        rw [tbz_in c29, tbz_in c29, tbz_in c29]
        refine w_inv3 57 dX7_begin_54 rfl mlX7_25 rfl rfl (d' := 2) (by decide) (Nat.le_of_ble_eq_true rfl) (c_X7_addKept hS2 (by omega) ?_)
        intro A3 hS3 hO3
        have hO3' := hO2.tr hO3
        have hT3 : RepT w 26 A3 := hT.cong (fun x h1 h2 => hO3'.2 x (by omega))
        have e3 := addR_1 (s := s') (a := w.2 2 i 1) (b := w.2 2 i 2) (c := w.2 2 i 3)
        rw [hi1] at e3
        refine w_aload_n 58 dX7_begin_57 rfl rfl ?_
        refine w_iload_n 59 dX7_begin_58 rfl rfl ?_
        refine w_iconst 60 dX7_begin_59 rfl (v := nI 0) rfl ?_
        refine w_aload_n 61 dX7_begin_60 rfl rfl ?_
        refine w_iconst 62 dX7_begin_61 rfl (v := nI 2) rfl ?_
        refine w_iload_n 63 dX7_begin_62 rfl rfl ?_
        refine w_iconst 64 dX7_begin_63 rfl (v := nI 0) rfl ?_
        refine w_inv3 67 dX7_begin_64 rfl mlX7_21 rfl rfl (d' := 1) (by decide) (Nat.le_of_ble_eq_true rfl) (c_X10_cell_26 hT3 (by decide) (by omega) (by decide) ?_)
        rw [tbz_in c29]
        refine w_inv3 70 dX7_begin_67 rfl mlX7_29 rfl rfl (d' := 1) (by decide) (Nat.le_of_ble_eq_true rfl) (c_X7_setCellN hS3 e3 (by omega) (by omega) (by decide) ?_)
        have hS4 := hS3.upd (3 + i * 6 + 0) (w.2 2 i 0)
        have hO4 := hO3'.upd (3 + i * 6 + 0) (nI (w.2 2 i 0))
        have e4 : _ = i + 1 := (updN_ne (v := w.2 2 i 0) (show 1 ≠ 3 + i * 6 + 0 by omega)).trans e3
        have hT4 : RepT w 26 _ := hT.cong (fun x h1 h2 => hO4.2 x (by omega))
        refine w_aload_n 71 dX7_begin_70 rfl rfl ?_
        refine w_iload_n 72 dX7_begin_71 rfl rfl ?_
        refine w_iconst 73 dX7_begin_72 rfl (v := nI 4) rfl ?_
        refine w_aload_n 74 dX7_begin_73 rfl rfl ?_
        refine w_iconst 75 dX7_begin_74 rfl (v := nI 2) rfl ?_
        refine w_iload_n 76 dX7_begin_75 rfl rfl ?_
        refine w_iconst 77 dX7_begin_76 rfl (v := nI 4) rfl ?_
        refine w_inv3 80 dX7_begin_77 rfl mlX7_21 rfl rfl (d' := 1) (by decide) (Nat.le_of_ble_eq_true rfl) (c_X10_cell_26 hT4 (by decide) (by omega) (by decide) ?_)
        rw [tbz_in c29]
        refine w_inv3 83 dX7_begin_80 rfl mlX7_29 rfl rfl (d' := 1) (by decide) (Nat.le_of_ble_eq_true rfl) (c_X7_setCellN hS4 e4 (by omega) (by omega) (by decide) ?_)
        have hS5 := hS4.upd (3 + i * 6 + 4) (w.2 2 i 4)
        have hO5 := hO4.upd (3 + i * 6 + 4) (nI (w.2 2 i 4))
        refine w_inc2 86 dX7_begin_83 rfl (by decide) rfl (v := nI (_ + 1)) (nI_1 _) ?_
        refine w_goto 23 dX7_begin_86 rfl ?_
        exact ih (i + 1) _ _ (by omega) hS5 hO5 (begOK_s hB) (by omega)
  refine w_aload_n 1 dX7_begin_0 rfl rfl ?_
  refine w_getr 4 dX7_begin_1 rfl faX7_11 rfl rfl rfl (r := .ref 44) rfl ?_
  refine w_iconst 5 dX7_begin_4 rfl (v := nI 0) rfl ?_
  refine w_iconst 6 dX7_begin_5 rfl (v := nI 0) rfl ?_
  refine w_iastN 7 dX7_begin_6 rfl rfl rfl (by decide) (by omega) ?_
  refine w_aload_n 8 dX7_begin_7 rfl rfl ?_
  refine w_getr 11 dX7_begin_8 rfl faX7_11 rfl rfl rfl (r := .ref 44) rfl ?_
  refine w_iconst 12 dX7_begin_11 rfl (v := nI 1) rfl ?_
  refine w_iconst 13 dX7_begin_12 rfl (v := nI 0) rfl ?_
  refine w_iastN 14 dX7_begin_13 rfl rfl rfl (by decide) (by omega) ?_
  refine w_aload_n 15 dX7_begin_14 rfl rfl ?_
  refine w_getr 18 dX7_begin_15 rfl faX7_11 rfl rfl rfl (r := .ref 44) rfl ?_
  refine w_iconst 19 dX7_begin_18 rfl (v := nI 2) rfl ?_
  refine w_iconst 20 dX7_begin_19 rfl (v := nI 0) rfl ?_
  refine w_iastN 21 dX7_begin_20 rfl rfl rfl (by decide) (by omega) ?_
  refine w_iconst 22 dX7_begin_21 rfl (v := nI 0) rfl ?_
  refine w_ist2 23 dX7_begin_22 rfl (by decide) rfl ?_
  exact lp23 _ 0 _ _ (Nat.zero_le _) (((hS.upd 0 0).upd 1 0).upd 2 0) (((Off.rf.upd 0 _).upd 1 _).upd 2 _) begOK_0 (Nat.lt_succ_self _)

set_option maxRecDepth 4000 in
theorem c_X7_copyTo_46 {K : Option Value → AH → Prop} {A : AH} {i : Nat} (hi : i < 16) (h : K none (cpy2 A.1 44 46 0 (i * 51) 51, A.2)) : Ct yX7_copyTo mX7_copyTo 1 dC gC [.ref 43, .ref 46, .int (nI i)] A K := by
  refine Ct.of [some (.ref 43), some (.ref 46), some (.int (nI i))] rfl rfl rfl (Nat.le_of_ble_eq_true rfl) ?_
  refine w_iload_n 1 dX7_copyTo_0 rfl rfl ?_
  refine w_ifltN 28 4 dX7_copyTo_1 rfl rfl (by omega) ?_
  refine w_iload_n 5 dX7_copyTo_4 rfl rfl ?_
  refine w_aload_n 6 dX7_copyTo_5 rfl rfl ?_
  refine w_alen 7 dX7_copyTo_6 rfl rfl rfl (by decide) (v := nI 816) rfl ?_
  refine w_bipush 9 dX7_copyTo_7 rfl (v := nI 51) rfl ?_
  refine w_idivN 10 dX7_copyTo_9 rfl (by omega) (by omega) (by omega) ?_
  refine w_icgeN 28 13 dX7_copyTo_10 rfl rfl (by omega) (by omega) (fun c10 => (by omega)) (fun c10 => ?_)
  refine w_aload_n 14 dX7_copyTo_13 rfl rfl ?_
  refine w_getr 17 dX7_copyTo_14 rfl faX7_11 rfl rfl rfl (r := .ref 44) rfl ?_
  refine w_iconst 18 dX7_copyTo_17 rfl (v := nI 0) rfl ?_
  refine w_aload_n 19 dX7_copyTo_18 rfl rfl ?_
  refine w_iload_n 20 dX7_copyTo_19 rfl rfl ?_
  refine w_bipush 22 dX7_copyTo_20 rfl (v := nI 51) rfl ?_
  refine w_imulN 23 dX7_copyTo_22 rfl ?_
  refine w_bipush 25 dX7_copyTo_23 rfl (v := nI 51) rfl ?_
  refine w_copyi 28 dX7_copyTo_25 rfl clX7_54 rfl rfl rfl rfl (by decide) (by decide) (by omega) (by omega) (by decide) (Nat.le_of_ble_eq_true rfl) ?_
  refine wr_v dX7_copyTo_28 rfl ?_
  exact h

set_option maxRecDepth 4000 in
theorem c_X7_copyFrom_46 {K : Option Value → AH → Prop} {A : AH} {i : Nat} (hi : i < 16) (h : K none (cpy2 A.1 46 44 (i * 51) 0 51, A.2)) : Ct yX7_copyFrom mX7_copyFrom 1 dC gC [.ref 43, .ref 46, .int (nI i)] A K := by
  refine Ct.of [some (.ref 43), some (.ref 46), some (.int (nI i))] rfl rfl rfl (Nat.le_of_ble_eq_true rfl) ?_
  refine w_iload_n 1 dX7_copyFrom_0 rfl rfl ?_
  refine w_ifltN 28 4 dX7_copyFrom_1 rfl rfl (by omega) ?_
  refine w_iload_n 5 dX7_copyFrom_4 rfl rfl ?_
  refine w_aload_n 6 dX7_copyFrom_5 rfl rfl ?_
  refine w_alen 7 dX7_copyFrom_6 rfl rfl rfl (by decide) (v := nI 816) rfl ?_
  refine w_bipush 9 dX7_copyFrom_7 rfl (v := nI 51) rfl ?_
  refine w_idivN 10 dX7_copyFrom_9 rfl (by omega) (by omega) (by omega) ?_
  refine w_icgeN 28 13 dX7_copyFrom_10 rfl rfl (by omega) (by omega) (fun c10 => (by omega)) (fun c10 => ?_)
  refine w_aload_n 14 dX7_copyFrom_13 rfl rfl ?_
  refine w_iload_n 15 dX7_copyFrom_14 rfl rfl ?_
  refine w_bipush 17 dX7_copyFrom_15 rfl (v := nI 51) rfl ?_
  refine w_imulN 18 dX7_copyFrom_17 rfl ?_
  refine w_aload_n 19 dX7_copyFrom_18 rfl rfl ?_
  refine w_getr 22 dX7_copyFrom_19 rfl faX7_11 rfl rfl rfl (r := .ref 44) rfl ?_
  refine w_iconst 23 dX7_copyFrom_22 rfl (v := nI 0) rfl ?_
  refine w_bipush 25 dX7_copyFrom_23 rfl (v := nI 51) rfl ?_
  refine w_copyi 28 dX7_copyFrom_25 rfl clX7_54 rfl rfl rfl rfl (by decide) (by decide) (by omega) (by omega) (by decide) (Nat.le_of_ble_eq_true rfl) ?_
  refine wr_v dX7_copyFrom_28 rfl ?_
  exact h

set_option maxRecDepth 4000 in
theorem c_X7_copyTo_47 {K : Option Value → AH → Prop} {A : AH} {i : Nat} (hi : i < 3) (h : K none (cpy2 A.1 44 47 0 (i * 51) 51, A.2)) : Ct yX7_copyTo mX7_copyTo 1 dC gC [.ref 43, .ref 47, .int (nI i)] A K := by
  refine Ct.of [some (.ref 43), some (.ref 47), some (.int (nI i))] rfl rfl rfl (Nat.le_of_ble_eq_true rfl) ?_
  refine w_iload_n 1 dX7_copyTo_0 rfl rfl ?_
  refine w_ifltN 28 4 dX7_copyTo_1 rfl rfl (by omega) ?_
  refine w_iload_n 5 dX7_copyTo_4 rfl rfl ?_
  refine w_aload_n 6 dX7_copyTo_5 rfl rfl ?_
  refine w_alen 7 dX7_copyTo_6 rfl rfl rfl (by decide) (v := nI 153) rfl ?_
  refine w_bipush 9 dX7_copyTo_7 rfl (v := nI 51) rfl ?_
  refine w_idivN 10 dX7_copyTo_9 rfl (by omega) (by omega) (by omega) ?_
  refine w_icgeN 28 13 dX7_copyTo_10 rfl rfl (by omega) (by omega) (fun c10 => (by omega)) (fun c10 => ?_)
  refine w_aload_n 14 dX7_copyTo_13 rfl rfl ?_
  refine w_getr 17 dX7_copyTo_14 rfl faX7_11 rfl rfl rfl (r := .ref 44) rfl ?_
  refine w_iconst 18 dX7_copyTo_17 rfl (v := nI 0) rfl ?_
  refine w_aload_n 19 dX7_copyTo_18 rfl rfl ?_
  refine w_iload_n 20 dX7_copyTo_19 rfl rfl ?_
  refine w_bipush 22 dX7_copyTo_20 rfl (v := nI 51) rfl ?_
  refine w_imulN 23 dX7_copyTo_22 rfl ?_
  refine w_bipush 25 dX7_copyTo_23 rfl (v := nI 51) rfl ?_
  refine w_copyi 28 dX7_copyTo_25 rfl clX7_54 rfl rfl rfl rfl (by decide) (by decide) (by omega) (by omega) (by decide) (Nat.le_of_ble_eq_true rfl) ?_
  refine wr_v dX7_copyTo_28 rfl ?_
  exact h

set_option maxRecDepth 4000 in
theorem c_X7_copyFrom_47 {K : Option Value → AH → Prop} {A : AH} {i : Nat} (hi : i < 3) (h : K none (cpy2 A.1 47 44 (i * 51) 0 51, A.2)) : Ct yX7_copyFrom mX7_copyFrom 1 dC gC [.ref 43, .ref 47, .int (nI i)] A K := by
  refine Ct.of [some (.ref 43), some (.ref 47), some (.int (nI i))] rfl rfl rfl (Nat.le_of_ble_eq_true rfl) ?_
  refine w_iload_n 1 dX7_copyFrom_0 rfl rfl ?_
  refine w_ifltN 28 4 dX7_copyFrom_1 rfl rfl (by omega) ?_
  refine w_iload_n 5 dX7_copyFrom_4 rfl rfl ?_
  refine w_aload_n 6 dX7_copyFrom_5 rfl rfl ?_
  refine w_alen 7 dX7_copyFrom_6 rfl rfl rfl (by decide) (v := nI 153) rfl ?_
  refine w_bipush 9 dX7_copyFrom_7 rfl (v := nI 51) rfl ?_
  refine w_idivN 10 dX7_copyFrom_9 rfl (by omega) (by omega) (by omega) ?_
  refine w_icgeN 28 13 dX7_copyFrom_10 rfl rfl (by omega) (by omega) (fun c10 => (by omega)) (fun c10 => ?_)
  refine w_aload_n 14 dX7_copyFrom_13 rfl rfl ?_
  refine w_iload_n 15 dX7_copyFrom_14 rfl rfl ?_
  refine w_bipush 17 dX7_copyFrom_15 rfl (v := nI 51) rfl ?_
  refine w_imulN 18 dX7_copyFrom_17 rfl ?_
  refine w_aload_n 19 dX7_copyFrom_18 rfl rfl ?_
  refine w_getr 22 dX7_copyFrom_19 rfl faX7_11 rfl rfl rfl (r := .ref 44) rfl ?_
  refine w_iconst 23 dX7_copyFrom_22 rfl (v := nI 0) rfl ?_
  refine w_bipush 25 dX7_copyFrom_23 rfl (v := nI 51) rfl ?_
  refine w_copyi 28 dX7_copyFrom_25 rfl clX7_54 rfl rfl rfl rfl (by decide) (by decide) (by omega) (by omega) (by decide) (Nat.le_of_ble_eq_true rfl) ?_
  refine wr_v dX7_copyFrom_28 rfl ?_
  exact h
