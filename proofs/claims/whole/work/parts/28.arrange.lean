/-! ===== what the web is now, in thirteen slots ===== -/
def e1W (w : WT) (s : Nat → Nat) (i : Nat) : Nat := if i < 8 then cz s i 1 else tbz w 5 (i - 8) 0
def e2W (w : WT) (s : Nat → Nat) (i : Nat) : Nat := if i < 8 then cz s i 2 else tbz w 5 (i - 8) 1
def esW (w : WT) (s : Nat → Nat) (n i : Nat) : Nat := if i < 8 then (if i < s 1 then stg s i n else 0) else tbz w 5 (i - 8) 2
/-- offers as they may be told -/
def ofOK (w : WT) : Prop := w.1 1 ≤ 7 ∧ ∀ k, tbz w 5 k 0 < 7 ∧ tbz w 5 k 1 < 7 ∧ tbz w 5 k 2 ≤ 99
theorem okW {w : WT} {s : Nat → Nat} (hs : okS s) (hw : ofOK w) (n : Nat) : okE (e1W w s) (e2W w s) (esW w s n) := by
  intro i hi
  unfold e1W e2W esW
  by_cases h : i < 8
  · simp only [if_pos h]
    obtain ⟨-, c1, c2, -⟩ := cz_ok hs i
    refine ⟨c1, c2, ?_⟩
    split
    · exact stg_le hs i n
    · omega
  · simp only [if_neg h]
    exact hw.2 (i - 8)
/-- the web laid out for a year -/
def BR (nn : Nat) (e1 e2 es : Nat → Nat) (A : AH) : Prop := A.1 48 7 = nI nn ∧ nn ≤ 7 ∧ RepE e1 e2 es A ∧ okE e1 e2 es ∧ bO es A
def Z0 (A : AH) : Prop := A.1 52 0 = nI 0 ∧ A.1 53 0 = nI 0
theorem min7 {n : Nat} (h : n ≤ 7) : (if nI 7 < nI n then nI 7 else nI n) = nI n := by
  rw [if_neg (fun q => by rw [nI_ltI (by decide) (by omega)] at q; omega)]
theorem RepS.cong {s : Nat → Nat} {A A' : AH} (h : RepS s A) (e : A'.1 44 = A.1 44) : RepS s A' := fun k hk => by rw [e]; exact h k hk
set_option maxRecDepth 4000 in
theorem c_X0_arrange {K : Option Value → AH → Prop} {A : AH} {w : WT} {s : Nat → Nat} (hS : RepS s A) (hs : okS s) (hT : RepT w 26 A) (hw : ofOK w) (hz : A.1 53 0 = nI 0) (h : ∀ A', A'.1 48 7 = nI (w.1 1) → (∀ i, i < 13 → A'.1 49 i = nI (e1W w s i) ∧ A'.1 50 i = nI (e2W w s i)) → (∀ k, k < 5 → A'.1 51 (8 + k) = nI (tbz w 5 k 2)) → (∀ m, m < 32 → A'.1 53 m = nI (sumB (fun i => tbz w 5 i 2) m 5)) → OffL [48, 49, 50, 51, 53] A A' → K none A') : Ct yX0_arrange mX0_arrange 2 dC gC [.ref 48, .ref 43, .ref 26] A K := by
  refine Ct.of [some (.ref 48), some (.ref 43), some (.ref 26), none] rfl rfl rfl (Nat.le_of_ble_eq_true rfl) ?_
  have lp54 : ∀ (nf : Nat) (i : Nat) (A' : AH), i ≤ 5 → A'.1 48 7 = nI (w.1 1) → OffL [48, 49, 50, 51] A A' → (∀ t, t < 8 → A'.1 49 t = nI (cz s t 1) ∧ A'.1 50 t = nI (cz s t 2)) → (∀ k, k < i → A'.1 49 (8 + k) = nI (tbz w 5 k 0) ∧ A'.1 50 (8 + k) = nI (tbz w 5 k 1) ∧ A'.1 51 (8 + k) = nI (tbz w 5 k 2)) → 5 - i < nf → WP mX0_arrange 2 dC gC 54 [some (.ref 48), some (.ref 43), some (.ref 26), some (.int (nI i))] [] A' K := by
    intro nf
    induction nf with
    | zero => intros; omega
    | succ nf ih =>
      intro i A' hi h7 hO hv hu hms
      have hS2 : RepS s A' := hS.cong (hO 44 (by decide)).1
      have hT2 : RepT w 26 A' := hT.cong (fun x h1 h2 => (hO x (by intro q; simp at q; omega)).1)
      refine w_iload_n 55 dX0_arrange_54 rfl rfl ?_
      refine w_iconst 56 dX0_arrange_55 rfl (v := nI 5) rfl ?_
      refine w_icgeN 113 59 dX0_arrange_56 rfl rfl (by omega) (by omega) (fun c56 => ?_) (fun c56 => ?_)
      · skip
        refine w_aload_n 114 dX0_arrange_113 rfl rfl ?_
        refine w_aload_n 115 dX0_arrange_114 rfl rfl ?_
        refine w_getr 118 dX0_arrange_115 rfl faX0_24 rfl rfl rfl (r := .ref 53) rfl ?_
        refine w_bipush 120 dX0_arrange_118 rfl (v := nI 8) rfl ?_
        refine w_iconst 121 dX0_arrange_120 rfl (v := nI 5) rfl ?_
        have e : i = 5 := by omega
        subst e
        have q1 : ∀ i, i < 5 → A'.1 51 (8 + i) = nI ((fun i => tbz w 5 (i - 8) 2) (8 + i)) := fun i hi => by dsimp only; rw [show 8 + i - 8 = i by omega]; exact (hu i hi).2.2
        have q2 : A'.1 53 0 = nI 0 := by rw [(hO 53 (by decide)).1]; exact hz
        refine w_inv3 124 dX0_arrange_121 rfl mlX0_58 rfl rfl (d' := 0) (by decide) (Nat.le_of_ble_eq_true rfl) (c_X0_fillSums_53 (es := fun i => tbz w 5 (i - 8) 2) q1 q2 (fun A3 hz3 hO3 => ?_))
        refine wr_v dX0_arrange_124 rfl ?_
        have hO4 : OffL [48, 49, 50, 51, 53] A A3 := (hO.mono (by intro x hx; simp at hx ⊢; omega)).tr (hO3.mono (by intro x hx; simp at hx ⊢; omega))
        refine h A3 ?_ (fun i hi => ?_) (fun k hk => ?_) (fun m hm => ?_) hO4
        · rw [(hO3 48 (by decide)).1]; exact h7
        · rw [(hO3 49 (by decide)).1, (hO3 50 (by decide)).1]
          unfold e1W e2W
          by_cases h8 : i < 8
          · simp only [if_pos h8]; exact hv i h8
          · simp only [if_neg h8]
            have := hu (i - 8) (by omega)
            rw [show 8 + (i - 8) = i by omega] at this
            exact ⟨this.1, this.2.1⟩
        · rw [(hO3 51 (by decide)).1]; exact (hu k hk).2.2
        · rw [hz3 m hm]
          simp
      · skip
        refine w_aload_n 60 dX0_arrange_59 rfl rfl ?_
        refine w_getr 63 dX0_arrange_60 rfl faX0_11 rfl rfl rfl (r := .ref 49) rfl ?_
        refine w_bipush 65 dX0_arrange_63 rfl (v := nI 8) rfl ?_
        refine w_iload_n 66 dX0_arrange_65 rfl rfl ?_
        refine w_iaddN 67 dX0_arrange_66 rfl ?_
        refine w_aload_n 68 dX0_arrange_67 rfl rfl ?_
        refine w_iconst 69 dX0_arrange_68 rfl (v := nI 5) rfl ?_
        refine w_iload_n 70 dX0_arrange_69 rfl rfl ?_
        refine w_iconst 71 dX0_arrange_70 rfl (v := nI 0) rfl ?_
        refine w_inv3 74 dX0_arrange_71 rfl mlX0_55 rfl rfl (d' := 1) (by decide) (Nat.le_of_ble_eq_true rfl) (c_X10_cell_26 hT2 (by decide) (by omega) (by decide) ?_)
        refine w_iastN 75 dX0_arrange_74 rfl rfl rfl (by decide) (by omega) ?_
        refine w_aload_n 76 dX0_arrange_75 rfl rfl ?_
        refine w_getr 79 dX0_arrange_76 rfl faX0_15 rfl rfl rfl (r := .ref 50) rfl ?_
        refine w_bipush 81 dX0_arrange_79 rfl (v := nI 8) rfl ?_
        refine w_iload_n 82 dX0_arrange_81 rfl rfl ?_
        refine w_iaddN 83 dX0_arrange_82 rfl ?_
        refine w_aload_n 84 dX0_arrange_83 rfl rfl ?_
        refine w_iconst 85 dX0_arrange_84 rfl (v := nI 5) rfl ?_
        refine w_iload_n 86 dX0_arrange_85 rfl rfl ?_
        refine w_iconst 87 dX0_arrange_86 rfl (v := nI 1) rfl ?_
        refine w_inv3 90 dX0_arrange_87 rfl mlX0_55 rfl rfl (d' := 1) (by decide) (Nat.le_of_ble_eq_true rfl) (c_X10_cell_26 (hT2.cong (fun x h1 h2 => upd2_ne (by omega))) (by decide) (by omega) (by decide) ?_)
        refine w_iastN 91 dX0_arrange_90 rfl rfl rfl (by decide) (by omega) ?_
        refine w_aload_n 92 dX0_arrange_91 rfl rfl ?_
        refine w_getr 95 dX0_arrange_92 rfl faX0_18 rfl rfl rfl (r := .ref 51) rfl ?_
        refine w_bipush 97 dX0_arrange_95 rfl (v := nI 8) rfl ?_
        refine w_iload_n 98 dX0_arrange_97 rfl rfl ?_
        refine w_iaddN 99 dX0_arrange_98 rfl ?_
        refine w_aload_n 100 dX0_arrange_99 rfl rfl ?_
        refine w_iconst 101 dX0_arrange_100 rfl (v := nI 5) rfl ?_
        refine w_iload_n 102 dX0_arrange_101 rfl rfl ?_
        refine w_iconst 103 dX0_arrange_102 rfl (v := nI 2) rfl ?_
        refine w_inv3 106 dX0_arrange_103 rfl mlX0_55 rfl rfl (d' := 1) (by decide) (Nat.le_of_ble_eq_true rfl) (c_X10_cell_26 ((hT2.cong (fun x h1 h2 => upd2_ne (by omega))).cong (fun x h1 h2 => upd2_ne (by omega))) (by decide) (by omega) (by decide) ?_)
        refine w_iastN 107 dX0_arrange_106 rfl rfl rfl (by decide) (by omega) ?_
        refine w_inc3 110 dX0_arrange_107 rfl (by decide) rfl (v := nI (_ + 1)) (nI_1 _) ?_
        refine w_goto 54 dX0_arrange_110 rfl ?_
        refine ih (i + 1) _ (by omega) ?_ (((hO.upd (by decide) _ _).upd (by decide) _ _).upd (by decide) _ _) (fun t ht => ?_) (fun t ht => ?_) (by omega)
        · dsimp only; rw [upd2_ne (by decide), upd2_ne (by decide), upd2_ne (by decide)]; exact h7
        · dsimp only
          rw [upd2_ne (by decide), upd2_ne (by decide), upd2_off (by omega), upd2_ne (by decide), upd2_off (by omega), upd2_ne (by decide)]
          exact hv t ht
        · dsimp only
          by_cases e : t = i
          · subst e
            refine ⟨?_, ?_, ?_⟩
            · rw [upd2_ne (by decide), upd2_ne (by decide), upd2_at]
            · rw [upd2_ne (by decide), upd2_at]
            · rw [upd2_at]
          · obtain ⟨u1, u2, u3⟩ := hu t (by omega)
            refine ⟨?_, ?_, ?_⟩
            · rw [upd2_ne (by decide), upd2_ne (by decide), upd2_off (by omega)]; exact u1
            · rw [upd2_ne (by decide), upd2_off (by omega), upd2_ne (by decide)]; exact u2
            · rw [upd2_off (by omega), upd2_ne (by decide), upd2_ne (by decide)]; exact u3
  have lp16 : ∀ (nf : Nat) (i : Nat) (A' : AH), i ≤ 8 → A'.1 48 7 = nI (w.1 1) → OffL [48, 49, 50, 51] A A' → (∀ t, t < i → A'.1 49 t = nI (cz s t 1) ∧ A'.1 50 t = nI (cz s t 2)) → 8 - i < nf → WP mX0_arrange 2 dC gC 16 [some (.ref 48), some (.ref 43), some (.ref 26), some (.int (nI i))] [] A' K := by
    intro nf
    induction nf with
    | zero => intros; omega
    | succ nf ih =>
      intro i A' hi h7 hO hv hms
      have hS2 : RepS s A' := hS.cong (hO 44 (by decide)).1
      have hT2 : RepT w 26 A' := hT.cong (fun x h1 h2 => (hO x (by intro q; simp at q; omega)).1)
      refine w_iload_n 17 dX0_arrange_16 rfl rfl ?_
      refine w_bipush 19 dX0_arrange_17 rfl (v := nI 8) rfl ?_
      refine w_icgeN 52 22 dX0_arrange_19 rfl rfl (by omega) (by omega) (fun c19 => ?_) (fun c19 => ?_)
      · skip
        refine w_iconst 53 dX0_arrange_52 rfl (v := nI 0) rfl ?_
        refine w_ist3 54 dX0_arrange_53 rfl (by decide) rfl ?_
        have e : i = 8 := by omega
        subst e
        exact lp54 _ 0 A' (Nat.zero_le _) h7 hO hv (fun t ht => absurd ht (Nat.not_lt_zero t)) (Nat.lt_succ_self _)
      · skip
        refine w_aload_n 23 dX0_arrange_22 rfl rfl ?_
        refine w_getr 26 dX0_arrange_23 rfl faX0_11 rfl rfl rfl (r := .ref 49) rfl ?_
        refine w_iload_n 27 dX0_arrange_26 rfl rfl ?_
        refine w_aload_n 28 dX0_arrange_27 rfl rfl ?_
        refine w_iload_n 29 dX0_arrange_28 rfl rfl ?_
        refine w_iconst 30 dX0_arrange_29 rfl (v := nI 1) rfl ?_
        refine w_inv2 33 dX0_arrange_30 rfl mlX0_50 rfl rfl (d' := 1) (by decide) (Nat.le_of_ble_eq_true rfl) (c_X7_cellN hS2 hs.2.1 (by omega) (by decide) ?_)
        refine w_iastN 34 dX0_arrange_33 rfl rfl rfl (by decide) (by omega) ?_
        refine w_aload_n 35 dX0_arrange_34 rfl rfl ?_
        refine w_getr 38 dX0_arrange_35 rfl faX0_15 rfl rfl rfl (r := .ref 50) rfl ?_
        refine w_iload_n 39 dX0_arrange_38 rfl rfl ?_
        refine w_aload_n 40 dX0_arrange_39 rfl rfl ?_
        refine w_iload_n 41 dX0_arrange_40 rfl rfl ?_
        refine w_iconst 42 dX0_arrange_41 rfl (v := nI 2) rfl ?_
        refine w_inv2 45 dX0_arrange_42 rfl mlX0_50 rfl rfl (d' := 1) (by decide) (Nat.le_of_ble_eq_true rfl) (c_X7_cellN (hS2.cong (by dsimp only; rw [upd2_ne (by decide)])) hs.2.1 (by omega) (by decide) ?_)
        refine w_iastN 46 dX0_arrange_45 rfl rfl rfl (by decide) (by omega) ?_
        refine w_inc3 49 dX0_arrange_46 rfl (by decide) rfl (v := nI (_ + 1)) (nI_1 _) ?_
        refine w_goto 16 dX0_arrange_49 rfl ?_
        refine ih (i + 1) _ (by omega) ?_ ((hO.upd (by decide) _ _).upd (by decide) _ _) (fun t ht => ?_) (by omega)
        · dsimp only; rw [upd2_ne (by decide), upd2_ne (by decide)]; exact h7
        · dsimp only
          by_cases e : t = i
          · subst e
            exact ⟨by rw [upd2_ne (by decide), upd2_at], by rw [upd2_at]⟩
          · rw [upd2_ne (by decide), upd2_off e, upd2_off e, upd2_ne (by decide)]
            exact hv t (by omega)
  refine w_aload_n 1 dX0_arrange_0 rfl rfl ?_
  refine w_aload_n 2 dX0_arrange_1 rfl rfl ?_
  refine w_iconst 3 dX0_arrange_2 rfl (v := nI 1) rfl ?_
  refine w_inv1 6 dX0_arrange_3 rfl mlX0_34 rfl rfl (d' := 1) (by decide) (Nat.le_of_ble_eq_true rfl) (c_X10_howMany_26 hT (by decide) ?_)
  refine w_bipush 8 dX0_arrange_6 rfl (v := nI 7) rfl ?_
  refine w_mmin 11 dX0_arrange_8 rfl mxX0_40 (by decide) (Nat.le_of_ble_eq_true rfl) ?_
  refine w_top (min7 hw.1) ?_
  refine w_puti 14 dX0_arrange_11 rfl faX0_46 rfl rfl rfl rfl ?_
  refine w_iconst 15 dX0_arrange_14 rfl (v := nI 0) rfl ?_
  refine w_ist3 16 dX0_arrange_15 rfl (by decide) rfl ?_
  exact lp16 _ 0 _ (Nat.zero_le _) (by dsimp only; exact upd2_at) (OffL.rf.upd (by decide) _ _) (fun t ht => absurd ht (Nat.not_lt_zero t)) (Nat.lt_succ_self _)

def esT (s : Nat → Nat) (n t : Nat) : Nat := if t < s 1 then stg s t n else 0
set_option maxRecDepth 4000 in
theorem c_X0_strengthen {K : Option Value → AH → Prop} {A : AH} {s : Nat → Nat} {n : Nat} (hS : RepS s A) (hs : okS s) (hn : n ≤ 60) (hz : A.1 52 0 = nI 0) (h : ∀ A', (∀ t, t < 8 → A'.1 51 t = nI (esT s n t)) → (∀ t, 8 ≤ t → A'.1 51 t = A.1 51 t) → RepTS (esT s n) A' → OffL [51, 52] A A' → K none A') : Ct yX0_strengthen mX0_strengthen 3 dC gC [.ref 48, .ref 43, .int (nI n)] A K := by
  refine Ct.of [some (.ref 48), some (.ref 43), some (.int (nI n)), none] rfl rfl rfl (Nat.le_of_ble_eq_true rfl) ?_
  have lp2 : ∀ (nf : Nat) (i : Nat) (A' : AH), i ≤ 8 → OffL [51] A A' → (∀ t, t < i → A'.1 51 t = nI (esT s n t)) → (∀ t, 8 ≤ t → A'.1 51 t = A.1 51 t) → 8 - i < nf → WP mX0_strengthen 3 dC gC 2 [some (.ref 48), some (.ref 43), some (.int (nI n)), some (.int (nI i))] [] A' K := by
    intro nf
    induction nf with
    | zero => intros; omega
    | succ nf ih =>
      intro i A' hi hO hv hu hms
      have hS2 : RepS s A' := hS.cong (hO 44 (by decide)).1
      refine w_iload_n 3 dX0_strengthen_2 rfl rfl ?_
      refine w_bipush 5 dX0_strengthen_3 rfl (v := nI 8) rfl ?_
      refine w_icgeN 38 8 dX0_strengthen_5 rfl rfl (by omega) (by omega) (fun c5 => ?_) (fun c5 => ?_)
      · skip
        refine w_aload_n 39 dX0_strengthen_38 rfl rfl ?_
        refine w_aload_n 40 dX0_strengthen_39 rfl rfl ?_
        refine w_getr 43 dX0_strengthen_40 rfl faX0_21 rfl rfl rfl (r := .ref 52) rfl ?_
        refine w_iconst 44 dX0_strengthen_43 rfl (v := nI 0) rfl ?_
        refine w_bipush 46 dX0_strengthen_44 rfl (v := nI 8) rfl ?_
        have e : i = 8 := by omega
        subst e
        have q1 : ∀ i, i < 8 → A'.1 51 (0 + i) = nI (esT s n (0 + i)) := fun i hi => by rw [Nat.zero_add]; exact hv i hi
        have q2 : A'.1 52 0 = nI 0 := by rw [(hO 52 (by decide)).1]; exact hz
        refine w_inv3 49 dX0_strengthen_46 rfl mlX0_58 rfl rfl (d' := 0) (by decide) (Nat.le_of_ble_eq_true rfl) (c_X0_fillSums_52 (es := esT s n) q1 q2 (fun A3 hz3 hO3 => ?_))
        refine wr_v dX0_strengthen_49 rfl ?_
        refine h A3 (fun t ht => ?_) (fun t ht => ?_) hz3 ((hO.mono (by intro x hx; simp at hx ⊢; omega)).tr (hO3.mono (by intro x hx; simp at hx ⊢; omega)))
        · rw [(hO3 51 (by decide)).1]; exact hv t ht
        · rw [(hO3 51 (by decide)).1]; exact hu t ht
      · skip
        refine w_aload_n 9 dX0_strengthen_8 rfl rfl ?_
        refine w_getr 12 dX0_strengthen_9 rfl faX0_18 rfl rfl rfl (r := .ref 51) rfl ?_
        refine w_iload_n 13 dX0_strengthen_12 rfl rfl ?_
        refine w_iload_n 14 dX0_strengthen_13 rfl rfl ?_
        refine w_aload_n 15 dX0_strengthen_14 rfl rfl ?_
        refine w_inv0 18 dX0_strengthen_15 rfl mlX0_62 rfl rfl (d' := 0) (by decide) (Nat.le_of_ble_eq_true rfl) (c_X7_threads hS2 ?_)
        refine w_icgeN 30 21 dX0_strengthen_18 rfl rfl (by omega) (by have := hs.2.1; omega) (fun c18 => ?_) (fun c18 => ?_)
        · skip
          refine w_iconst 31 dX0_strengthen_30 rfl (v := nI 0) rfl ?_
          refine w_iastN 32 dX0_strengthen_31 rfl rfl rfl (by decide) (by omega) ?_
          refine w_inc3 35 dX0_strengthen_32 rfl (by decide) rfl (v := nI (_ + 1)) (nI_1 _) ?_
          refine w_goto 2 dX0_strengthen_35 rfl ?_
          refine ih (i + 1) _ (by omega) (hO.upd (by decide) _ _) (fun t ht => ?_) (fun t ht => ?_) (by omega)
          · dsimp only
            by_cases e : t = i
            · subst e
              rw [upd2_at]
              simp [esT, Nat.not_lt.mpr c18]
            · rw [upd2_off e]
              exact hv t (by omega)
          · dsimp only
            rw [upd2_off (by omega)]
            exact hu t ht
        · skip
          refine w_aload_n 22 dX0_strengthen_21 rfl rfl ?_
          refine w_iload_n 23 dX0_strengthen_22 rfl rfl ?_
          refine w_iload_n 24 dX0_strengthen_23 rfl rfl ?_
          refine w_inv2 27 dX0_strengthen_24 rfl mlX0_66 rfl rfl (d' := 2) (by decide) (Nat.le_of_ble_eq_true rfl) (c_X7_strength hS2 hs (by omega) hn ?_)
          refine w_goto 31 dX0_strengthen_27 rfl ?_
          refine w_iastN 32 dX0_strengthen_31 rfl rfl rfl (by decide) (by omega) ?_
          refine w_inc3 35 dX0_strengthen_32 rfl (by decide) rfl (v := nI (_ + 1)) (nI_1 _) ?_
          refine w_goto 2 dX0_strengthen_35 rfl ?_
          refine ih (i + 1) _ (by omega) (hO.upd (by decide) _ _) (fun t ht => ?_) (fun t ht => ?_) (by omega)
          · dsimp only
            by_cases e : t = i
            · subst e
              rw [upd2_at]
              simp [esT, Nat.not_lt.mpr, c18]
            · rw [upd2_off e]
              exact hv t (by omega)
          · dsimp only
            rw [upd2_off (by omega)]
            exact hu t ht
  refine w_iconst 1 dX0_strengthen_0 rfl (v := nI 0) rfl ?_
  refine w_ist3 2 dX0_strengthen_1 rfl (by decide) rfl ?_
  exact lp2 _ 0 A (Nat.zero_le _) OffL.rf (fun t ht => absurd ht (Nat.not_lt_zero t)) (fun _ _ => rfl) (Nat.lt_succ_self _)

/-! ===== partings of the nails ===== -/
def sideP (a b s : Nat) : Bool := s.testBit a && !s.testBit b
theorem cntTo_mono (p : Nat → Bool) {m : Nat} : ∀ {n : Nat}, m ≤ n → cntTo p m ≤ cntTo p n
  | 0, h => by rw [show m = 0 by omega]; exact Nat.le_refl _
  | n + 1, h => by
    by_cases e : m = n + 1
    · rw [e]; exact Nat.le_refl _
    · have ih := cntTo_mono p (m := m) (n := n) (by omega)
      simp only [cntTo]
      split <;> omega
theorem cntTo_lt {p : Nat → Bool} {s n : Nat} (hs : s < n) (hp : p s = true) : cntTo p s < cntTo p n := by
  have h1 := cntTo_mono p (m := s + 1) (n := n) hs
  simp only [cntTo, hp, if_pos] at h1
  exact h1
theorem cntTo_kth {p : Nat → Bool} {i : Nat} : ∀ {n : Nat}, i < cntTo p n → ∃ s, s < n ∧ p s = true ∧ cntTo p s = i
  | 0, h => absurd h (Nat.not_lt_zero i)
  | n + 1, h => by
    by_cases hi : i < cntTo p n
    · obtain ⟨s, h1, h2, h3⟩ := cntTo_kth hi
      exact ⟨s, by omega, h2, h3⟩
    · simp only [cntTo] at h
      split at h
      · next hp => exact ⟨n, by omega, hp, by omega⟩
      · omega
theorem part32 : ∀ a, a < 7 → ∀ b, b < 7 → a ≠ b → cntTo (sideP a b) 128 ≤ 32 := by decide +kernel
def RepQ (nn : Nat) (e1 e2 : Nat → Nat) (a b : Nat) (A : AH) : Prop := A.1 48 8 = nI (cntTo (sideP a b) (2 ^ nn)) ∧ ∀ s, s < 2 ^ nn → sideP a b s = true → A.1 54 (cntTo (sideP a b) s) = nI (acr e1 e2 s 13)
theorem RepE.cong {e1 e2 es : Nat → Nat} {A A' : AH} (h : RepE e1 e2 es A) (h1 : A'.1 49 = A.1 49) (h2 : A'.1 50 = A.1 50) (h3 : A'.1 51 = A.1 51) : RepE e1 e2 es A' := fun i hi => by rw [h1, h2, h3]; exact h i hi
theorem p7 {n : Nat} (h : n ≤ 7) : 2 ^ n ≤ 128 := show 2 ^ n ≤ 2 ^ 7 from Nat.pow_le_pow_right (by decide) h
set_option maxRecDepth 4000 in
theorem c_X0_part {K : Option Value → AH → Prop} {A : AH} {nn a b : Nat} {e1 e2 es : Nat → Nat} (h7 : A.1 48 7 = nI nn) (hn : nn ≤ 7) (hE : RepE e1 e2 es A) (hok : okE e1 e2 es) (ha : a < 7) (hb : b < 7) (hab : a ≠ b) (h : ∀ A', RepQ nn e1 e2 a b A' → A'.1 48 7 = nI nn → OffL [48, 54] A A' → K none A') : Ct yX0_part mX0_part 2 dC gC [.ref 48, .int (nI a), .int (nI b)] A K := by
  refine Ct.of [some (.ref 48), some (.int (nI a)), some (.int (nI b)), none] rfl rfl rfl (Nat.le_of_ble_eq_true rfl) ?_
  have hN := p7 hn
  have h32 := part32 a ha b hb hab
  have lp7 : ∀ (nf : Nat) (i : Nat) (A' : AH), i ≤ 2 ^ nn → OffL [48, 54] A A' → A'.1 48 8 = nI (cntTo (sideP a b) i) → (∀ s, s < i → sideP a b s = true → A'.1 54 (cntTo (sideP a b) s) = nI (acr e1 e2 s 13)) → A'.1 48 7 = nI nn → 2 ^ nn - i < nf → WP mX0_part 2 dC gC 7 [some (.ref 48), some (.int (nI a)), some (.int (nI b)), some (.int (nI i))] [] A' K := by
    intro nf
    induction nf with
    | zero => intros; omega
    | succ nf ih =>
      intro i A' hi hO h8 hv h7 hms
      have hE2 : RepE e1 e2 es A' := hE.cong (hO 49 (by decide)).1 (hO 50 (by decide)).1 (hO 51 (by decide)).1
      refine w_iload_n 8 dX0_part_7 rfl rfl ?_
      refine w_iconst 9 dX0_part_8 rfl (v := nI 1) rfl ?_
      refine w_aload_n 10 dX0_part_9 rfl rfl ?_
      refine w_getiv 13 dX0_part_10 rfl faX0_46 rfl rfl rfl h7 ?_
      refine w_shl1 14 dX0_part_13 rfl (by omega) ?_
      refine w_icgeN 72 17 dX0_part_14 rfl rfl (by omega) (by omega) (fun c14 => ?_) (fun c14 => ?_)
      · skip
        have e : i = 2 ^ nn := by omega
        subst e
        refine wr_v dX0_part_72 rfl ?_
        exact h A' ⟨h8, fun s hs hp => hv s hs hp⟩ h7 hO
      · skip
        refine w_iload_n 18 dX0_part_17 rfl rfl ?_
        refine w_iload_n 19 dX0_part_18 rfl rfl ?_
        refine w_invs2 22 dX0_part_19 rfl slX0_71 (d' := 0) (by decide) (Nat.le_of_ble_eq_true rfl) (c_X11_has ?_)
        rw [hasB_nI (by omega) (by omega)]
        refine w_ifeqB 66 25 dX0_part_22 rfl rfl (fun c22 => ?_) (fun c22 => ?_)
        · skip
          refine w_inc3 69 dX0_part_66 rfl (by decide) rfl (v := nI (_ + 1)) (nI_1 _) ?_
          refine w_goto 7 dX0_part_69 rfl ?_
          refine wp_eq rfl rfl rfl (ih (i + 1) A' (by omega) hO ?_ (fun s hs hp => ?_) h7 (by omega))
          · rw [h8]; simp [cntTo, sideP, c22]
          · refine hv s ?_ hp
            by_cases e : s = i
            · subst e; simp [sideP, c22] at hp
            · omega
        · skip
          refine w_iload_n 26 dX0_part_25 rfl rfl ?_
          refine w_iload_n 27 dX0_part_26 rfl rfl ?_
          refine w_invs2 30 dX0_part_27 rfl slX0_71 (d' := 0) (by decide) (Nat.le_of_ble_eq_true rfl) (c_X11_has ?_)
          rw [hasB_nI (by omega) (by omega)]
          refine w_ifneB 66 33 dX0_part_30 rfl rfl (fun c30 => ?_) (fun c30 => ?_)
          · skip
            refine w_inc3 69 dX0_part_66 rfl (by decide) rfl (v := nI (_ + 1)) (nI_1 _) ?_
            refine w_goto 7 dX0_part_69 rfl ?_
            refine wp_eq rfl rfl rfl (ih (i + 1) A' (by omega) hO ?_ (fun s hs hp => ?_) h7 (by omega))
            · rw [h8]; simp [cntTo, sideP, c22, c30]
            · refine hv s ?_ hp
              by_cases e : s = i
              · subst e; simp [sideP, c30] at hp
              · omega
          · skip
            have hp : sideP a b i = true := by simp [sideP, c22, c30]
            have hlt := cntTo_lt (p := sideP a b) (s := i) (n := 128) (by omega) hp
            refine w_aload_n 34 dX0_part_33 rfl rfl ?_
            refine w_getiv 37 dX0_part_34 rfl faX0_68 rfl rfl rfl h8 ?_
            refine w_bipush 39 dX0_part_37 rfl (v := nI 32) rfl ?_
            refine w_icgeN 66 42 dX0_part_39 rfl rfl (by omega) (by omega) (fun c39 => (by omega)) (fun c39 => ?_)
            refine w_aload_n 43 dX0_part_42 rfl rfl ?_
            refine w_getr 46 dX0_part_43 rfl faX0_27 rfl rfl rfl (r := .ref 54) rfl ?_
            refine w_aload_n 47 dX0_part_46 rfl rfl ?_
            refine w_getiv 50 dX0_part_47 rfl faX0_68 rfl rfl rfl h8 ?_
            refine w_aload_n 51 dX0_part_50 rfl rfl ?_
            refine w_iload_n 52 dX0_part_51 rfl rfl ?_
            refine w_inv1 55 dX0_part_52 rfl mlX0_75 rfl rfl (d' := 1) (by decide) (Nat.le_of_ble_eq_true rfl) (c_X0_across hE2 hok (by omega) ?_)
            refine w_iastN 56 dX0_part_55 rfl rfl rfl (by decide) (by omega) ?_
            refine w_aload_n 57 dX0_part_56 rfl rfl ?_
            refine w_dup_r 58 dX0_part_57 rfl ?_
            refine w_getiv 61 dX0_part_58 rfl faX0_68 rfl rfl rfl (show _ = nI (cntTo (sideP a b) i) from by dsimp only; rw [upd2_ne (by decide)]; exact h8) ?_
            refine w_iconst 62 dX0_part_61 rfl (v := nI 1) rfl ?_
            refine w_iaddN 63 dX0_part_62 rfl ?_
            refine w_puti 66 dX0_part_63 rfl faX0_68 rfl rfl rfl rfl ?_
            refine w_inc3 69 dX0_part_66 rfl (by decide) rfl (v := nI (_ + 1)) (nI_1 _) ?_
            refine w_goto 7 dX0_part_69 rfl ?_
            refine wp_eq rfl rfl rfl (ih (i + 1) _ (by omega) ((hO.upd (by decide) _ _).upd (by decide) _ _) ?_ (fun s hs hq => ?_) ?_ (by omega))
            · dsimp only; rw [upd2_at]; simp [cntTo, hp]
            · dsimp only
              rw [upd2_ne (by decide)]
              by_cases e : s = i
              · subst e; rw [upd2_at]
              · have h2 := cntTo_lt (p := sideP a b) (s := s) (n := i) (by omega) hq
                rw [upd2_off (by omega)]
                exact hv s (by omega) hq
            · dsimp only; rw [upd2_off (by decide), upd2_ne (by decide)]; exact h7
  refine w_aload_n 1 dX0_part_0 rfl rfl ?_
  refine w_iconst 2 dX0_part_1 rfl (v := nI 0) rfl ?_
  refine w_puti 5 dX0_part_2 rfl faX0_68 rfl rfl rfl rfl ?_
  refine w_iconst 6 dX0_part_5 rfl (v := nI 0) rfl ?_
  refine w_ist3 7 dX0_part_6 rfl (by decide) rfl ?_
  refine lp7 _ 0 _ (Nat.zero_le _) (OffL.rf.upd (by decide) _ _) (by dsimp only; exact upd2_at) (fun s hs => absurd hs (Nat.not_lt_zero s)) (by dsimp only; rw [upd2_off (by decide)]; exact h7) (Nat.lt_succ_self _)
