/-! ===== reaching ===== -/
def rfT (e1 e2 : Nat → Nat) (sd m : Nat) : Nat → Nat
  | 0 => sd
  | t + 1 => if m.testBit t && (sd.testBit (e1 t) || sd.testBit (e2 t)) then rfT e1 e2 sd m t ||| (2 ^ (e1 t) ||| 2 ^ (e2 t)) else rfT e1 e2 sd m t
def rch (e1 e2 : Nat → Nat) (m sd : Nat) : Nat := rfT e1 e2 sd m 8
def rit (e1 e2 : Nat → Nat) (m a : Nat) : Nat → Nat
  | 0 => 2 ^ a
  | k + 1 => rch e1 e2 m (rit e1 e2 m a k)
theorem pw7 {a : Nat} (h : a < 7) : 2 ^ a < 2 ^ 7 := Nat.pow_lt_pow_right (by decide) h
theorem rfT_lt {e1 e2 es : Nat → Nat} (h : okE e1 e2 es) {sd m : Nat} (hs : sd < 2 ^ 7) : ∀ {t : Nat}, t ≤ 13 → rfT e1 e2 sd m t < 2 ^ 7
  | 0, _ => hs
  | t + 1, ht => by
    simp only [rfT]
    split
    · exact Nat.or_lt_two_pow (rfT_lt h hs (by omega)) (Nat.or_lt_two_pow (pw7 (h t (by omega)).1) (pw7 (h t (by omega)).2.1))
    · exact rfT_lt h hs (by omega)
theorem rit_lt {e1 e2 es : Nat → Nat} (h : okE e1 e2 es) {m a : Nat} (ha : a < 7) : ∀ k, rit e1 e2 m a k < 2 ^ 7
  | 0 => pw7 ha
  | k + 1 => rfT_lt h (rit_lt h ha k) (by decide)
def fst1 (p : Nat → Bool) : Nat → Option Nat
  | 0 => none
  | n + 1 => match fst1 p n with
    | some i => some i
    | none => if p n then some n else none
theorem fst1_some {p : Nat → Bool} {i : Nat} (h : fst1 p i = none) (hp : p i = true) : ∀ {n : Nat}, i < n → fst1 p n = some i
  | 0, hn => absurd hn (Nat.not_lt_zero i)
  | n + 1, hn => by
    by_cases e : i = n
    · subst e; simp [fst1, h, hp]
    · simp [fst1, fst1_some h hp (show i < n by omega)]
theorem fst1_cong {p r : Nat → Bool} : ∀ {n : Nat}, (∀ i, i < n → p i = r i) → fst1 p n = fst1 r n
  | 0, _ => rfl
  | n + 1, h => by
    have ih := fst1_cong (n := n) (fun i hi => h i (by omega))
    simp only [fst1, ih, h n (by omega)]
theorem fst1_lt {p : Nat → Bool} {i : Nat} : ∀ {n : Nat}, fst1 p n = some i → i < n ∧ p i = true
  | 0, h => by simp [fst1] at h
  | n + 1, h => by
    simp only [fst1] at h
    split at h
    · next j hj => cases h; have := fst1_lt hj; exact ⟨by omega, this.2⟩
    · split at h
      · next hp => cases h; exact ⟨by omega, hp⟩
      · cases h
def enc2 : Option Nat → Int32
  | none => -2
  | some v => nI v
theorem nI_m2 {v : Nat} (h : v < 2 ^ 31) : ¬ nI v = -2 := by
  intro e
  have h1 := congrArg Int32.toInt e
  rw [nI_toInt h] at h1
  have h2 : (-2 : Int32).toInt = -2 := by decide
  omega
set_option maxRecDepth 4000 in
theorem c_X0_reachedFrom {K : Option Value → AH → Prop} {A : AH} {e1 e2 es : Nat → Nat} {sd m : Nat} (hE : RepE e1 e2 es A) (hok : okE e1 e2 es) (hsd : sd < 2 ^ 7) (hm : m < 256) (h : K (some (.int (nI (rch e1 e2 m sd)))) A) : Ct yX0_reachedFrom mX0_reachedFrom 1 dC gC [.ref 48, .int (nI sd), .int (nI m)] A K := by
  refine Ct.of [some (.ref 48), some (.int (nI sd)), some (.int (nI m)), none, none] rfl rfl rfl (Nat.le_of_ble_eq_true rfl) ?_
  have lp5 : ∀ (nf : Nat) (i : Nat), i ≤ 8 → 8 - i < nf → WP mX0_reachedFrom 1 dC gC 5 [some (.ref 48), some (.int (nI sd)), some (.int (nI m)), some (.int (nI (rfT e1 e2 sd m i))), some (.int (nI i))] [] A K := by
    intro nf
    induction nf with
    | zero => intros; omega
    | succ nf ih =>
      intro i hi hms
      refine w_iload 7 dX0_reachedFrom_5 rfl rfl ?_
      refine w_bipush 9 dX0_reachedFrom_7 rfl (v := nI 8) rfl ?_
      refine w_icgeN 77 12 dX0_reachedFrom_9 rfl rfl (by omega) (by omega) (fun c9 => ?_) (fun c9 => ?_)
      · skip
        have e : i = 8 := by omega
        subst e
        refine w_iload_n 78 dX0_reachedFrom_77 rfl rfl ?_
        refine wr_i dX0_reachedFrom_78 rfl ?_
        exact h
      · skip
        obtain ⟨o1, o2, o3⟩ := hok i (by omega)
        obtain ⟨f1, f2, f3⟩ := hE i (by omega)
        refine w_iload_n 13 dX0_reachedFrom_12 rfl rfl ?_
        refine w_iload 15 dX0_reachedFrom_13 rfl rfl ?_
        refine w_invs2 18 dX0_reachedFrom_15 rfl slX0_71 (d' := 0) (by decide) (Nat.le_of_ble_eq_true rfl) (c_X11_has ?_)
        rw [hasB_nI (by omega) (by omega)]
        refine w_ifeqB 71 21 dX0_reachedFrom_18 rfl rfl (fun c18 => ?_) (fun c18 => ?_)
        · skip
          refine w_inc4 74 dX0_reachedFrom_71 rfl (by decide) rfl (v := nI (_ + 1)) (nI_1 _) ?_
          refine w_goto 5 dX0_reachedFrom_74 rfl ?_
          refine wp_eq ?_ rfl rfl (ih (i + 1) (by omega) (by omega))
          simp [rfT, c18]
        · skip
          refine w_iload_n 22 dX0_reachedFrom_21 rfl rfl ?_
          refine w_aload_n 23 dX0_reachedFrom_22 rfl rfl ?_
          refine w_getr 26 dX0_reachedFrom_23 rfl faX0_11 rfl rfl rfl (r := .ref 49) rfl ?_
          refine w_iload 28 dX0_reachedFrom_26 rfl rfl ?_
          refine w_ialdv 29 dX0_reachedFrom_28 rfl rfl rfl (by decide) (by omega) f1 ?_
          refine w_invs2 32 dX0_reachedFrom_29 rfl slX0_71 (d' := 0) (by decide) (Nat.le_of_ble_eq_true rfl) (c_X11_has ?_)
          rw [hasB_nI (by omega) (by omega)]
          refine w_ifneB 49 35 dX0_reachedFrom_32 rfl rfl (fun c32 => ?_) (fun c32 => ?_)
          · skip
            refine w_iload_n 50 dX0_reachedFrom_49 rfl rfl ?_
            refine w_iconst 51 dX0_reachedFrom_50 rfl (v := nI 1) rfl ?_
            refine w_aload_n 52 dX0_reachedFrom_51 rfl rfl ?_
            refine w_getr 55 dX0_reachedFrom_52 rfl faX0_11 rfl rfl rfl (r := .ref 49) rfl ?_
            refine w_iload 57 dX0_reachedFrom_55 rfl rfl ?_
            refine w_ialdv 58 dX0_reachedFrom_57 rfl rfl rfl (by decide) (by omega) f1 ?_
            refine w_shl1 59 dX0_reachedFrom_58 rfl (by omega) ?_
            refine w_iconst 60 dX0_reachedFrom_59 rfl (v := nI 1) rfl ?_
            refine w_aload_n 61 dX0_reachedFrom_60 rfl rfl ?_
            refine w_getr 64 dX0_reachedFrom_61 rfl faX0_15 rfl rfl rfl (r := .ref 50) rfl ?_
            refine w_iload 66 dX0_reachedFrom_64 rfl rfl ?_
            refine w_ialdv 67 dX0_reachedFrom_66 rfl rfl rfl (by decide) (by omega) f2 ?_
            refine w_shl1 68 dX0_reachedFrom_67 rfl (by omega) ?_
            refine w_ior 69 dX0_reachedFrom_68 rfl ?_
            refine w_top (nI_or _ _) ?_
            refine w_ior 70 dX0_reachedFrom_69 rfl ?_
            refine w_top (nI_or _ _) ?_
            refine w_ist3 71 dX0_reachedFrom_70 rfl (by decide) rfl ?_
            refine w_inc4 74 dX0_reachedFrom_71 rfl (by decide) rfl (v := nI (_ + 1)) (nI_1 _) ?_
            refine w_goto 5 dX0_reachedFrom_74 rfl ?_
            refine wp_eq ?_ rfl rfl (ih (i + 1) (by omega) (by omega))
            simp [rfT, c18, c32]
          · skip
            refine w_iload_n 36 dX0_reachedFrom_35 rfl rfl ?_
            refine w_aload_n 37 dX0_reachedFrom_36 rfl rfl ?_
            refine w_getr 40 dX0_reachedFrom_37 rfl faX0_15 rfl rfl rfl (r := .ref 50) rfl ?_
            refine w_iload 42 dX0_reachedFrom_40 rfl rfl ?_
            refine w_ialdv 43 dX0_reachedFrom_42 rfl rfl rfl (by decide) (by omega) f2 ?_
            refine w_invs2 46 dX0_reachedFrom_43 rfl slX0_71 (d' := 0) (by decide) (Nat.le_of_ble_eq_true rfl) (c_X11_has ?_)
            rw [hasB_nI (by omega) (by omega)]
            refine w_ifeqB 71 49 dX0_reachedFrom_46 rfl rfl (fun c46 => ?_) (fun c46 => ?_)
            · skip
              refine w_inc4 74 dX0_reachedFrom_71 rfl (by decide) rfl (v := nI (_ + 1)) (nI_1 _) ?_
              refine w_goto 5 dX0_reachedFrom_74 rfl ?_
              refine wp_eq ?_ rfl rfl (ih (i + 1) (by omega) (by omega))
              simp [rfT, c18, c32, c46]
            · skip
              refine w_iload_n 50 dX0_reachedFrom_49 rfl rfl ?_
              refine w_iconst 51 dX0_reachedFrom_50 rfl (v := nI 1) rfl ?_
              refine w_aload_n 52 dX0_reachedFrom_51 rfl rfl ?_
              refine w_getr 55 dX0_reachedFrom_52 rfl faX0_11 rfl rfl rfl (r := .ref 49) rfl ?_
              refine w_iload 57 dX0_reachedFrom_55 rfl rfl ?_
              refine w_ialdv 58 dX0_reachedFrom_57 rfl rfl rfl (by decide) (by omega) f1 ?_
              refine w_shl1 59 dX0_reachedFrom_58 rfl (by omega) ?_
              refine w_iconst 60 dX0_reachedFrom_59 rfl (v := nI 1) rfl ?_
              refine w_aload_n 61 dX0_reachedFrom_60 rfl rfl ?_
              refine w_getr 64 dX0_reachedFrom_61 rfl faX0_15 rfl rfl rfl (r := .ref 50) rfl ?_
              refine w_iload 66 dX0_reachedFrom_64 rfl rfl ?_
              refine w_ialdv 67 dX0_reachedFrom_66 rfl rfl rfl (by decide) (by omega) f2 ?_
              refine w_shl1 68 dX0_reachedFrom_67 rfl (by omega) ?_
              refine w_ior 69 dX0_reachedFrom_68 rfl ?_
              refine w_top (nI_or _ _) ?_
              refine w_ior 70 dX0_reachedFrom_69 rfl ?_
              refine w_top (nI_or _ _) ?_
              refine w_ist3 71 dX0_reachedFrom_70 rfl (by decide) rfl ?_
              refine w_inc4 74 dX0_reachedFrom_71 rfl (by decide) rfl (v := nI (_ + 1)) (nI_1 _) ?_
              refine w_goto 5 dX0_reachedFrom_74 rfl ?_
              refine wp_eq ?_ rfl rfl (ih (i + 1) (by omega) (by omega))
              simp [rfT, c18, c32, c46]
  refine w_iload_n 1 dX0_reachedFrom_0 rfl rfl ?_
  refine w_ist3 2 dX0_reachedFrom_1 rfl (by decide) rfl ?_
  refine w_iconst 3 dX0_reachedFrom_2 rfl (v := nI 0) rfl ?_
  refine w_ist4 5 dX0_reachedFrom_3 rfl (by decide) rfl ?_
  exact lp5 _ 0 (Nat.zero_le _) (Nat.lt_succ_self _)

set_option maxRecDepth 4000 in
theorem c_X0_steps {K : Option Value → AH → Prop} {A : AH} {nn a b : Nat} {e1 e2 es : Nat → Nat} (hR : BR nn e1 e2 es A) (ha : a < 7) (hb : b < 7) (h : K (some (.int (enc2 (fst1 (fun k => (rit e1 e2 (heldM es) a k).testBit b) nn)))) A) : Ct yX0_steps mX0_steps 2 dC gC [.ref 48, .int (nI a), .int (nI b)] A K := by
  refine Ct.of [some (.ref 48), some (.int (nI a)), some (.int (nI b)), none, none, none] rfl rfl rfl (Nat.le_of_ble_eq_true rfl) ?_
  have hn7 := hR.2.1
  have lp13 : ∀ (nf : Nat) (i : Nat), i ≤ nn → fst1 (fun k => (rit e1 e2 (heldM es) a k).testBit b) i = none → nn - i < nf → WP mX0_steps 2 dC gC 13 [some (.ref 48), some (.int (nI a)), some (.int (nI b)), some (.int (nI (heldM es))), some (.int (nI (rit e1 e2 (heldM es) a i))), some (.int (nI i))] [] A K := by
    intro nf
    induction nf with
    | zero => intros; omega
    | succ nf ih =>
      intro i hi hf hms
      have hri := rit_lt hR.2.2.2.1 (m := heldM es) ha i
      refine w_iload 15 dX0_steps_13 rfl rfl ?_
      refine w_aload_n 16 dX0_steps_15 rfl rfl ?_
      refine w_getiv 19 dX0_steps_16 rfl faX0_46 rfl rfl rfl hR.1 ?_
      refine w_icgeN 49 22 dX0_steps_19 rfl rfl (by omega) (by omega) (fun c19 => ?_) (fun c19 => ?_)
      · skip
        refine w_bipush 51 dX0_steps_49 rfl (v := (-2)) rfl ?_
        refine wr_i dX0_steps_51 rfl ?_
        have e : i = nn := by omega
        subst e
        exact kq h (by rw [hf]; rfl)
      · skip
        refine w_iload 24 dX0_steps_22 rfl rfl ?_
        refine w_iload_n 25 dX0_steps_24 rfl rfl ?_
        refine w_invs2 28 dX0_steps_25 rfl slX0_71 (d' := 0) (by decide) (Nat.le_of_ble_eq_true rfl) (c_X11_has ?_)
        rw [hasB_nI (by omega) (by omega)]
        refine w_ifeqB 34 31 dX0_steps_28 rfl rfl (fun c28 => ?_) (fun c28 => ?_)
        · skip
          refine w_aload_n 35 dX0_steps_34 rfl rfl ?_
          refine w_iload 37 dX0_steps_35 rfl rfl ?_
          refine w_iload_n 38 dX0_steps_37 rfl rfl ?_
          refine w_inv2 41 dX0_steps_38 rfl mlX0_102 rfl rfl (d' := 1) (by decide) (Nat.le_of_ble_eq_true rfl) (c_X0_reachedFrom hR.2.2.1 hR.2.2.2.1 hri (heldM_lt es) ?_)
          refine w_ist4 43 dX0_steps_41 rfl (by decide) rfl ?_
          refine w_inc5 46 dX0_steps_43 rfl (by decide) rfl (v := nI (_ + 1)) (nI_1 _) ?_
          refine w_goto 13 dX0_steps_46 rfl ?_
          exact ih (i + 1) (by omega) (by simp [fst1, hf, c28]) (by omega)
        · skip
          refine w_iload 33 dX0_steps_31 rfl rfl ?_
          refine wr_i dX0_steps_33 rfl ?_
          exact kq h (by rw [fst1_some hf c28 c19]; rfl)
  refine w_aload_n 1 dX0_steps_0 rfl rfl ?_
  refine w_inv0 4 dX0_steps_1 rfl mlX0_88 rfl rfl (d' := 0) (by decide) (Nat.le_of_ble_eq_true rfl) (c_X0_held hR.2.2.1 hR.2.2.2.1 ?_)
  refine w_ist3 5 dX0_steps_4 rfl (by decide) rfl ?_
  refine w_iconst 6 dX0_steps_5 rfl (v := nI 1) rfl ?_
  refine w_iload_n 7 dX0_steps_6 rfl rfl ?_
  refine w_shl1 8 dX0_steps_7 rfl (by omega) ?_
  refine w_ist4 10 dX0_steps_8 rfl (by decide) rfl ?_
  refine w_iconst 11 dX0_steps_10 rfl (v := nI 0) rfl ?_
  refine w_ist5 13 dX0_steps_11 rfl (by decide) rfl ?_
  exact lp13 _ 0 (Nat.zero_le _) rfl (Nat.lt_succ_self _)

set_option maxRecDepth 4000 in
theorem c_X0_pieceOf {K : Option Value → AH → Prop} {A : AH} {nn a m : Nat} {e1 e2 es : Nat → Nat} (hR : BR nn e1 e2 es A) (ha : a < 7) (hm : m < 256) (hn : 0 < nn) (h : K (some (.int (nI (rit e1 e2 m a (nn - 1))))) A) : Ct yX0_pieceOf mX0_pieceOf 2 dC gC [.ref 48, .int (nI a), .int (nI m)] A K := by
  refine Ct.of [some (.ref 48), some (.int (nI a)), some (.int (nI m)), none, none] rfl rfl rfl (Nat.le_of_ble_eq_true rfl) ?_
  have hn7 := hR.2.1
  have lp7 : ∀ (nf : Nat) (i : Nat), i + 1 ≤ nn → nn - i < nf → WP mX0_pieceOf 2 dC gC 7 [some (.ref 48), some (.int (nI a)), some (.int (nI m)), some (.int (nI (rit e1 e2 m a i))), some (.int (nI (i + 1)))] [] A K := by
    intro nf
    induction nf with
    | zero => intros; omega
    | succ nf ih =>
      intro i hi hms
      have hri := rit_lt hR.2.2.2.1 (m := m) ha i
      refine w_iload 9 dX0_pieceOf_7 rfl rfl ?_
      refine w_aload_n 10 dX0_pieceOf_9 rfl rfl ?_
      refine w_getiv 13 dX0_pieceOf_10 rfl faX0_46 rfl rfl rfl hR.1 ?_
      refine w_icgeN 29 16 dX0_pieceOf_13 rfl rfl (by omega) (by omega) (fun c13 => ?_) (fun c13 => ?_)
      · skip
        have e : i = nn - 1 := by omega
        subst e
        refine w_iload_n 30 dX0_pieceOf_29 rfl rfl ?_
        refine wr_i dX0_pieceOf_30 rfl ?_
        exact h
      · skip
        refine w_aload_n 17 dX0_pieceOf_16 rfl rfl ?_
        refine w_iload_n 18 dX0_pieceOf_17 rfl rfl ?_
        refine w_iload_n 19 dX0_pieceOf_18 rfl rfl ?_
        refine w_inv2 22 dX0_pieceOf_19 rfl mlX0_102 rfl rfl (d' := 1) (by decide) (Nat.le_of_ble_eq_true rfl) (c_X0_reachedFrom hR.2.2.1 hR.2.2.2.1 hri hm ?_)
        refine w_ist3 23 dX0_pieceOf_22 rfl (by decide) rfl ?_
        refine w_inc4 26 dX0_pieceOf_23 rfl (by decide) rfl (v := nI (_ + 1)) (nI_1 _) ?_
        refine w_goto 7 dX0_pieceOf_26 rfl ?_
        exact ih (i + 1) (by omega) (by omega)
  refine w_iconst 1 dX0_pieceOf_0 rfl (v := nI 1) rfl ?_
  refine w_iload_n 2 dX0_pieceOf_1 rfl rfl ?_
  refine w_shl1 3 dX0_pieceOf_2 rfl (by omega) ?_
  refine w_ist3 4 dX0_pieceOf_3 rfl (by decide) rfl ?_
  refine w_iconst 5 dX0_pieceOf_4 rfl (v := nI 1) rfl ?_
  refine w_ist4 7 dX0_pieceOf_5 rfl (by decide) rfl ?_
  exact lp7 _ 0 (by omega) (Nat.lt_succ_self _)

/-- seen nails, and how many pieces, behind the first a nails -/
def seenT (e1 e2 : Nat → Nat) (m nn : Nat) : Nat → Nat
  | 0 => 0
  | a + 1 => if (seenT e1 e2 m nn a).testBit a then seenT e1 e2 m nn a else seenT e1 e2 m nn a ||| rit e1 e2 m a (nn - 1)
def pcsT (e1 e2 : Nat → Nat) (m nn : Nat) : Nat → Nat
  | 0 => 0
  | a + 1 => if (seenT e1 e2 m nn a).testBit a then pcsT e1 e2 m nn a else pcsT e1 e2 m nn a + 1
theorem seenT_lt {e1 e2 es : Nat → Nat} (h : okE e1 e2 es) {m nn : Nat} : ∀ {a : Nat}, a ≤ 7 → seenT e1 e2 m nn a < 2 ^ 7
  | 0, _ => by show 0 < 2 ^ 7; decide
  | a + 1, ha => by
    simp only [seenT]
    split
    · exact seenT_lt h (by omega)
    · exact Nat.or_lt_two_pow (seenT_lt h (by omega)) (rit_lt h (by omega) _)
set_option maxRecDepth 4000 in
theorem c_X0_pieces {K : Option Value → AH → Prop} {A : AH} {nn m : Nat} {e1 e2 es : Nat → Nat} (hR : BR nn e1 e2 es A) (hm : m < 256) (h : K (some (.int (nI (pcsT e1 e2 m nn nn)))) A) : Ct yX0_pieces mX0_pieces 3 dC gC [.ref 48, .int (nI m)] A K := by
  refine Ct.of [some (.ref 48), some (.int (nI m)), none, none, none] rfl rfl rfl (Nat.le_of_ble_eq_true rfl) ?_
  have hn7 := hR.2.1
  have lp7 : ∀ (nf : Nat) (i : Nat), i ≤ nn → nn - i < nf → WP mX0_pieces 3 dC gC 7 [some (.ref 48), some (.int (nI m)), some (.int (nI (seenT e1 e2 m nn i))), some (.int (nI (pcsT e1 e2 m nn i))), some (.int (nI i))] [] A K := by
    intro nf
    induction nf with
    | zero => intros; omega
    | succ nf ih =>
      intro i hi hms
      have hri := seenT_lt hR.2.2.2.1 (m := m) (nn := nn) (a := i) (by omega)
      refine w_iload 9 dX0_pieces_7 rfl rfl ?_
      refine w_aload_n 10 dX0_pieces_9 rfl rfl ?_
      refine w_getiv 13 dX0_pieces_10 rfl faX0_46 rfl rfl rfl hR.1 ?_
      refine w_icgeN 44 16 dX0_pieces_13 rfl rfl (by omega) (by omega) (fun c13 => ?_) (fun c13 => ?_)
      · skip
        have e : i = nn := by omega
        subst e
        refine w_iload_n 45 dX0_pieces_44 rfl rfl ?_
        refine wr_i dX0_pieces_45 rfl ?_
        exact h
      · skip
        refine w_iload_n 17 dX0_pieces_16 rfl rfl ?_
        refine w_iload 19 dX0_pieces_17 rfl rfl ?_
        refine w_invs2 22 dX0_pieces_19 rfl slX0_71 (d' := 0) (by decide) (Nat.le_of_ble_eq_true rfl) (c_X11_has ?_)
        rw [hasB_nI (by omega) (by omega)]
        refine w_ifneB 38 25 dX0_pieces_22 rfl rfl (fun c22 => ?_) (fun c22 => ?_)
        · skip
          refine w_inc4 41 dX0_pieces_38 rfl (by decide) rfl (v := nI (_ + 1)) (nI_1 _) ?_
          refine w_goto 7 dX0_pieces_41 rfl ?_
          refine wp_eq ?_ rfl rfl (ih (i + 1) (by omega) (by omega))
          simp [seenT, pcsT, c22]
        · skip
          refine w_inc3 28 dX0_pieces_25 rfl (by decide) rfl (v := nI (_ + 1)) (nI_1 _) ?_
          refine w_iload_n 29 dX0_pieces_28 rfl rfl ?_
          refine w_aload_n 30 dX0_pieces_29 rfl rfl ?_
          refine w_iload 32 dX0_pieces_30 rfl rfl ?_
          refine w_iload_n 33 dX0_pieces_32 rfl rfl ?_
          refine w_inv2 36 dX0_pieces_33 rfl mlX0_105 rfl rfl (d' := 2) (by decide) (Nat.le_of_ble_eq_true rfl) (c_X0_pieceOf hR (by omega) hm (by omega) ?_)
          refine w_ior 37 dX0_pieces_36 rfl ?_
          refine w_top (nI_or _ _) ?_
          refine w_ist2 38 dX0_pieces_37 rfl (by decide) rfl ?_
          refine w_inc4 41 dX0_pieces_38 rfl (by decide) rfl (v := nI (_ + 1)) (nI_1 _) ?_
          refine w_goto 7 dX0_pieces_41 rfl ?_
          refine wp_eq ?_ rfl rfl (ih (i + 1) (by omega) (by omega))
          simp [seenT, pcsT, c22]
  refine w_iconst 1 dX0_pieces_0 rfl (v := nI 0) rfl ?_
  refine w_ist2 2 dX0_pieces_1 rfl (by decide) rfl ?_
  refine w_iconst 3 dX0_pieces_2 rfl (v := nI 0) rfl ?_
  refine w_ist3 4 dX0_pieces_3 rfl (by decide) rfl ?_
  refine w_iconst 5 dX0_pieces_4 rfl (v := nI 0) rfl ?_
  refine w_ist4 7 dX0_pieces_5 rfl (by decide) rfl ?_
  exact lp7 _ 0 (Nat.zero_le _) (Nat.lt_succ_self _)

/-! ===== turns ===== -/
theorem xor_lt {l t : Nat} (h : l.testBit t = true) : l ^^^ 2 ^ t < l := by
  have h1 : l ^^^ 2 ^ t ≤ l := Nat.le_of_testBit (fun i hi => by
    rw [Nat.testBit_xor] at hi
    by_cases e : t = i
    · rw [← e]; exact h
    · rw [Nat.testBit_two_pow_of_ne e, Bool.xor_false] at hi
      exact hi)
  have h2 : l ^^^ 2 ^ t ≠ l := by
    intro e
    have h3 : (l ^^^ 2 ^ t).testBit t = l.testBit t := by rw [e]
    rw [Nat.testBit_xor, h, Nat.testBit_two_pow_self] at h3
    cases h3
  omega
theorem xor256 {l t : Nat} (hl : l < 256) (ht : t < 8) : l ^^^ 2 ^ t < 256 := Nat.xor_lt_two_pow (n := 8) hl (Nat.pow_lt_pow_right (by decide) ht)
def winTab (z : Nat → Bool) : Nat → Nat → Bool
  | 0, _ => false
  | k + 1, l => if l = k then (z k || (fst1 (fun t => k.testBit t && !winTab z k (k ^^^ 2 ^ t)) 8).isSome) else winTab z k l
def wn (z : Nat → Bool) (l : Nat) : Bool := winTab z (l + 1) l
theorem winTab_st {z : Nat → Bool} {l : Nat} : ∀ {k : Nat}, l < k → winTab z k l = wn z l
  | 0, h => absurd h (Nat.not_lt_zero l)
  | k + 1, h => by
    by_cases e : l = k
    · subst e; rfl
    · simp only [winTab, if_neg e]
      exact winTab_st (by omega)
theorem wn_eq {z : Nat → Bool} {l : Nat} : wn z l = (z l || (fst1 (fun t => l.testBit t && !wn z (l ^^^ 2 ^ t)) 8).isSome) := by
  have h : ∀ t, t < 8 → (l.testBit t && !winTab z l (l ^^^ 2 ^ t)) = (l.testBit t && !wn z (l ^^^ 2 ^ t)) := by
    intro t _
    by_cases hb : l.testBit t = true
    · rw [winTab_st (xor_lt hb)]
    · simp [hb]
  show winTab z (l + 1) l = _
  simp only [winTab, if_true, fst1_cong h]
def subM (l h : Nat) : Bool := decide (l &&& (255 ^^^ h) = 0)
theorem not_and {m h : Nat} (hm : m < 256) : nI m &&& (nI h ^^^ (-1)) = nI (m &&& (255 ^^^ h)) := by
  apply Int32.toBitVec_inj.mp
  show BitVec.ofNat 32 m &&& (BitVec.ofNat 32 h ^^^ (-1 : Int32).toBitVec) = BitVec.ofNat 32 (m &&& (255 ^^^ h))
  apply BitVec.eq_of_getLsbD_eq
  intro i hi
  have h1 : (-1 : Int32).toBitVec = BitVec.allOnes 32 := by decide
  rw [BitVec.getLsbD_and, BitVec.getLsbD_xor, h1, BitVec.getLsbD_ofNat, BitVec.getLsbD_ofNat, BitVec.getLsbD_ofNat, BitVec.getLsbD_allOnes, Nat.testBit_and, Nat.testBit_xor]
  have h2 : (255 : Nat).testBit i = decide (i < 8) := by
    rw [show (255 : Nat) = 2 ^ 8 - 1 from rfl, Nat.testBit_two_pow_sub_one]
  rw [h2]
  by_cases h8 : i < 8
  · simp [hi, h8, Bool.xor_comm]
  · have : m.testBit i = false := Nat.testBit_lt_two_pow (Nat.lt_of_lt_of_le hm (show 2 ^ 8 ≤ 2 ^ i from Nat.pow_le_pow_right (by decide) (by omega)))
    simp [this]
theorem isW {l h : Nat} (hl : l < 256) : decide (nI l &&& (nI h ^^^ (-1)) = 0) = subM l h := by
  rw [not_and hl, ← nI_0]
  unfold subM
  have : l &&& (255 ^^^ h) ≤ l := Nat.and_le_left
  congr 1
  rw [nI_eq (by omega) (by decide)]
theorem subM_iff {l h : Nat} (hl : l < 256) : subM l h = true ↔ ∀ i, l.testBit i = true → h.testBit i = true := by
  unfold subM
  rw [decide_eq_true_eq]
  constructor
  · intro e i hi
    have h1 : (l &&& (255 ^^^ h)).testBit i = false := by rw [e]; exact Nat.zero_testBit i
    rw [Nat.testBit_and, hi, Bool.true_and, Nat.testBit_xor] at h1
    have h8 : i < 8 := by
      by_cases q : i < 8
      · exact q
      · have : l.testBit i = false := Nat.testBit_lt_two_pow (Nat.lt_of_lt_of_le hl (show 2 ^ 8 ≤ 2 ^ i from Nat.pow_le_pow_right (by decide) (by omega)))
        rw [this] at hi; cases hi
    have h2 : (255 : Nat).testBit i = true := by rw [show (255 : Nat) = 2 ^ 8 - 1 from rfl, Nat.testBit_two_pow_sub_one]; simp [h8]
    rw [h2] at h1
    cases hb : h.testBit i
    · rw [hb] at h1; cases h1
    · rfl
  · intro hs
    apply Nat.eq_of_testBit_eq
    intro i
    rw [Nat.zero_testBit, Nat.testBit_and, Nat.testBit_xor]
    cases hi : l.testBit i
    · rfl
    · have h8 : i < 8 := by
        by_cases q : i < 8
        · exact q
        · have : l.testBit i = false := Nat.testBit_lt_two_pow (Nat.lt_of_lt_of_le hl (show 2 ^ 8 ≤ 2 ^ i from Nat.pow_le_pow_right (by decide) (by omega)))
          rw [this] at hi; cases hi
      have h2 : (255 : Nat).testBit i = true := by rw [show (255 : Nat) = 2 ^ 8 - 1 from rfl, Nat.testBit_two_pow_sub_one]; simp [h8]
      rw [h2, hs i hi]; rfl
theorem subM_x {l h t : Nat} (hl : l < 256) (ht : t < 8) (hs : subM l h = true) (hb : l.testBit t = true) : subM (l ^^^ 2 ^ t) h = true := by
  rw [subM_iff (xor256 hl ht)]
  rw [subM_iff hl] at hs
  intro i hi
  apply hs
  rw [Nat.testBit_xor] at hi
  by_cases e : t = i
  · rw [← e]; exact hb
  · rw [Nat.testBit_two_pow_of_ne e, Bool.xor_false] at hi
    exact hi
set_option maxRecDepth 4000 in
theorem c_X0_wins {K : Option Value → AH → Prop} {A : AH} {l : Nat} {v : Bool} (hl : l < 256) (hw : A.1 55 l = b2i v) (h : K (some (.int (b2i v))) A) : Ct yX0_wins mX0_wins 0 dC gC [.ref 48, .int (nI l)] A K := by
  refine Ct.of [some (.ref 48), some (.int (nI l))] rfl rfl rfl (Nat.le_of_ble_eq_true rfl) ?_
  refine w_iload_n 1 dX0_wins_0 rfl rfl ?_
  refine w_ifltN 24 4 dX0_wins_1 rfl rfl (by omega) ?_
  refine w_iload_n 5 dX0_wins_4 rfl rfl ?_
  refine w_sipush 8 dX0_wins_5 rfl (v := nI 256) rfl ?_
  refine w_icgeN 24 11 dX0_wins_8 rfl rfl (by omega) (by omega) (fun c8 => (by omega)) (fun c8 => ?_)
  refine w_aload_n 12 dX0_wins_11 rfl rfl ?_
  refine w_getr 15 dX0_wins_12 rfl faX0_30 rfl rfl rfl (r := .ref 55) rfl ?_
  refine w_iload_n 16 dX0_wins_15 rfl rfl ?_
  refine w_zaldv 17 dX0_wins_16 rfl rfl rfl (by decide) (by omega) hw ?_
  refine w_ifeqB 24 20 dX0_wins_17 rfl rfl (fun c17 => ?_) (fun c17 => ?_)
  · skip
    refine w_iconst 25 dX0_wins_24 rfl (v := nI 0) rfl ?_
    refine wr_z dX0_wins_25 rfl (by first | rfl | exact nb_b2i _) ?_
    exact kq h (by rw [c17]; rfl)
  · skip
    refine w_iconst 21 dX0_wins_20 rfl (v := nI 1) rfl ?_
    refine w_goto 25 dX0_wins_21 rfl ?_
    refine wr_z dX0_wins_25 rfl (by first | rfl | exact nb_b2i _) ?_
    exact kq h (by rw [c17]; rfl)

set_option maxRecDepth 4000 in
theorem c_X0_winningSnap {K : Option Value → AH → Prop} {A : AH} {l : Nat} {v : Nat → Bool} (hl : l < 256) (hw : ∀ t, t < 8 → l.testBit t = true → A.1 55 (l ^^^ 2 ^ t) = b2i (v t)) (h : K (some (.int (enc2 (fst1 (fun t => l.testBit t && !v t) 8)))) A) : Ct yX0_winningSnap mX0_winningSnap 1 dC gC [.ref 48, .int (nI l)] A K := by
  refine Ct.of [some (.ref 48), some (.int (nI l)), none] rfl rfl rfl (Nat.le_of_ble_eq_true rfl) ?_
  have lp2 : ∀ (nf : Nat) (i : Nat), i ≤ 8 → fst1 (fun t => l.testBit t && !v t) i = none → 8 - i < nf → WP mX0_winningSnap 1 dC gC 2 [some (.ref 48), some (.int (nI l)), some (.int (nI i))] [] A K := by
    intro nf
    induction nf with
    | zero => intros; omega
    | succ nf ih =>
      intro i hi hf hms
      refine w_iload_n 3 dX0_winningSnap_2 rfl rfl ?_
      refine w_bipush 5 dX0_winningSnap_3 rfl (v := nI 8) rfl ?_
      refine w_icgeN 36 8 dX0_winningSnap_5 rfl rfl (by omega) (by omega) (fun c5 => ?_) (fun c5 => ?_)
      · skip
        refine w_bipush 38 dX0_winningSnap_36 rfl (v := (-2)) rfl ?_
        refine wr_i dX0_winningSnap_38 rfl ?_
        have e : i = 8 := by omega
        subst e
        exact kq h (by rw [hf]; rfl)
      · skip
        refine w_iload_n 9 dX0_winningSnap_8 rfl rfl ?_
        refine w_iload_n 10 dX0_winningSnap_9 rfl rfl ?_
        refine w_invs2 13 dX0_winningSnap_10 rfl slX0_71 (d' := 0) (by decide) (Nat.le_of_ble_eq_true rfl) (c_X11_has ?_)
        rw [hasB_nI (by omega) (by omega)]
        refine w_ifeqB 30 16 dX0_winningSnap_13 rfl rfl (fun c13 => ?_) (fun c13 => ?_)
        · skip
          refine w_inc2 33 dX0_winningSnap_30 rfl (by decide) rfl (v := nI (_ + 1)) (nI_1 _) ?_
          refine w_goto 2 dX0_winningSnap_33 rfl ?_
          exact ih (i + 1) (by omega) (by simp [fst1, hf, c13]) (by omega)
        · skip
          refine w_aload_n 17 dX0_winningSnap_16 rfl rfl ?_
          refine w_iload_n 18 dX0_winningSnap_17 rfl rfl ?_
          refine w_iconst 19 dX0_winningSnap_18 rfl (v := nI 1) rfl ?_
          refine w_iload_n 20 dX0_winningSnap_19 rfl rfl ?_
          refine w_shl1 21 dX0_winningSnap_20 rfl (by omega) ?_
          refine w_ixor 22 dX0_winningSnap_21 rfl ?_
          refine w_top (nI_xor _ _) ?_
          refine w_inv1 25 dX0_winningSnap_22 rfl mlX0_114 rfl rfl (d' := 0) (by decide) (Nat.le_of_ble_eq_true rfl) (c_X0_wins (xor256 hl (by omega)) (hw i (by omega) c13) ?_)
          refine w_ifneB 30 28 dX0_winningSnap_25 rfl rfl (fun c25 => ?_) (fun c25 => ?_)
          · skip
            refine w_inc2 33 dX0_winningSnap_30 rfl (by decide) rfl (v := nI (_ + 1)) (nI_1 _) ?_
            refine w_goto 2 dX0_winningSnap_33 rfl ?_
            exact ih (i + 1) (by omega) (by simp [fst1, hf, c25]) (by omega)
          · skip
            refine w_iload_n 29 dX0_winningSnap_28 rfl rfl ?_
            refine wr_i dX0_winningSnap_29 rfl ?_
            exact kq h (by rw [fst1_some hf (show (l.testBit i && !v i) = true by simp [c13, c25]) c5]; rfl)
  refine w_iconst 1 dX0_winningSnap_0 rfl (v := nI 0) rfl ?_
  refine w_ist2 2 dX0_winningSnap_1 rfl (by decide) rfl ?_
  exact lp2 _ 0 (Nat.zero_le _) rfl (Nat.lt_succ_self _)

def zB (nn : Nat) (e1 e2 es : Nat → Nat) (a b l : Nat) : Bool := decide (bearV nn e1 e2 es l a b = 0)
def RepW (nn : Nat) (e1 e2 es : Nat → Nat) (a b n : Nat) (A : AH) : Prop := ∀ l, l < n → subM l (heldM es) = true → A.1 55 l = b2i (wn (zB nn e1 e2 es a b) l)
theorem RepQ.cong5 {nn a b o k : Nat} {x : Int32} {e1 e2 : Nat → Nat} {A : AH} (h : RepQ nn e1 e2 a b A) (ho : 54 < o) : RepQ nn e1 e2 a b (upd2 A.1 o k x, A.2) := ⟨by dsimp only; rw [upd2_ne (by omega)]; exact h.1, fun s hs hp => by dsimp only; rw [upd2_ne (by omega)]; exact h.2 s hs hp⟩
theorem BR.cong5 {nn o k : Nat} {x : Int32} {e1 e2 es : Nat → Nat} {A : AH} (h : BR nn e1 e2 es A) (ho : 54 < o) : BR nn e1 e2 es (upd2 A.1 o k x, A.2) := by
  obtain ⟨h1, h2, h3, h4, h5, h6⟩ := h
  exact ⟨by dsimp only; rw [upd2_ne (by omega)]; exact h1, h2, h3.cong (by dsimp only; rw [upd2_ne (by omega)]) (by dsimp only; rw [upd2_ne (by omega)]) (by dsimp only; rw [upd2_ne (by omega)]), h4, fun m hm => by dsimp only; rw [upd2_ne (by omega)]; exact h5 m hm, fun m hm => by dsimp only; rw [upd2_ne (by omega)]; exact h6 m hm⟩
set_option maxRecDepth 4000 in
theorem c_X0_playTurns {K : Option Value → AH → Prop} {A : AH} {nn a b : Nat} {e1 e2 es : Nat → Nat} (hR : BR nn e1 e2 es A) (ha : a < 7) (hb : b < 7) (hab : a ≠ b) (h : ∀ A', RepQ nn e1 e2 a b A' → BR nn e1 e2 es A' → RepW nn e1 e2 es a b 256 A' → OffL [48, 54, 55] A A' → K none A') : Ct yX0_playTurns mX0_playTurns 3 dC gC [.ref 48, .int (nI a), .int (nI b)] A K := by
  refine Ct.of [some (.ref 48), some (.int (nI a)), some (.int (nI b)), none, none] rfl rfl rfl (Nat.le_of_ble_eq_true rfl) ?_
  have h32 := Nat.le_trans (cntTo_mono (sideP a b) (p7 hR.2.1)) (part32 a ha b hb hab)
  have lp14 : ∀ (nf : Nat) (i : Nat) (A' : AH), i ≤ 256 → OffL [48, 54, 55] A A' → RepQ nn e1 e2 a b A' → BR nn e1 e2 es A' → RepW nn e1 e2 es a b i A' → 256 - i < nf → WP mX0_playTurns 3 dC gC 14 [some (.ref 48), some (.int (nI a)), some (.int (nI b)), some (.int (nI (heldM es))), some (.int (nI i))] [] A' K := by
    intro nf
    induction nf with
    | zero => intros; omega
    | succ nf ih =>
      intro i A' hi hO hQ hR2 hw hms
      refine w_iload 16 dX0_playTurns_14 rfl rfl ?_
      refine w_sipush 19 dX0_playTurns_16 rfl (v := nI 256) rfl ?_
      refine w_icgeN 69 22 dX0_playTurns_19 rfl rfl (by omega) (by omega) (fun c19 => ?_) (fun c19 => ?_)
      · skip
        have e : i = 256 := by omega
        subst e
        refine wr_v dX0_playTurns_69 rfl ?_
        exact h A' hQ hR2 hw hO
      · skip
        refine w_iload 24 dX0_playTurns_22 rfl rfl ?_
        refine w_iload_n 25 dX0_playTurns_24 rfl rfl ?_
        refine w_invs2 28 dX0_playTurns_25 rfl slX0_108 (d' := 0) (by decide) (Nat.le_of_ble_eq_true rfl) (c_X11_isWithin ?_)
        rw [isW (by omega)]
        refine w_ifeqB 63 31 dX0_playTurns_28 rfl rfl (fun c28 => ?_) (fun c28 => ?_)
        · skip
          refine w_inc4 66 dX0_playTurns_63 rfl (by decide) rfl (v := nI (_ + 1)) (nI_1 _) ?_
          refine w_goto 14 dX0_playTurns_66 rfl ?_
          exact ih (i + 1) A' (by omega) hO hQ hR2 (fun l hl hs => by
            by_cases e : l = i
            · subst e; rw [c28] at hs; cases hs
            · exact hw l (by omega) hs) (by omega)
        · skip
          refine w_aload_n 32 dX0_playTurns_31 rfl rfl ?_
          refine w_getr 35 dX0_playTurns_32 rfl faX0_30 rfl rfl rfl (r := .ref 55) rfl ?_
          refine w_iload 37 dX0_playTurns_35 rfl rfl ?_
          refine w_aload_n 38 dX0_playTurns_37 rfl rfl ?_
          refine w_iload 40 dX0_playTurns_38 rfl rfl ?_
          refine w_inv1 43 dX0_playTurns_40 rfl mlX0_91 rfl rfl (d' := 1) (by decide) (Nat.le_of_ble_eq_true rfl) (c_X0_borneBy hQ hR2.2.2.2.2 hR2.2.2.2.1 h32 ?_)
          refine w_ifeqN 57 46 dX0_playTurns_43 rfl rfl (by have := bearV_le (nn := nn) hR2.2.2.2.1 i a b; omega) (fun c43 => ?_) (fun c43 => ?_)
          · skip
            refine w_iconst 58 dX0_playTurns_57 rfl (v := nI 1) rfl ?_
            refine w_goto 62 dX0_playTurns_58 rfl ?_
            refine w_zastN 63 dX0_playTurns_62 rfl rfl rfl (by decide) (by omega) ?_
            refine w_inc4 66 dX0_playTurns_63 rfl (by decide) rfl (v := nI (_ + 1)) (nI_1 _) ?_
            refine w_goto 14 dX0_playTurns_66 rfl ?_
            refine ih (i + 1) _ (by omega) (hO.upd (by decide) _ _) (hQ.cong5 (by decide)) (hR2.cong5 (by decide)) (fun l hl hs => ?_) (by omega)
            dsimp only
            by_cases e : l = i
            · subst e
              rw [upd2_at, wn_eq, show zB nn e1 e2 es a b l = true by simp [zB, c43]]
              rfl
            · rw [upd2_off e]
              exact hw l (by omega) hs
          · skip
            refine w_aload_n 47 dX0_playTurns_46 rfl rfl ?_
            refine w_iload 49 dX0_playTurns_47 rfl rfl ?_
            refine w_inv1 52 dX0_playTurns_49 rfl mlX0_111 rfl rfl (d' := 1) (by decide) (Nat.le_of_ble_eq_true rfl) (c_X0_winningSnap (v := fun t => wn (zB nn e1 e2 es a b) (i ^^^ 2 ^ t)) (by omega) (fun t ht hbt => hw _ (xor_lt hbt) (subM_x (by omega) ht c28 hbt)) ?_)
            refine w_bipush 54 dX0_playTurns_52 rfl (v := (-2)) rfl ?_
            refine w_iceq 61 57 dX0_playTurns_54 rfl rfl (fun c54 => ?_) (fun c54 => ?_)
            · skip
              refine w_iconst 62 dX0_playTurns_61 rfl (v := nI 0) rfl ?_
              refine w_zastN 63 dX0_playTurns_62 rfl rfl rfl (by decide) (by omega) ?_
              refine w_inc4 66 dX0_playTurns_63 rfl (by decide) rfl (v := nI (_ + 1)) (nI_1 _) ?_
              refine w_goto 14 dX0_playTurns_66 rfl ?_
              refine ih (i + 1) _ (by omega) (hO.upd (by decide) _ _) (hQ.cong5 (by decide)) (hR2.cong5 (by decide)) (fun l hl hs => ?_) (by omega)
              dsimp only
              by_cases e : l = i
              · subst e
                rw [upd2_at, wn_eq, show zB nn e1 e2 es a b l = false by simp [zB, c43]]
                cases hf : fst1 (fun t => l.testBit t && !wn (zB nn e1 e2 es a b) (l ^^^ 2 ^ t)) 8 with
                | none => rfl
                | some u =>
                  rw [hf] at c54
                  exact absurd c54 (nI_m2 (by have := (fst1_lt hf).1; omega))
              · rw [upd2_off e]
                exact hw l (by omega) hs
            · skip
              refine w_iconst 58 dX0_playTurns_57 rfl (v := nI 1) rfl ?_
              refine w_goto 62 dX0_playTurns_58 rfl ?_
              refine w_zastN 63 dX0_playTurns_62 rfl rfl rfl (by decide) (by omega) ?_
              refine w_inc4 66 dX0_playTurns_63 rfl (by decide) rfl (v := nI (_ + 1)) (nI_1 _) ?_
              refine w_goto 14 dX0_playTurns_66 rfl ?_
              refine ih (i + 1) _ (by omega) (hO.upd (by decide) _ _) (hQ.cong5 (by decide)) (hR2.cong5 (by decide)) (fun l hl hs => ?_) (by omega)
              dsimp only
              by_cases e : l = i
              · subst e
                rw [upd2_at, wn_eq, show zB nn e1 e2 es a b l = false by simp [zB, c43]]
                cases hf : fst1 (fun t => l.testBit t && !wn (zB nn e1 e2 es a b) (l ^^^ 2 ^ t)) 8 with
                | none =>
                  rw [hf] at c54
                  exact absurd rfl c54
                | some u => rfl
              · rw [upd2_off e]
                exact hw l (by omega) hs
  refine w_aload_n 1 dX0_playTurns_0 rfl rfl ?_
  refine w_iload_n 2 dX0_playTurns_1 rfl rfl ?_
  refine w_iload_n 3 dX0_playTurns_2 rfl rfl ?_
  refine w_inv2 6 dX0_playTurns_3 rfl mlX0_84 rfl rfl (d' := 2) (by decide) (Nat.le_of_ble_eq_true rfl) (c_X0_part hR.1 hR.2.1 hR.2.2.1 hR.2.2.2.1 ha hb hab (fun A1 hQ1 h71 hO1 => ?_))
  have hR1 : BR nn e1 e2 es A1 := hR.off h71 hO1
  refine w_aload_n 7 dX0_playTurns_6 rfl rfl ?_
  refine w_inv0 10 dX0_playTurns_7 rfl mlX0_88 rfl rfl (d' := 0) (by decide) (Nat.le_of_ble_eq_true rfl) (c_X0_held hR1.2.2.1 hR1.2.2.2.1 ?_)
  refine w_ist3 11 dX0_playTurns_10 rfl (by decide) rfl ?_
  refine w_iconst 12 dX0_playTurns_11 rfl (v := nI 0) rfl ?_
  refine w_ist4 14 dX0_playTurns_12 rfl (by decide) rfl ?_
  exact lp14 _ 0 A1 (Nat.zero_le _) (hO1.mono (by intro x hx; simp at hx ⊢; omega)) hQ1 hR1 (fun l hl => absurd hl (Nat.not_lt_zero l)) (Nat.lt_succ_self _)
