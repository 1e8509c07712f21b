/-! ===== the reference reads: steps ===== -/
/-- where the reading stands -/
def SR (g : Nat → Nat) (n : Nat) (x : PR) (A : AH) : Prop := match x with
  | .inl z => OV z.1 z.2 A
  | .inr y => LA g n y.1 A
def sx (g : Nat → Nat) (n : Nat) (x : PR) : Nat := match x with
  | .inl _ => 5
  | .inr y => srt (tkK g n y.1)
theorem SR.srt {g : Nat → Nat} {n : Nat} {x : PR} {A : AH} (h : SR g n x A) : A.1 100 9 = nI (sx g n x) := by
  cases x with
  | inl z => exact h.1
  | inr y => exact h.2.1
theorem sx_le {g : Nat → Nat} {n : Nat} {x : PR} : sx g n x ≤ 5 := by
  cases x with
  | inl z => exact Nat.le_refl 5
  | inr y => exact Nat.le_of_lt srt_lt
theorem sx_5 {g : Nat → Nat} {n : Nat} {x : PR} (h : sx g n x = 5) : ∃ z, x = .inl z := by
  cases x with
  | inl z => exact ⟨z, rfl⟩
  | inr y => exact absurd h (Nat.ne_of_lt srt_lt)
theorem sx_n5 {g : Nat → Nat} {n : Nat} {x : PR} (h : ¬ sx g n x = 5) : ∃ y, x = .inr y := by
  cases x with
  | inl z => exact absurd rfl h
  | inr y => exact ⟨y, rfl⟩
def flP (g : Nat → Nat) (n f : Nat) (x : PR) : PR := match x with
  | .inl z => .inl z
  | .inr y => .inl (f, tkS g n y.1)
def adP (g : Nat → Nat) (n : Nat) (x : PR) : PR := match x with
  | .inl z => .inl z
  | .inr y => .inr (tkE g n y.1, y.2)
def tkWx (g : Nat → Nat) (n : Nat) (x : PR) (j : Nat) : Bool := match x with
  | .inl _ => false
  | .inr y => tkW g n y.1 j
def isNx (g : Nat → Nat) (n : Nat) (x : PR) : Bool := match x with
  | .inl _ => false
  | .inr y => isNm g n y.1
theorem tkWx_t {g : Nat → Nat} {n j : Nat} {x : PR} (h : tkWx g n x j = true) : ∃ y, x = .inr y ∧ tkW g n y.1 j = true ∧ tkK g n y.1 = 1 := by
  cases x with
  | inl z => cases h
  | inr y => exact ⟨y, rfl, h, (of_decide_eq_true h).1⟩
theorem wd_t {g : Nat → Nat} {n j : Nat} {x : PR} (h : tkWx g n x j = true) : bindP x (sWd g n j) = adP g n x := by
  obtain ⟨y, rfl, h1, _⟩ := tkWx_t h
  show sWd g n j y = _
  unfold sWd
  rw [h1]
  rfl
theorem wd_f {g : Nat → Nat} {n j : Nat} {x : PR} (h : tkWx g n x j = false) : bindP x (sWd g n j) = flP g n 1 x := by
  cases x with
  | inl z => rfl
  | inr y =>
    have h1 : tkW g n y.1 j = false := h
    show sWd g n j y = _
    unfold sWd
    rw [h1]
    rfl
theorem flP_ad {g : Nat → Nat} {n f : Nat} {x : PR} : adP g n (flP g n f x) = flP g n f x := by cases x <;> rfl
theorem flP_fl {g : Nat → Nat} {n f k : Nat} {x : PR} : flP g n k (flP g n f x) = flP g n f x := by cases x <;> rfl
theorem flP_bind {g : Nat → Nat} {n f : Nat} {x : PR} {F : Nat × List Nat → PR} : bindP (flP g n f x) F = flP g n f x := by cases x <;> rfl
/-- a value read: the k-th -/
def PV (x : PR) (k : Nat) (v : Int32) : Prop := ∀ p l, x = .inr (p, l) → k < l.length ∧ l.getD k 0 < 1000 ∧ v = nI (l.getD k 0)
def Ln (x : PR) (k : Nat) : Prop := ∀ p l, x = .inr (p, l) → l.length = k
/-- names told in the web that is read -/
def RN (nm : NT) (A : AH) : Prop := A.1 111 10 = nI nm.1 ∧ (∀ i, i < nm.1 → A.2 130 i = lN (nm.2.1 i) ∧ A.1 131 i = nI (nm.2.2.1 i - 1) ∧ A.1 132 i = nI (nm.2.2.2 i)) ∧ okN nm ∧ nmD nm ∧ ∀ i, i < nm.1 → 1 ≤ nm.2.2.1 i
theorem RN.fp {nm : NT} {A A' : AH} (h : RN nm A) (q : FP A A') : RN nm A' := ⟨by rw [(q.1 111 (by decide)).1]; exact h.1, fun i hi => by rw [(q.1 130 (by decide)).2, (q.1 131 (by decide)).1, (q.1 132 (by decide)).1]; exact h.2.1 i hi, h.2.2⟩
theorem RN.fq {nm : NT} {A A' : AH} (h : RN nm A) (q : FQ A A') : RN nm A' := ⟨by rw [(q.1 111 (by decide)).1]; exact h.1, fun i hi => by rw [(q.1 130 (by decide)).2, (q.1 131 (by decide)).1, (q.1 132 (by decide)).1]; exact h.2.1 i hi, h.2.2⟩
def fdI (nm : NT) (wd : Int64) : Option Nat := fst1 (fun i => decide (lN (nm.2.1 i) = wd)) nm.1
theorem lN_in {a b : Nat} (ha : a < 2 ^ 63) (hb : b < 2 ^ 63) (h : lN a = lN b) : a = b := (pk_lEQ ha hb).mp h
theorem cmp_ref {a b : Int64} (h : a = b) : lg_cmp a b = 0 := by
  subst h
  unfold lg_cmp
  rw [if_neg (fun z => Int64.lt_irrefl z), if_pos rfl]
theorem cmp_eqv {a b : Int64} (h : lg_cmp a b = 0) : a = b := by
  unfold lg_cmp at h
  split at h
  · exact absurd h (by decide)
  · split at h
    · assumption
    · exact absurd h (by decide)
theorem fst1_no {p : Nat → Bool} : ∀ {n : Nat}, fst1 p n = none → ∀ i, i < n → p i = false
  | 0, _, i, hi => absurd hi (Nat.not_lt_zero i)
  | n + 1, h, i, hi => by
    simp only [fst1] at h
    cases q : fst1 p n with
    | some k => rw [q] at h; cases h
    | none =>
      rw [q] at h
      by_cases e : i = n
      · subst e
        cases z : p i with
        | false => rfl
        | true => rw [z] at h; cases h
      · exact fst1_no q i (by omega)
theorem fdI_c {nm : NT} (hN : okN nm) {c : Nat} (hc : c < 2 ^ 40) : fdI nm (lN c) = nIdx nm c := by
  unfold fdI nIdx
  refine fst1_cong (fun i hi => ?_)
  have h1 := (hN.2 i hi).1
  by_cases q : nm.2.1 i = c
  · rw [q]; simp
  · rw [decide_eq_false q, decide_eq_false (fun z => q (lN_in (by omega) (by omega) z))]
theorem fdI_lt {nm : NT} {wd : Int64} {k : Nat} (h : fdI nm wd = some k) : k < nm.1 := (fst1_lt h).1
theorem idx_num {nm : NT} (hD : nmD nm) {c j : Nat} : nNum nm c j = match nIdx nm c with
    | some k => if nm.2.2.1 k = j then some (nm.2.2.2 k) else none
    | none => none := by
  unfold nNum
  cases hx : nIdx nm c with
  | none =>
    have h0 : fst1 (fun i => decide (nm.2.1 i = c) && decide (nm.2.2.1 i = j)) nm.1 = none := fst1_none (fun i hi => by
      have h9 : decide (nm.2.1 i = c) = false := fst1_no hx i hi
      rw [h9]; rfl)
    rw [h0]; rfl
  | some k =>
    obtain ⟨hk, hc⟩ := fst1_lt hx
    have hck : nm.2.1 k = c := of_decide_eq_true hc
    dsimp only
    by_cases q : nm.2.2.1 k = j
    · rw [if_pos q]
      have h1 : fst1 (fun i => decide (nm.2.1 i = c) && decide (nm.2.2.1 i = j)) k = none := fst1_none (fun i hi => by
        have : ¬ nm.2.1 i = c := fun z => by have := hD i k (by omega) hk (by rw [z, hck]); omega
        rw [decide_eq_false this]; rfl)
      rw [fst1_some h1 (by rw [decide_eq_true hck, decide_eq_true q]; rfl) hk]
      rfl
    · rw [if_neg q]
      have h1 : fst1 (fun i => decide (nm.2.1 i = c) && decide (nm.2.2.1 i = j)) nm.1 = none := fst1_none (fun i hi => by
        by_cases z : nm.2.1 i = c
        · have := hD i k hi hk (by rw [z, hck])
          subst this
          rw [decide_eq_false q, Bool.and_false]
        · rw [decide_eq_false z]; rfl)
      rw [h1]; rfl
set_option maxRecDepth 4000 in
theorem c_X13_packed {K : Option Value → AH → Prop} {dm : Nat × Nat} {G : Nat → Nat → Value} {A : AH} {j : Nat} (hj : j < 19) (h : K (some (.long (lN (scode j)))) A) : Ct yX13_packed mX13_packed 4 dm G [.ref (1000 + j)] A K := by
  refine Ct.of [some (.ref (1000 + j)), none, none, none] rfl rfl rfl (Nat.le_of_ble_eq_true rfl) ?_
  obtain ⟨l1, l8⟩ := sLen_ok j hj
  have lp4 : ∀ (nf : Nat) (i : Nat), i ≤ strLen.getD j 0 → strLen.getD j 0 - i < nf → WP mX13_packed 4 dm G 4 [some (.ref (1000 + j)), some (.long (lN (lc (sN j) 0 i))), none, some (.int (nI i))] [] A K := by
    intro nf
    induction nf with
    | zero => intros; omega
    | succ nf ih =>
      intro i hi hms
      refine w_iload_n 5 dX13_packed_4 rfl rfl ?_
      refine w_aload_n 6 dX13_packed_5 rfl rfl ?_
      refine w_invS0 9 dX13_packed_6 rfl msX13_66 hj (d' := 1) (by decide) (Nat.le_of_ble_eq_true rfl) (c_J0_length hj ?_)
      refine w_icgeN 36 12 dX13_packed_9 rfl rfl (by omega) (by omega) (fun c9 => ?_) (fun c9 => ?_)
      · skip
        have e1 : i = strLen.getD j 0 := by omega
        subst e1
        refine w_lload_n 37 dX13_packed_36 rfl rfl ?_
        refine wr_l dX13_packed_37 rfl ?_
        exact h
      · skip
        refine w_ldc2 15 dX13_packed_12 rfl kcX13_72 ?_
        refine w_topl (show _ = lN 32 from rfl) ?_
        refine w_lload_n 16 dX13_packed_15 rfl rfl ?_
        refine w_lmulN 17 dX13_packed_16 rfl ?_
        refine w_aload_n 18 dX13_packed_17 rfl rfl ?_
        refine w_iload_n 19 dX13_packed_18 rfl rfl ?_
        refine w_invS1 22 dX13_packed_19 rfl msX13_74 hj (d' := 3) (by decide) (Nat.le_of_ble_eq_true rfl) (c_J0_charAt hj c9 ?_)
        obtain ⟨hn1, hn2⟩ := (sN_ok j hj i c9).1
        refine w_bipush 24 dX13_packed_22 rfl (v := nI 97) rfl ?_
        refine w_isubN 25 dX13_packed_24 rfl hn1 ?_
        refine w_iconst 26 dX13_packed_25 rfl (v := nI 1) rfl ?_
        refine w_iaddN 27 dX13_packed_26 rfl ?_
        refine w_i2lN 28 dX13_packed_27 rfl (by omega) ?_
        refine w_laddN 29 dX13_packed_28 rfl ?_
        rw [show 32 * lc (sN j) 0 i + (sN j i - 97 + 1) = lc (sN j) 0 (i + 1) by show _ = lc (sN j) 0 i * 32 + (sN j (0 + i) - 96); rw [Nat.zero_add]; omega]
        refine w_lst1 30 dX13_packed_29 rfl (by decide) rfl ?_
        refine w_inc3 33 dX13_packed_30 rfl (by decide) rfl (v := nI (_ + 1)) (nI_1 _) ?_
        refine w_goto 4 dX13_packed_33 rfl ?_
        exact ih (i + 1) (by omega) (by omega)
  refine w_lconst 1 dX13_packed_0 rfl (v := lN 0) rfl ?_
  refine w_lst1 2 dX13_packed_1 rfl (by decide) rfl ?_
  refine w_iconst 3 dX13_packed_2 rfl (v := nI 0) rfl ?_
  refine w_ist3 4 dX13_packed_3 rfl (by decide) rfl ?_
  exact lp4 _ 0 (Nat.zero_le _) (Nat.lt_succ_self _)

set_option maxRecDepth 4000 in
theorem c_X13_isWord {K : Option Value → AH → Prop} {A : AH} {v : Value} {g : Nat → Nat} {n : Nat} {x : PR} {j : Nat} (hj : j < 19) (hS : SR g n x A) (h : K (some (.int (b2i (tkWx g n x j)))) A) : Ct yX13_isWord mX13_isWord 5 dM (GG v (.ref 111)) [.ref 100, .ref (1000 + j)] A K := by
  refine Ct.of [some (.ref 100), some (.ref (1000 + j))] rfl rfl rfl (Nat.le_of_ble_eq_true rfl) ?_
  have hsl := scode_lt j hj
  have hsx := sx_le (g := g) (n := n) (x := x)
  refine w_aload_n 1 dX13_isWord_0 rfl rfl ?_
  refine w_getiv 4 dX13_isWord_1 rfl faX13_78 rfl rfl rfl hS.srt ?_
  refine w_iconst 5 dX13_isWord_4 rfl (v := nI 2) rfl ?_
  refine w_icneN 24 8 dX13_isWord_5 rfl rfl (by omega) (by omega) (fun c5 => ?_) (fun c5 => ?_)
  · skip
    have hf : tkWx g n x j = false := by
      cases x with
      | inl z => rfl
      | inr y => exact decide_eq_false (fun z => c5 (by show srt (tkK g n y.1) = 2; rw [z.1]; rfl))
    refine w_iconst 25 dX13_isWord_24 rfl (v := nI 0) rfl ?_
    refine wr_z dX13_isWord_25 rfl (by first | rfl | exact nb_b2i _) ?_
    exact kq h (by rw [hf]; rfl)
  · skip
    obtain ⟨y, rfl⟩ := sx_n5 (g := g) (n := n) (x := x) (by omega)
    have hk1 : tkK g n y.1 = 1 := by
      have h5 : srt (tkK g n y.1) = 2 := c5
      unfold srt at h5
      split at h5 <;> omega
    have hcl := tkC_lt hk1
    refine w_aload_n 9 dX13_isWord_8 rfl rfl ?_
    refine w_getjv 12 dX13_isWord_9 rfl faX13_94 rfl rfl rfl (hS.2.2.2.2.2.1 hk1) ?_
    refine w_aload_n 13 dX13_isWord_12 rfl rfl ?_
    refine w_invs1 16 dX13_isWord_13 rfl slX13_110 (d' := 4) (by decide) (Nat.le_of_ble_eq_true rfl) (c_X13_packed hj ?_)
    refine w_lcmp 17 dX13_isWord_16 rfl ?_
    refine w_ifneL 24 20 dX13_isWord_17 rfl rfl (by omega) (by omega) (fun c17 => ?_) (fun c17 => ?_)
    · skip
      refine w_iconst 25 dX13_isWord_24 rfl (v := nI 0) rfl ?_
      refine wr_z dX13_isWord_25 rfl (by first | rfl | exact nb_b2i _) ?_
      exact kq h (by rw [show tkWx g n (.inr y) j = false from decide_eq_false (fun z => c17 z.2)]; rfl)
    · skip
      refine w_iconst 21 dX13_isWord_20 rfl (v := nI 1) rfl ?_
      refine w_goto 25 dX13_isWord_21 rfl ?_
      refine wr_z dX13_isWord_25 rfl (by first | rfl | exact nb_b2i _) ?_
      exact kq h (by rw [show tkWx g n (.inr y) j = true from decide_eq_true ⟨hk1, c17⟩]; rfl)

set_option maxRecDepth 4000 in
theorem c_X13_isName {K : Option Value → AH → Prop} {A : AH} {v : Value} {g : Nat → Nat} {n : Nat} {x : PR} (hS : SR g n x A) (h : K (some (.int (b2i (isNx g n x)))) A) : Ct yX13_isName mX13_isName 6 dM (GG v (.ref 111)) [.ref 100] A K := by
  refine Ct.of [some (.ref 100)] rfl rfl rfl (Nat.le_of_ble_eq_true rfl) ?_
  have hsx := sx_le (g := g) (n := n) (x := x)
  refine w_aload_n 1 dX13_isName_0 rfl rfl ?_
  refine w_getiv 4 dX13_isName_1 rfl faX13_78 rfl rfl rfl hS.srt ?_
  refine w_iconst 5 dX13_isName_4 rfl (v := nI 2) rfl ?_
  refine w_icneN 44 8 dX13_isName_5 rfl rfl (by omega) (by omega) (fun c5 => ?_) (fun c5 => ?_)
  · skip
    refine w_iconst 45 dX13_isName_44 rfl (v := nI 0) rfl ?_
    refine wr_z dX13_isName_45 rfl (by first | rfl | exact nb_b2i _) ?_
    have hno : isNx g n x = false := by
      cases x with
      | inl z => rfl
      | inr y =>
        show (decide (tkK g n y.1 = 1) && (lnS g n y.1).isNone) = false
        rw [decide_eq_false (fun z => c5 (by show srt (tkK g n y.1) = 2; rw [z]; rfl)), Bool.false_and]
    exact kq h (by rw [hno]; rfl)
  · skip
    refine w_aload_n 9 dX13_isName_8 rfl rfl ?_
    refine w_ldcS 11 dX13_isName_9 rfl srX13_133 ?_
    refine w_inv1 14 dX13_isName_11 rfl mlX13_125 rfl rfl (d' := 5) (by decide) (Nat.le_of_ble_eq_true rfl) (c_X13_isWord (j := 0) (by decide) hS ?_)
    refine w_ifneB 44 17 dX13_isName_14 rfl rfl (fun c14 => ?_) (fun c14 => ?_)
    · skip
      refine w_iconst 45 dX13_isName_44 rfl (v := nI 0) rfl ?_
      refine wr_z dX13_isName_45 rfl (by first | rfl | exact nb_b2i _) ?_
      have hno : isNx g n x = false := by
        cases x with
        | inl z => rfl
        | inr y =>
          show (decide (tkK g n y.1 = 1) && (lnS g n y.1).isNone) = false
          have hso : (lnS g n y.1).isNone = false := by
            unfold lnS
            cases hz : fst1 (tkW g n y.1) 8 with
            | some k => rfl
            | none => have := fst1_no hz 0 (by decide); rw [show tkW g n y.1 0 = true from c14] at this; cases this
          rw [hso, Bool.and_false]
      exact kq h (by rw [hno]; rfl)
    · skip
      refine w_aload_n 18 dX13_isName_17 rfl rfl ?_
      refine w_ldcS 20 dX13_isName_18 rfl srX13_135 ?_
      refine w_inv1 23 dX13_isName_20 rfl mlX13_125 rfl rfl (d' := 5) (by decide) (Nat.le_of_ble_eq_true rfl) (c_X13_isWord (j := 1) (by decide) hS ?_)
      refine w_ifneB 44 26 dX13_isName_23 rfl rfl (fun c23 => ?_) (fun c23 => ?_)
      · skip
        refine w_iconst 45 dX13_isName_44 rfl (v := nI 0) rfl ?_
        refine wr_z dX13_isName_45 rfl (by first | rfl | exact nb_b2i _) ?_
        have hno : isNx g n x = false := by
          cases x with
          | inl z => rfl
          | inr y =>
            show (decide (tkK g n y.1 = 1) && (lnS g n y.1).isNone) = false
            have hso : (lnS g n y.1).isNone = false := by
              unfold lnS
              cases hz : fst1 (tkW g n y.1) 8 with
              | some k => rfl
              | none => have := fst1_no hz 1 (by decide); rw [show tkW g n y.1 1 = true from c23] at this; cases this
            rw [hso, Bool.and_false]
        exact kq h (by rw [hno]; rfl)
      · skip
        refine w_aload_n 27 dX13_isName_26 rfl rfl ?_
        refine w_ldcS 29 dX13_isName_27 rfl srX13_137 ?_
        refine w_inv1 32 dX13_isName_29 rfl mlX13_125 rfl rfl (d' := 5) (by decide) (Nat.le_of_ble_eq_true rfl) (c_X13_isWord (j := 2) (by decide) hS ?_)
        refine w_ifneB 44 35 dX13_isName_32 rfl rfl (fun c32 => ?_) (fun c32 => ?_)
        · skip
          refine w_iconst 45 dX13_isName_44 rfl (v := nI 0) rfl ?_
          refine wr_z dX13_isName_45 rfl (by first | rfl | exact nb_b2i _) ?_
          have hno : isNx g n x = false := by
            cases x with
            | inl z => rfl
            | inr y =>
              show (decide (tkK g n y.1 = 1) && (lnS g n y.1).isNone) = false
              have hso : (lnS g n y.1).isNone = false := by
                unfold lnS
                cases hz : fst1 (tkW g n y.1) 8 with
                | some k => rfl
                | none => have := fst1_no hz 2 (by decide); rw [show tkW g n y.1 2 = true from c32] at this; cases this
              rw [hso, Bool.and_false]
          exact kq h (by rw [hno]; rfl)
        · skip
          refine w_aload_n 36 dX13_isName_35 rfl rfl ?_
          refine w_ldcS 38 dX13_isName_36 rfl srX13_139 ?_
          refine w_inv1 41 dX13_isName_38 rfl mlX13_125 rfl rfl (d' := 5) (by decide) (Nat.le_of_ble_eq_true rfl) (c_X13_isWord (j := 3) (by decide) hS ?_)
          refine w_ifeqB 46 44 dX13_isName_41 rfl rfl (fun c41 => ?_) (fun c41 => ?_)
          · skip
            refine w_aload_n 47 dX13_isName_46 rfl rfl ?_
            refine w_ldcS 49 dX13_isName_47 rfl srX13_141 ?_
            refine w_inv1 52 dX13_isName_49 rfl mlX13_125 rfl rfl (d' := 5) (by decide) (Nat.le_of_ble_eq_true rfl) (c_X13_isWord (j := 4) (by decide) hS ?_)
            refine w_ifneB 86 55 dX13_isName_52 rfl rfl (fun c52 => ?_) (fun c52 => ?_)
            · skip
              refine w_iconst 87 dX13_isName_86 rfl (v := nI 0) rfl ?_
              refine wr_z dX13_isName_87 rfl (by first | rfl | exact nb_b2i _) ?_
              have hno : isNx g n x = false := by
                cases x with
                | inl z => rfl
                | inr y =>
                  show (decide (tkK g n y.1 = 1) && (lnS g n y.1).isNone) = false
                  have hso : (lnS g n y.1).isNone = false := by
                    unfold lnS
                    cases hz : fst1 (tkW g n y.1) 8 with
                    | some k => rfl
                    | none => have := fst1_no hz 4 (by decide); rw [show tkW g n y.1 4 = true from c52] at this; cases this
                  rw [hso, Bool.and_false]
              exact kq h (by rw [hno]; rfl)
            · skip
              refine w_aload_n 56 dX13_isName_55 rfl rfl ?_
              refine w_ldcS 58 dX13_isName_56 rfl srX13_143 ?_
              refine w_inv1 61 dX13_isName_58 rfl mlX13_125 rfl rfl (d' := 5) (by decide) (Nat.le_of_ble_eq_true rfl) (c_X13_isWord (j := 5) (by decide) hS ?_)
              refine w_ifneB 86 64 dX13_isName_61 rfl rfl (fun c61 => ?_) (fun c61 => ?_)
              · skip
                refine w_iconst 87 dX13_isName_86 rfl (v := nI 0) rfl ?_
                refine wr_z dX13_isName_87 rfl (by first | rfl | exact nb_b2i _) ?_
                have hno : isNx g n x = false := by
                  cases x with
                  | inl z => rfl
                  | inr y =>
                    show (decide (tkK g n y.1 = 1) && (lnS g n y.1).isNone) = false
                    have hso : (lnS g n y.1).isNone = false := by
                      unfold lnS
                      cases hz : fst1 (tkW g n y.1) 8 with
                      | some k => rfl
                      | none => have := fst1_no hz 5 (by decide); rw [show tkW g n y.1 5 = true from c61] at this; cases this
                    rw [hso, Bool.and_false]
                exact kq h (by rw [hno]; rfl)
              · skip
                refine w_aload_n 65 dX13_isName_64 rfl rfl ?_
                refine w_ldcS 67 dX13_isName_65 rfl srX13_145 ?_
                refine w_inv1 70 dX13_isName_67 rfl mlX13_125 rfl rfl (d' := 5) (by decide) (Nat.le_of_ble_eq_true rfl) (c_X13_isWord (j := 6) (by decide) hS ?_)
                refine w_ifneB 86 73 dX13_isName_70 rfl rfl (fun c70 => ?_) (fun c70 => ?_)
                · skip
                  refine w_iconst 87 dX13_isName_86 rfl (v := nI 0) rfl ?_
                  refine wr_z dX13_isName_87 rfl (by first | rfl | exact nb_b2i _) ?_
                  have hno : isNx g n x = false := by
                    cases x with
                    | inl z => rfl
                    | inr y =>
                      show (decide (tkK g n y.1 = 1) && (lnS g n y.1).isNone) = false
                      have hso : (lnS g n y.1).isNone = false := by
                        unfold lnS
                        cases hz : fst1 (tkW g n y.1) 8 with
                        | some k => rfl
                        | none => have := fst1_no hz 6 (by decide); rw [show tkW g n y.1 6 = true from c70] at this; cases this
                      rw [hso, Bool.and_false]
                  exact kq h (by rw [hno]; rfl)
                · skip
                  refine w_aload_n 74 dX13_isName_73 rfl rfl ?_
                  refine w_ldcS 76 dX13_isName_74 rfl srX13_147 ?_
                  refine w_inv1 79 dX13_isName_76 rfl mlX13_125 rfl rfl (d' := 5) (by decide) (Nat.le_of_ble_eq_true rfl) (c_X13_isWord (j := 7) (by decide) hS ?_)
                  refine w_ifneB 86 82 dX13_isName_79 rfl rfl (fun c79 => ?_) (fun c79 => ?_)
                  · skip
                    refine w_iconst 87 dX13_isName_86 rfl (v := nI 0) rfl ?_
                    refine wr_z dX13_isName_87 rfl (by first | rfl | exact nb_b2i _) ?_
                    have hno : isNx g n x = false := by
                      cases x with
                      | inl z => rfl
                      | inr y =>
                        show (decide (tkK g n y.1 = 1) && (lnS g n y.1).isNone) = false
                        have hso : (lnS g n y.1).isNone = false := by
                          unfold lnS
                          cases hz : fst1 (tkW g n y.1) 8 with
                          | some k => rfl
                          | none => have := fst1_no hz 7 (by decide); rw [show tkW g n y.1 7 = true from c79] at this; cases this
                        rw [hso, Bool.and_false]
                    exact kq h (by rw [hno]; rfl)
                  · skip
                    refine w_iconst 83 dX13_isName_82 rfl (v := nI 1) rfl ?_
                    refine w_goto 87 dX13_isName_83 rfl ?_
                    refine wr_z dX13_isName_87 rfl (by first | rfl | exact nb_b2i _) ?_
                    obtain ⟨y, rfl⟩ := sx_n5 (g := g) (n := n) (x := x) (by omega)
                    have hk1 : tkK g n y.1 = 1 := by
                      have h5 : srt (tkK g n y.1) = 2 := c5
                      unfold srt at h5
                      split at h5 <;> omega
                    have hno : lnS g n y.1 = none := fst1_none (fun i hi => by
                      rcases i with _ | _ | _ | _ | _ | _ | _ | _ | i
                      · exact c14
                      · exact c23
                      · exact c32
                      · exact c41
                      · exact c52
                      · exact c61
                      · exact c70
                      · exact c79
                      · omega)
                    exact kq h (by rw [show isNx g n (.inr y) = true from by show (decide (tkK g n y.1 = 1) && (lnS g n y.1).isNone) = true; rw [hk1, hno]; rfl]; rfl)
          · skip
            refine w_iconst 45 dX13_isName_44 rfl (v := nI 0) rfl ?_
            refine wr_z dX13_isName_45 rfl (by first | rfl | exact nb_b2i _) ?_
            have hno : isNx g n x = false := by
              cases x with
              | inl z => rfl
              | inr y =>
                show (decide (tkK g n y.1 = 1) && (lnS g n y.1).isNone) = false
                have hso : (lnS g n y.1).isNone = false := by
                  unfold lnS
                  cases hz : fst1 (tkW g n y.1) 8 with
                  | some k => rfl
                  | none => have := fst1_no hz 3 (by decide); rw [show tkW g n y.1 3 = true from c41] at this; cases this
                rw [hso, Bool.and_false]
            exact kq h (by rw [hno]; rfl)

theorem s_X13_flaw {K : Option Value → AH → Prop} {A : AH} {v : Value} {g : Nat → Nat} {n : Nat} {x : PR} {f : Nat} (hf : 0 < f) (hS : SR g n x A) (h : ∀ A', SR g n (flP g n f x) A' → FP A A' → K none A') : Ct yX13_flaw mX13_flaw 0 dM (GG v (.ref 111)) [.ref 100, .int (nI f)] A K := by
  cases x with
  | inl z => exact o_X13_flaw hS (h A hS FP.rf)
  | inr y => exact c_X13_flaw hS.2.1 srt_lt hS.2.2.1 hf h
theorem s_X13_goesOn {K : Option Value → AH → Prop} {A : AH} {v : Value} {n : Nat} {tp : Nat → Int32} {x : PR} (hT : TA n tp A) (hS : SR (gB tp) n x A) (hk : ∀ y, x = .inr y → tkK (gB tp) n y.1 < 4) (h : ∀ A', SR (gB tp) n (adP (gB tp) n x) A' → FP A A' → K none A') : Ct yX13_goesOn mX13_goesOn 1 dM (GG v (.ref 111)) [.ref 100] A K := by
  cases x with
  | inl z => exact o_X13_goesOn hS (h A hS FP.rf)
  | inr y => exact c_X13_goesOn hT (tkE_le hS.1) (hS.2.2.2.2.1 (hk y rfl)) hS.2.1 srt_lt hS.2.2.2.1 (fun A' hA hF => h A' hA hF.p)
set_option maxRecDepth 4000 in
theorem c_X12_find {K : Option Value → AH → Prop} {A : AH} {v : Value} {nm : NT} {wd : Int64} (hN : RN nm A) (h : K (some (.int (encO (fdI nm wd)))) A) : Ct yX12_find mX12_find 0 dM (GG v (.ref 111)) [.ref 111, .long wd] A K := by
  refine Ct.of [some (.ref 111), some (.long wd), none, none] rfl rfl rfl (Nat.le_of_ble_eq_true rfl) ?_
  have h14 := hN.2.2.1.1
  have lp2 : ∀ (nf : Nat) (i : Nat), i ≤ nm.1 → fst1 (fun i => decide (lN (nm.2.1 i) = wd)) i = none → nm.1 - i < nf → WP mX12_find 0 dM (GG v (.ref 111)) 2 [some (.ref 111), some (.long wd), none, some (.int (nI i))] [] A K := by
    intro nf
    induction nf with
    | zero => intros; omega
    | succ nf ih =>
      intro i hi hf hms
      refine w_iload_n 3 dX12_find_2 rfl rfl ?_
      refine w_aload_n 4 dX12_find_3 rfl rfl ?_
      refine w_getiv 7 dX12_find_4 rfl faX12_80 rfl rfl rfl hN.1 ?_
      refine w_icgeN 29 10 dX12_find_7 rfl rfl (by omega) (by omega) (fun c7 => ?_) (fun c7 => ?_)
      · skip
        refine w_iconst 30 dX12_find_29 rfl (v := (-1)) rfl ?_
        refine wr_i dX12_find_30 rfl ?_
        have e : i = nm.1 := by omega
        subst e
        exact kq h (by unfold fdI; rw [hf]; rfl)
      · skip
        refine w_aload_n 11 dX12_find_10 rfl rfl ?_
        refine w_getr 14 dX12_find_11 rfl faX12_70 rfl rfl rfl (r := .ref 130) rfl ?_
        refine w_iload_n 15 dX12_find_14 rfl rfl ?_
        refine w_laldv 16 dX12_find_15 rfl rfl rfl (by decide) (by omega) (hN.2.1 i c7).1 ?_
        refine w_lload_n 17 dX12_find_16 rfl rfl ?_
        refine w_lcmp 18 dX12_find_17 rfl ?_
        refine w_ifne 23 21 dX12_find_18 rfl rfl (fun c18 => ?_) (fun c18 => ?_)
        · skip
          refine w_inc3 26 dX12_find_23 rfl (by decide) rfl (v := nI (_ + 1)) (nI_1 _) ?_
          refine w_goto 2 dX12_find_26 rfl ?_
          have hne : ¬ lN (nm.2.1 i) = wd := fun z => c18 (cmp_ref z)
          exact ih (i + 1) (by omega) (by simp [fst1, hf, hne]) (by omega)
        · skip
          refine w_iload_n 22 dX12_find_21 rfl rfl ?_
          refine wr_i dX12_find_22 rfl ?_
          have heq : lN (nm.2.1 i) = wd := cmp_eqv c18
          exact kq h (by unfold fdI; rw [fst1_some hf (decide_eq_true heq) c7]; rfl)
  refine w_iconst 1 dX12_find_0 rfl (v := nI 0) rfl ?_
  refine w_ist3 2 dX12_find_1 rfl (by decide) rfl ?_
  exact lp2 _ 0 (Nat.zero_le _) rfl (Nat.lt_succ_self _)

