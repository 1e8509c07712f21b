/-! ===== the reference reads: tokens ===== -/
def TA (n : Nat) (tp : Nat → Int32) (A : AH) : Prop := A.1 100 7 = nI n ∧ n ≤ 900 ∧ ∀ i, i < n → A.1 101 i = tp i ∧ isB (tp i)
def bA (tp : Nat → Int32) (n k : Nat) : Int32 := if k < n then nI (gB tp k) else -1
theorem bA_lt {tp : Nat → Int32} {n k : Nat} (h : k < n) : bA tp n k = nI (gB tp k) := if_pos h
theorem gB_lt (tp : Nat → Int32) (k : Nat) : gB tp k < 256 := bv_lt _
theorem bA_m1 {tp : Nat → Int32} {n k : Nat} : bA tp n k = -1 ↔ ¬ k < n := by
  unfold bA
  split
  · rename_i h
    exact ⟨fun e => absurd e (nI_m1 (Nat.lt_trans (gB_lt tp k) (by decide))), fun e => absurd h e⟩
  · rename_i h
    exact ⟨fun _ => h, fun _ => rfl⟩
theorem bA_eq {tp : Nat → Int32} {n k v : Nat} (hv : v < 256) : bA tp n k = nI v ↔ k < n ∧ gB tp k = v := by
  have hb := gB_lt tp k
  unfold bA
  split
  · rename_i h
    rw [nI_eq (by omega) (by omega)]
    exact ⟨fun e => ⟨h, e⟩, fun e => e.2⟩
  · rename_i h
    exact ⟨fun e => absurd e.symm (nI_m1 (by omega)), fun e => absurd e.1 h⟩
theorem bA_in {tp : Nat → Int32} {n k lo hi : Nat} (h1 : 0 < lo) (h2 : hi < 256) (h3 : lo ≤ hi) : decide (nI lo ≤ bA tp n k ∧ bA tp n k ≤ nI hi) = (decide (k < n) && decide (lo ≤ gB tp k ∧ gB tp k ≤ hi)) := by
  have hb := gB_lt tp k
  unfold bA
  split
  · rename_i h
    have e1 : nI lo ≤ nI (gB tp k) ↔ lo ≤ gB tp k := nI_leI (by omega) (by omega)
    have e2 : nI (gB tp k) ≤ nI hi ↔ gB tp k ≤ hi := nI_leI (by omega) (by omega)
    simp only [e1, e2, decide_eq_true h, Bool.true_and]
  · rename_i h
    rw [decide_eq_false h, Bool.false_and, decide_eq_false]
    intro z
    have z1 := z.1
    rw [Int32.le_iff_toInt_le, nI_toInt (by omega)] at z1
    have : (-1 : Int32).toInt = -1 := by decide
    omega
/-- what reading may change -/
def FR (A A' : AH) : Prop := OffL [100] A A' ∧ ∀ k, (k < 8 ∨ k = 12 ∨ 14 < k) → A'.1 100 k = A.1 100 k
theorem FR.rf {A : AH} : FR A A := ⟨OffL.rf, fun _ _ => rfl⟩
theorem FR.tr {A B C : AH} (h : FR A B) (h2 : FR B C) : FR A C := ⟨h.1.tr h2.1, fun k hk => (h2.2 k hk).trans (h.2 k hk)⟩
theorem FR.f {A B : AH} (h : FR A B) {k : Nat} (h1 : 8 ≤ k) (h2 : k ≠ 12) (h3 : k ≤ 14) (x : Int32) : FR A (upd2 B.1 100 k x, B.2) := ⟨h.1.upd (by decide) _ _, fun j hj => (upd2_off (by omega)).trans (h.2 j hj)⟩
theorem FR.j {A B : AH} (h : FR A B) (k : Nat) (x : Int64) : FR A (B.1, upd2 B.2 100 k x) := ⟨h.1.updj (by decide) _ _, h.2⟩
def FP (A A' : AH) : Prop := OffL [100] A A' ∧ ∀ k, (k < 8 ∨ 14 < k) → A'.1 100 k = A.1 100 k
theorem FR.p {A A' : AH} (h : FR A A') : FP A A' := ⟨h.1, fun k hk => h.2 k (by omega)⟩
theorem FP.rf {A : AH} : FP A A := FR.rf.p
theorem FP.tr {A B C : AH} (h : FP A B) (h2 : FP B C) : FP A C := ⟨h.1.tr h2.1, fun k hk => (h2.2 k hk).trans (h.2 k hk)⟩
theorem FP.f {A B : AH} (h : FP A B) {k : Nat} (h1 : 8 ≤ k) (h3 : k ≤ 14) (x : Int32) : FP A (upd2 B.1 100 k x, B.2) := ⟨h.1.upd (by decide) _ _, fun j hj => (upd2_off (by omega)).trans (h.2 j hj)⟩
theorem TA.fp {n : Nat} {tp : Nat → Int32} {A A' : AH} (h : TA n tp A) (q : FP A A') : TA n tp A' := ⟨by rw [q.2 7 (by omega)]; exact h.1, h.2.1, fun i hi => by rw [(q.1 101 (by decide)).1]; exact h.2.2 i hi⟩
def FQ (A A' : AH) : Prop := OffL [100] A A' ∧ ∀ k, (k < 8 ∨ 15 < k) → A'.1 100 k = A.1 100 k
theorem FP.q {A A' : AH} (h : FP A A') : FQ A A' := ⟨h.1, fun k hk => h.2 k (by omega)⟩
theorem FQ.rf {A : AH} : FQ A A := FP.rf.q
theorem FQ.tr {A B C : AH} (h : FQ A B) (h2 : FQ B C) : FQ A C := ⟨h.1.tr h2.1, fun k hk => (h2.2 k hk).trans (h.2 k hk)⟩
theorem FQ.f {A B : AH} (h : FQ A B) {k : Nat} (h1 : 8 ≤ k) (h3 : k ≤ 15) (x : Int32) : FQ A (upd2 B.1 100 k x, B.2) := ⟨h.1.upd (by decide) _ _, fun j hj => (upd2_off (by omega)).trans (h.2 j hj)⟩
theorem TA.fq {n : Nat} {tp : Nat → Int32} {A A' : AH} (h : TA n tp A) (q : FQ A A') : TA n tp A' := ⟨by rw [q.2 7 (by omega)]; exact h.1, h.2.1, fun i hi => by rw [(q.1 101 (by decide)).1]; exact h.2.2 i hi⟩
def srt (k : Nat) : Nat := if k = 4 then 0 else k + 1
/-- the token behind p is read -/
def LA (g : Nat → Nat) (n p : Nat) (A : AH) : Prop := p ≤ n ∧ A.1 100 9 = nI (srt (tkK g n p)) ∧ A.1 100 10 = nI (tkS g n p) ∧ A.1 100 12 = nI 0 ∧ (tkK g n p < 4 → A.1 100 8 = nI (tkE g n p)) ∧ (tkK g n p = 1 → A.2 100 14 = lN (tkC g n p)) ∧ (tkK g n p = 2 → A.1 100 11 = nI (tkV g n p))
/-- a fault is noted -/
def OV (f pl : Nat) (A : AH) : Prop := A.1 100 9 = nI 5 ∧ A.1 100 12 = nI f ∧ A.1 100 13 = nI pl ∧ 0 < f
theorem srt_lt {g : Nat → Nat} {e p : Nat} : srt (tkK g e p) < 5 := by
  have := tkK_le g e p
  unfold srt
  split <;> omega
theorem lrn_eq {g : Nat → Nat} {n i j : Nat} (h1 : i + j ≤ n) (h2 : ∀ k, k < j → isL (g (i + k)) = true) (h3 : i + j < n → isL (g (i + j)) = false) : lrn g n i = i + j :=
  run_eq (by omega) (by omega) (fun k a b => by rw [show k = i + (k - i) by omega]; exact h2 _ (by omega)) (fun q => h3 (by omega))
theorem drn_eq {g : Nat → Nat} {n i j : Nat} (h1 : i + j ≤ n) (h2 : ∀ k, k < j → isD (g (i + k)) = true) (h3 : i + j < n → isD (g (i + j)) = false) : drn g n i = i + j :=
  run_eq (by omega) (by omega) (fun k a b => by rw [show k = i + (k - i) by omega]; exact h2 _ (by omega)) (fun q => h3 (by omega))
def mn8 (b j : Nat) : Nat := if j < b then j else b
theorem mn8_s {b j : Nat} (h : j < b) : mn8 b (j + 1) = mn8 b j + 1 := by
  unfold mn8
  rw [if_pos h]
  split <;> omega
theorem mn8_t {b j : Nat} (h : b ≤ j) : mn8 b (j + 1) = mn8 b j := by
  unfold mn8
  rw [if_neg (by omega), if_neg (by omega)]
set_option maxRecDepth 4000 in
theorem c_X13_isLetter {K : Option Value → AH → Prop} {dm : Nat × Nat} {G : Nat → Nat → Value} {A : AH} {c : Int32} (h : K (some (.int (b2i (decide (nI 97 ≤ c ∧ c ≤ nI 122))))) A) : Ct yX13_isLetter mX13_isLetter 0 dm G [.int c] A K := by
  refine Ct.of [some (.int c)] rfl rfl rfl (Nat.le_of_ble_eq_true rfl) ?_
  refine w_iload_n 1 dX13_isLetter_0 rfl rfl ?_
  refine w_bipush 3 dX13_isLetter_1 rfl (v := nI 97) rfl ?_
  refine w_iclt 16 6 dX13_isLetter_3 rfl rfl (fun c3 => ?_) (fun c3 => ?_)
  · skip
    refine w_iconst 17 dX13_isLetter_16 rfl (v := nI 0) rfl ?_
    refine wr_z dX13_isLetter_17 rfl (by first | rfl | exact nb_b2i _) ?_
    exact kq h (by clear h; simp only [b2i, hasB, Int32.lt_iff_toInt_lt, Int32.le_iff_toInt_le, decide_eq_true_eq] at *; (repeat' split) <;> first | rfl | (exfalso; omega) | omega)
  · skip
    refine w_iload_n 7 dX13_isLetter_6 rfl rfl ?_
    refine w_bipush 9 dX13_isLetter_7 rfl (v := nI 122) rfl ?_
    refine w_icgt 16 12 dX13_isLetter_9 rfl rfl (fun c9 => ?_) (fun c9 => ?_)
    · skip
      refine w_iconst 17 dX13_isLetter_16 rfl (v := nI 0) rfl ?_
      refine wr_z dX13_isLetter_17 rfl (by first | rfl | exact nb_b2i _) ?_
      exact kq h (by clear h; simp only [b2i, hasB, Int32.lt_iff_toInt_lt, Int32.le_iff_toInt_le, decide_eq_true_eq] at *; (repeat' split) <;> first | rfl | (exfalso; omega) | omega)
    · skip
      refine w_iconst 13 dX13_isLetter_12 rfl (v := nI 1) rfl ?_
      refine w_goto 17 dX13_isLetter_13 rfl ?_
      refine wr_z dX13_isLetter_17 rfl (by first | rfl | exact nb_b2i _) ?_
      exact kq h (by clear h; simp only [b2i, hasB, Int32.lt_iff_toInt_lt, Int32.le_iff_toInt_le, decide_eq_true_eq] at *; (repeat' split) <;> first | rfl | (exfalso; omega) | omega)

set_option maxRecDepth 4000 in
theorem c_X13_isDigit {K : Option Value → AH → Prop} {dm : Nat × Nat} {G : Nat → Nat → Value} {A : AH} {c : Int32} (h : K (some (.int (b2i (decide (nI 48 ≤ c ∧ c ≤ nI 57))))) A) : Ct yX13_isDigit mX13_isDigit 0 dm G [.int c] A K := by
  refine Ct.of [some (.int c)] rfl rfl rfl (Nat.le_of_ble_eq_true rfl) ?_
  refine w_iload_n 1 dX13_isDigit_0 rfl rfl ?_
  refine w_bipush 3 dX13_isDigit_1 rfl (v := nI 48) rfl ?_
  refine w_iclt 16 6 dX13_isDigit_3 rfl rfl (fun c3 => ?_) (fun c3 => ?_)
  · skip
    refine w_iconst 17 dX13_isDigit_16 rfl (v := nI 0) rfl ?_
    refine wr_z dX13_isDigit_17 rfl (by first | rfl | exact nb_b2i _) ?_
    exact kq h (by clear h; simp only [b2i, hasB, Int32.lt_iff_toInt_lt, Int32.le_iff_toInt_le, decide_eq_true_eq] at *; (repeat' split) <;> first | rfl | (exfalso; omega) | omega)
  · skip
    refine w_iload_n 7 dX13_isDigit_6 rfl rfl ?_
    refine w_bipush 9 dX13_isDigit_7 rfl (v := nI 57) rfl ?_
    refine w_icgt 16 12 dX13_isDigit_9 rfl rfl (fun c9 => ?_) (fun c9 => ?_)
    · skip
      refine w_iconst 17 dX13_isDigit_16 rfl (v := nI 0) rfl ?_
      refine wr_z dX13_isDigit_17 rfl (by first | rfl | exact nb_b2i _) ?_
      exact kq h (by clear h; simp only [b2i, hasB, Int32.lt_iff_toInt_lt, Int32.le_iff_toInt_le, decide_eq_true_eq] at *; (repeat' split) <;> first | rfl | (exfalso; omega) | omega)
    · skip
      refine w_iconst 13 dX13_isDigit_12 rfl (v := nI 1) rfl ?_
      refine w_goto 17 dX13_isDigit_13 rfl ?_
      refine wr_z dX13_isDigit_17 rfl (by first | rfl | exact nb_b2i _) ?_
      exact kq h (by clear h; simp only [b2i, hasB, Int32.lt_iff_toInt_lt, Int32.le_iff_toInt_le, decide_eq_true_eq] at *; (repeat' split) <;> first | rfl | (exfalso; omega) | omega)

set_option maxRecDepth 4000 in
theorem c_X13_byteAt {K : Option Value → AH → Prop} {A : AH} {v : Value} {n : Nat} {tp : Nat → Int32} {k : Nat} (hT : TA n tp A) (hk : k ≤ 900) (h : K (some (.int (bA tp n k))) A) : Ct yX13_byteAt mX13_byteAt 0 dM (GG v (.ref 111)) [.ref 100, .int (nI k)] A K := by
  refine Ct.of [some (.ref 100), some (.int (nI k))] rfl rfl rfl (Nat.le_of_ble_eq_true rfl) ?_
  have h9 := hT.2.1
  refine w_iload_n 1 dX13_byteAt_0 rfl rfl ?_
  refine w_aload_n 2 dX13_byteAt_1 rfl rfl ?_
  refine w_getiv 5 dX13_byteAt_2 rfl faX13_63 rfl rfl rfl hT.1 ?_
  refine w_icgeN 21 8 dX13_byteAt_5 rfl rfl (by omega) (by omega) (fun c5 => ?_) (fun c5 => ?_)
  · skip
    refine w_iconst 22 dX13_byteAt_21 rfl (v := (-1)) rfl ?_
    refine wr_i dX13_byteAt_22 rfl ?_
    exact kq h (by unfold bA; rw [if_neg (by omega)])
  · skip
    refine w_aload_n 9 dX13_byteAt_8 rfl rfl ?_
    refine w_getr 12 dX13_byteAt_9 rfl faX13_13 rfl rfl rfl (r := .ref 101) rfl ?_
    refine w_iload_n 13 dX13_byteAt_12 rfl rfl ?_
    refine w_baldv 14 dX13_byteAt_13 rfl rfl rfl (by decide) (by omega) (hT.2.2 k c5).1 ?_
    refine w_sipush 17 dX13_byteAt_14 rfl (v := nI 255) rfl ?_
    refine w_iand 18 dX13_byteAt_17 rfl ?_
    refine w_top b_and ?_
    refine w_goto 22 dX13_byteAt_18 rfl ?_
    refine wr_i dX13_byteAt_22 rfl ?_
    exact kq h (by rw [bA_lt c5])

set_option maxRecDepth 4000 in
theorem a_X13_goesOnL {K : Option Value → AH → Prop} {A : AH} {v : Value} {n p i : Nat} {tp : Nat → Int32} {c : Int32} (hT : TA n tp A) (hi : i < n) (hS : tkS (gB tp) n p = i) (hpn : p ≤ n) (h8 : A.1 100 8 = nI i) (h9 : A.1 100 9 = nI 0) (h10 : A.1 100 10 = nI i) (h12 : A.1 100 12 = nI 0) (hL : isL (gB tp i) = true) (h : ∀ A', LA (gB tp) n p A' → FR A A' → K none A') : WP mX13_goesOn 1 dM (GG v (.ref 111)) 79 [some (.ref 100), some (.int c), some (.int (nI 0))] [] A K := by
  have lp84 : ∀ (nf : Nat) (j : Nat) (A' : AH), i + j ≤ n → (∀ k, k < j → isL (gB tp (i + k)) = true) → FR A A' → A'.1 100 8 = nI (i + j) → A'.1 100 9 = nI 0 → A'.1 100 10 = nI i → A'.2 100 14 = lN (lc (gB tp) i (mn8 8 j)) → n - j < nf → WP mX13_goesOn 1 dM (GG v (.ref 111)) 84 [some (.ref 100), some (.int c), some (.int (nI j))] [] A' K := by
    intro nf
    induction nf with
    | zero => intros; omega
    | succ nf ih =>
      intro j A' hj hl hF g8 g9 g10 gw hms
      have hT2 := hT.fp hF.p
      have h900 := hT.2.1
      have hgb := gB_lt tp (i + j)
      refine w_aload_n 85 dX13_goesOn_84 rfl rfl ?_
      refine w_aload_n 86 dX13_goesOn_85 rfl rfl ?_
      refine w_getiv 89 dX13_goesOn_86 rfl faX13_81 rfl rfl rfl g8 ?_
      refine w_inv1 92 dX13_goesOn_89 rfl mlX13_84 rfl rfl (d' := 0) (by decide) (Nat.le_of_ble_eq_true rfl) (c_X13_byteAt (hT2) (by omega) ?_)
      refine w_invs1 95 dX13_goesOn_92 rfl slX13_90 (d' := 0) (by decide) (Nat.le_of_ble_eq_true rfl) (c_X13_isLetter ?_)
      rw [bA_in (by decide) (by decide) (by decide)]
      refine w_ifeqB 147 98 dX13_goesOn_95 rfl rfl (fun c95 => ?_) (fun c95 => ?_)
      · skip
        have hnl : i + j < n → isL (gB tp (i + j)) = false := fun q => by
          rw [decide_eq_true q, Bool.true_and] at c95
          exact c95
        have hlr := lrn_eq (g := gB tp) hj hl hnl
        have hj1 : 0 < j := Nat.pos_of_ne_zero (fun z => by subst z; rw [Nat.add_zero, hL] at hnl; exact absurd (hnl hi) (by decide))
        refine w_iload_n 148 dX13_goesOn_147 rfl rfl ?_
        refine w_bipush 150 dX13_goesOn_148 rfl (v := nI 8) rfl ?_
        refine w_icgtN 265 153 dX13_goesOn_150 rfl rfl (by omega) (by omega) (fun c150 => ?_) (fun c150 => ?_)
        · skip
          refine wr_v dX13_goesOn_265 rfl ?_
          have hk : tkK (gB tp) n p = 4 := by unfold tkK; rw [hS, if_neg (by omega), if_pos hL, hlr, if_neg (by omega)]
          exact h A' ⟨hpn, by rw [hk]; exact g9, by rw [hS]; exact g10, by rw [hF.2 12 (by omega)]; exact h12, fun q => by omega, fun q => by omega, fun q => by omega⟩ hF
        · skip
          refine w_aload_n 154 dX13_goesOn_153 rfl rfl ?_
          refine w_iconst 155 dX13_goesOn_154 rfl (v := nI 2) rfl ?_
          refine w_puti 158 dX13_goesOn_155 rfl faX13_78 rfl rfl rfl rfl ?_
          refine w_goto 265 dX13_goesOn_158 rfl ?_
          refine wr_v dX13_goesOn_265 rfl ?_
          have hk : tkK (gB tp) n p = 1 := by unfold tkK; rw [hS, if_neg (by omega), if_pos hL, hlr, if_pos (by omega)]
          exact h _ ⟨hpn, by dsimp only; rw [upd2_at, hk]; rfl, by dsimp only; rw [upd2_off (by decide), hS]; exact g10, by dsimp only; rw [upd2_off (by decide), hF.2 12 (by omega)]; exact h12, fun q => by dsimp only; rw [upd2_off (by decide), g8]; unfold tkE; rw [hS, if_neg (by omega), if_pos hL, hlr], fun q => by dsimp only; rw [gw]; unfold tkC; rw [hS, hlr, show i + j - i = j by omega, show mn8 8 j = j from by unfold mn8; split <;> omega], fun q => by omega⟩ (hF.f (by decide) (by decide) (by decide) _)
      · skip
        rw [Bool.and_eq_true] at c95
        have hlt : i + j < n := of_decide_eq_true c95.1
        have hil : isL (gB tp (i + j)) = true := c95.2
        have hb97 := isL_b hil
        have hl2 : ∀ k, k < j + 1 → isL (gB tp (i + k)) = true := fun k hk => by
          by_cases q : k = j
          · rw [q]; exact hil
          · exact hl k (by omega)
        refine w_iload_n 99 dX13_goesOn_98 rfl rfl ?_
        refine w_bipush 101 dX13_goesOn_99 rfl (v := nI 8) rfl ?_
        refine w_icgeN 131 104 dX13_goesOn_101 rfl rfl (by omega) (by omega) (fun c101 => ?_) (fun c101 => ?_)
        · skip
          refine w_inc2 134 dX13_goesOn_131 rfl (by decide) rfl (v := nI (_ + 1)) (nI_1 _) ?_
          refine w_aload_n 135 dX13_goesOn_134 rfl rfl ?_
          refine w_dup_r 136 dX13_goesOn_135 rfl ?_
          refine w_getiv 139 dX13_goesOn_136 rfl faX13_81 rfl rfl rfl (v := nI (i + j)) g8 ?_
          refine w_iconst 140 dX13_goesOn_139 rfl (v := nI 1) rfl ?_
          refine w_iaddN 141 dX13_goesOn_140 rfl ?_
          refine w_puti 144 dX13_goesOn_141 rfl faX13_81 rfl rfl rfl rfl ?_
          refine w_goto 84 dX13_goesOn_144 rfl ?_
          refine ih (j + 1) _ (by omega) hl2 (hF.f (by decide) (by decide) (by decide) _) (by dsimp only; rw [upd2_at]; rfl) (by dsimp only; rw [upd2_off (by decide)]; exact g9) (by dsimp only; rw [upd2_off (by decide)]; exact g10) ?_ (by omega)
          dsimp only
          rw [gw, mn8_t (by omega)]
        · skip
          refine w_aload_n 105 dX13_goesOn_104 rfl rfl ?_
          refine w_ldc2 108 dX13_goesOn_105 rfl kcX13_72 ?_
          refine w_topl (show _ = lN 32 from rfl) ?_
          refine w_aload_n 109 dX13_goesOn_108 rfl rfl ?_
          refine w_getjv 112 dX13_goesOn_109 rfl faX13_94 rfl rfl rfl gw ?_
          refine w_lmulN 113 dX13_goesOn_112 rfl ?_
          refine w_aload_n 114 dX13_goesOn_113 rfl rfl ?_
          refine w_aload_n 115 dX13_goesOn_114 rfl rfl ?_
          refine w_getiv 118 dX13_goesOn_115 rfl faX13_81 rfl rfl rfl g8 ?_
          refine w_inv1 121 dX13_goesOn_118 rfl mlX13_84 rfl rfl (d' := 0) (by decide) (Nat.le_of_ble_eq_true rfl) (c_X13_byteAt (hT2) (by omega) ?_)
          rw [bA_lt hlt]
          refine w_bipush 123 dX13_goesOn_121 rfl (v := nI 97) rfl ?_
          refine w_isubN 124 dX13_goesOn_123 rfl hb97.1 ?_
          refine w_iconst 125 dX13_goesOn_124 rfl (v := nI 1) rfl ?_
          refine w_iaddN 126 dX13_goesOn_125 rfl ?_
          refine w_i2lN 127 dX13_goesOn_126 rfl (by omega) ?_
          refine w_laddN 128 dX13_goesOn_127 rfl ?_
          refine w_putj 131 dX13_goesOn_128 rfl faX13_94 rfl rfl rfl rfl ?_
          refine w_inc2 134 dX13_goesOn_131 rfl (by decide) rfl (v := nI (_ + 1)) (nI_1 _) ?_
          refine w_aload_n 135 dX13_goesOn_134 rfl rfl ?_
          refine w_dup_r 136 dX13_goesOn_135 rfl ?_
          refine w_getiv 139 dX13_goesOn_136 rfl faX13_81 rfl rfl rfl (v := nI (i + j)) g8 ?_
          refine w_iconst 140 dX13_goesOn_139 rfl (v := nI 1) rfl ?_
          refine w_iaddN 141 dX13_goesOn_140 rfl ?_
          refine w_puti 144 dX13_goesOn_141 rfl faX13_81 rfl rfl rfl rfl ?_
          refine w_goto 84 dX13_goesOn_144 rfl ?_
          refine ih (j + 1) _ (by omega) hl2 ((hF.j _ _).f (by decide) (by decide) (by decide) _) (by dsimp only; rw [upd2_at]; rfl) (by dsimp only; rw [upd2_off (by decide)]; exact g9) (by dsimp only; rw [upd2_off (by decide)]; exact g10) ?_ (by omega)
          dsimp only
          rw [upd2_at, mn8_s (by omega), show mn8 8 j = j from if_pos (by omega)]
          show lN _ = lN (lc (gB tp) i j * 32 + (gB tp (i + j) - 96))
          congr 1
          omega
  refine w_aload_n 80 dX13_goesOn_79 rfl rfl ?_
  refine w_lconst 81 dX13_goesOn_80 rfl (v := lN 0) rfl ?_
  refine w_putj 84 dX13_goesOn_81 rfl faX13_94 rfl rfl rfl rfl ?_
  exact lp84 _ 0 _ (by omega) (fun k hk => absurd hk (Nat.not_lt_zero k)) (FR.rf.j _ _) h8 h9 h10 (by dsimp only; rw [upd2_at]; rfl) (Nat.lt_succ_self _)

set_option maxRecDepth 4000 in
theorem a_X13_goesOnD {K : Option Value → AH → Prop} {A : AH} {v : Value} {n p i : Nat} {tp : Nat → Int32} {c : Int32} (hT : TA n tp A) (hi : i < n) (hS : tkS (gB tp) n p = i) (hpn : p ≤ n) (h8 : A.1 100 8 = nI i) (h9 : A.1 100 9 = nI 0) (h10 : A.1 100 10 = nI i) (h12 : A.1 100 12 = nI 0) (hL : isL (gB tp i) = false) (hD : isD (gB tp i) = true) (h : ∀ A', LA (gB tp) n p A' → FR A A' → K none A') : WP mX13_goesOn 1 dM (GG v (.ref 111)) 168 [some (.ref 100), some (.int c), some (.int (nI 0))] [] A K := by
  have lp173 : ∀ (nf : Nat) (j : Nat) (A' : AH), i + j ≤ n → (∀ k, k < j → isD (gB tp (i + k)) = true) → FR A A' → A'.1 100 8 = nI (i + j) → A'.1 100 9 = nI 0 → A'.1 100 10 = nI i → A'.1 100 11 = nI (dc (gB tp) i (mn8 3 j)) → n - j < nf → WP mX13_goesOn 1 dM (GG v (.ref 111)) 173 [some (.ref 100), some (.int c), some (.int (nI j))] [] A' K := by
    intro nf
    induction nf with
    | zero => intros; omega
    | succ nf ih =>
      intro j A' hj hl hF g8 g9 g10 gw hms
      have hT2 := hT.fp hF.p
      have h900 := hT.2.1
      have hgb := gB_lt tp (i + j)
      refine w_aload_n 174 dX13_goesOn_173 rfl rfl ?_
      refine w_aload_n 175 dX13_goesOn_174 rfl rfl ?_
      refine w_getiv 178 dX13_goesOn_175 rfl faX13_81 rfl rfl rfl g8 ?_
      refine w_inv1 181 dX13_goesOn_178 rfl mlX13_84 rfl rfl (d' := 0) (by decide) (Nat.le_of_ble_eq_true rfl) (c_X13_byteAt (hT2) (by omega) ?_)
      refine w_invs1 184 dX13_goesOn_181 rfl slX13_98 (d' := 0) (by decide) (Nat.le_of_ble_eq_true rfl) (c_X13_isDigit ?_)
      rw [bA_in (by decide) (by decide) (by decide)]
      refine w_ifeqB 231 187 dX13_goesOn_184 rfl rfl (fun c184 => ?_) (fun c184 => ?_)
      · skip
        have hnl : i + j < n → isD (gB tp (i + j)) = false := fun q => by
          rw [decide_eq_true q, Bool.true_and] at c184
          exact c184
        have hlr := drn_eq (g := gB tp) hj hl hnl
        refine w_iload_n 232 dX13_goesOn_231 rfl rfl ?_
        refine w_iconst 233 dX13_goesOn_232 rfl (v := nI 3) rfl ?_
        refine w_icgtN 265 236 dX13_goesOn_233 rfl rfl (by omega) (by omega) (fun c233 => ?_) (fun c233 => ?_)
        · skip
          refine wr_v dX13_goesOn_265 rfl ?_
          have hk : tkK (gB tp) n p = 4 := by unfold tkK; rw [hS, if_neg (by omega), if_neg (by rw [hL]; decide), if_pos hD, hlr, if_neg (by omega)]
          exact h A' ⟨hpn, by rw [hk]; exact g9, by rw [hS]; exact g10, by rw [hF.2 12 (by omega)]; exact h12, fun q => by omega, fun q => by omega, fun q => by omega⟩ hF
        · skip
          refine w_aload_n 237 dX13_goesOn_236 rfl rfl ?_
          refine w_iconst 238 dX13_goesOn_237 rfl (v := nI 3) rfl ?_
          refine w_puti 241 dX13_goesOn_238 rfl faX13_78 rfl rfl rfl rfl ?_
          refine w_goto 265 dX13_goesOn_241 rfl ?_
          refine wr_v dX13_goesOn_265 rfl ?_
          have hk : tkK (gB tp) n p = 2 := by unfold tkK; rw [hS, if_neg (by omega), if_neg (by rw [hL]; decide), if_pos hD, hlr, if_pos (by omega)]
          exact h _ ⟨hpn, by dsimp only; rw [upd2_at, hk]; rfl, by dsimp only; rw [upd2_off (by decide), hS]; exact g10, by dsimp only; rw [upd2_off (by decide), hF.2 12 (by omega)]; exact h12, fun q => by dsimp only; rw [upd2_off (by decide), g8]; unfold tkE; rw [hS, if_neg (by omega), if_neg (by rw [hL]; decide), if_pos hD, hlr], fun q => by omega, fun q => by dsimp only; rw [upd2_off (by decide), gw]; unfold tkV; rw [hS, hlr, show i + j - i = j by omega, show mn8 3 j = j from by unfold mn8; split <;> omega]⟩ (hF.f (by decide) (by decide) (by decide) _)
      · skip
        rw [Bool.and_eq_true] at c184
        have hlt : i + j < n := of_decide_eq_true c184.1
        have hil : isD (gB tp (i + j)) = true := c184.2
        have hb97 := isD_b hil
        have hl2 : ∀ k, k < j + 1 → isD (gB tp (i + k)) = true := fun k hk => by
          by_cases q : k = j
          · rw [q]; exact hil
          · exact hl k (by omega)
        refine w_iload_n 188 dX13_goesOn_187 rfl rfl ?_
        refine w_iconst 189 dX13_goesOn_188 rfl (v := nI 3) rfl ?_
        refine w_icgeN 215 192 dX13_goesOn_189 rfl rfl (by omega) (by omega) (fun c189 => ?_) (fun c189 => ?_)
        · skip
          refine w_inc2 218 dX13_goesOn_215 rfl (by decide) rfl (v := nI (_ + 1)) (nI_1 _) ?_
          refine w_aload_n 219 dX13_goesOn_218 rfl rfl ?_
          refine w_dup_r 220 dX13_goesOn_219 rfl ?_
          refine w_getiv 223 dX13_goesOn_220 rfl faX13_81 rfl rfl rfl (v := nI (i + j)) g8 ?_
          refine w_iconst 224 dX13_goesOn_223 rfl (v := nI 1) rfl ?_
          refine w_iaddN 225 dX13_goesOn_224 rfl ?_
          refine w_puti 228 dX13_goesOn_225 rfl faX13_81 rfl rfl rfl rfl ?_
          refine w_goto 173 dX13_goesOn_228 rfl ?_
          refine ih (j + 1) _ (by omega) hl2 (hF.f (by decide) (by decide) (by decide) _) (by dsimp only; rw [upd2_at]; rfl) (by dsimp only; rw [upd2_off (by decide)]; exact g9) (by dsimp only; rw [upd2_off (by decide)]; exact g10) ?_ (by omega)
          dsimp only
          rw [upd2_off (by decide), gw, mn8_t (by omega)]
        · skip
          refine w_aload_n 193 dX13_goesOn_192 rfl rfl ?_
          refine w_bipush 195 dX13_goesOn_193 rfl (v := nI 10) rfl ?_
          refine w_aload_n 196 dX13_goesOn_195 rfl rfl ?_
          refine w_getiv 199 dX13_goesOn_196 rfl faX13_101 rfl rfl rfl gw ?_
          refine w_imulN 200 dX13_goesOn_199 rfl ?_
          refine w_aload_n 201 dX13_goesOn_200 rfl rfl ?_
          refine w_aload_n 202 dX13_goesOn_201 rfl rfl ?_
          refine w_getiv 205 dX13_goesOn_202 rfl faX13_81 rfl rfl rfl g8 ?_
          refine w_inv1 208 dX13_goesOn_205 rfl mlX13_84 rfl rfl (d' := 0) (by decide) (Nat.le_of_ble_eq_true rfl) (c_X13_byteAt (hT2) (by omega) ?_)
          rw [bA_lt hlt]
          refine w_iaddN 209 dX13_goesOn_208 rfl ?_
          refine w_bipush 211 dX13_goesOn_209 rfl (v := nI 48) rfl ?_
          refine w_isubN 212 dX13_goesOn_211 rfl (by omega) ?_
          refine w_puti 215 dX13_goesOn_212 rfl faX13_101 rfl rfl rfl rfl ?_
          refine w_inc2 218 dX13_goesOn_215 rfl (by decide) rfl (v := nI (_ + 1)) (nI_1 _) ?_
          refine w_aload_n 219 dX13_goesOn_218 rfl rfl ?_
          refine w_dup_r 220 dX13_goesOn_219 rfl ?_
          refine w_getiv 223 dX13_goesOn_220 rfl faX13_81 rfl rfl rfl (v := nI (i + j)) (by dsimp only; rw [upd2_off (by decide)]; exact g8) ?_
          refine w_iconst 224 dX13_goesOn_223 rfl (v := nI 1) rfl ?_
          refine w_iaddN 225 dX13_goesOn_224 rfl ?_
          refine w_puti 228 dX13_goesOn_225 rfl faX13_81 rfl rfl rfl rfl ?_
          refine w_goto 173 dX13_goesOn_228 rfl ?_
          refine ih (j + 1) _ (by omega) hl2 ((hF.f (by decide) (by decide) (by decide) _).f (by decide) (by decide) (by decide) _) (by dsimp only; rw [upd2_at]; rfl) (by dsimp only; rw [upd2_off (by decide), upd2_off (by decide)]; exact g9) (by dsimp only; rw [upd2_off (by decide), upd2_off (by decide)]; exact g10) ?_ (by omega)
          dsimp only
          rw [upd2_off (by decide), upd2_at, mn8_s (by omega), show mn8 3 j = j from if_pos (by omega)]
          show nI _ = nI (dc (gB tp) i j * 10 + (gB tp (i + j) - 48))
          congr 1
          omega
  refine w_aload_n 169 dX13_goesOn_168 rfl rfl ?_
  refine w_iconst 170 dX13_goesOn_169 rfl (v := nI 0) rfl ?_
  refine w_puti 173 dX13_goesOn_170 rfl faX13_101 rfl rfl rfl rfl ?_
  exact lp173 _ 0 _ (by omega) (fun k hk => absurd hk (Nat.not_lt_zero k)) (FR.rf.f (by decide) (by decide) (by decide) _) (by dsimp only; rw [upd2_off (by decide)]; exact h8) (by dsimp only; rw [upd2_off (by decide)]; exact h9) (by dsimp only; rw [upd2_off (by decide)]; exact h10) (by dsimp only; rw [upd2_at]; rfl) (Nat.lt_succ_self _)

set_option maxRecDepth 4000 in
theorem c_X13_goesOn {K : Option Value → AH → Prop} {A : AH} {v : Value} {n p k : Nat} {tp : Nat → Int32} (hT : TA n tp A) (hpn : p ≤ n) (h8 : A.1 100 8 = nI p) (h9 : A.1 100 9 = nI k) (hk : k < 5) (h12 : A.1 100 12 = nI 0) (h : ∀ A', LA (gB tp) n p A' → FR A A' → K none A') : Ct yX13_goesOn mX13_goesOn 1 dM (GG v (.ref 111)) [.ref 100] A K := by
  refine Ct.of [some (.ref 100), none, none] rfl rfl rfl (Nat.le_of_ble_eq_true rfl) ?_
  have h900 := hT.2.1
  have lp9 : ∀ (nf : Nat) (i : Nat) (A' : AH), p ≤ i → i ≤ n → (∀ j, p ≤ j → j < i → gB tp j = 32) → FR A A' → A'.1 100 8 = nI i → n - i < nf → WP mX13_goesOn 1 dM (GG v (.ref 111)) 9 [some (.ref 100), none, none] [] A' K := by
    intro nf
    induction nf with
    | zero => intros; omega
    | succ nf ih =>
      intro i A' hpi hin hl hF g8 hms
      have hT2 := hT.fp hF.p
      refine w_aload_n 10 dX13_goesOn_9 rfl rfl ?_
      refine w_aload_n 11 dX13_goesOn_10 rfl rfl ?_
      refine w_getiv 14 dX13_goesOn_11 rfl faX13_81 rfl rfl rfl g8 ?_
      refine w_inv1 17 dX13_goesOn_14 rfl mlX13_84 rfl rfl (d' := 0) (by decide) (Nat.le_of_ble_eq_true rfl) (c_X13_byteAt (hT2) (by omega) ?_)
      refine w_bipush 19 dX13_goesOn_17 rfl (v := nI 32) rfl ?_
      refine w_icne 35 22 dX13_goesOn_19 rfl rfl (fun c19 => ?_) (fun c19 => ?_)
      · skip
        refine w_aload_n 36 dX13_goesOn_35 rfl rfl ?_
        refine w_aload_n 37 dX13_goesOn_36 rfl rfl ?_
        refine w_getiv 40 dX13_goesOn_37 rfl faX13_81 rfl rfl rfl g8 ?_
        refine w_puti 43 dX13_goesOn_40 rfl faX13_87 rfl rfl rfl rfl ?_
        refine w_aload_n 44 dX13_goesOn_43 rfl rfl ?_
        refine w_iconst 45 dX13_goesOn_44 rfl (v := nI 0) rfl ?_
        refine w_puti 48 dX13_goesOn_45 rfl faX13_78 rfl rfl rfl rfl ?_
        have hS : tkS (gB tp) n p = i := run_eq hpi (by omega) (fun j a b => by simp [hl j a b]) (fun q => by have : ¬ gB tp i = 32 := fun z => c19 ((bA_eq (by decide)).mpr ⟨by omega, z⟩); simp [this])
        have hF3 : FR A (upd2 (upd2 A'.1 100 10 (nI i)) 100 9 (nI 0), A'.2) := (hF.f (by decide) (by decide) (by decide) _).f (by decide) (by decide) (by decide) _
        have k8 : (upd2 (upd2 A'.1 100 10 (nI i)) 100 9 (nI 0), A'.2).1 100 8 = nI i := by dsimp only; rw [upd2_off (by decide), upd2_off (by decide)]; exact g8
        have k9 : (upd2 (upd2 A'.1 100 10 (nI i)) 100 9 (nI 0), A'.2).1 100 9 = nI 0 := by dsimp only; rw [upd2_at]
        have k10 : (upd2 (upd2 A'.1 100 10 (nI i)) 100 9 (nI 0), A'.2).1 100 10 = nI i := by dsimp only; rw [upd2_off (by decide), upd2_at]
        have k12 : (upd2 (upd2 A'.1 100 10 (nI i)) 100 9 (nI 0), A'.2).1 100 12 = nI 0 := by rw [hF3.2 12 (by omega)]; exact h12
        have hT3 := hT.fp hF3.p
        refine w_aload_n 49 dX13_goesOn_48 rfl rfl ?_
        refine w_aload_n 50 dX13_goesOn_49 rfl rfl ?_
        refine w_getiv 53 dX13_goesOn_50 rfl faX13_81 rfl rfl rfl k8 ?_
        refine w_inv1 56 dX13_goesOn_53 rfl mlX13_84 rfl rfl (d' := 0) (by decide) (Nat.le_of_ble_eq_true rfl) (c_X13_byteAt (hT3) (by omega) ?_)
        refine w_ist1 57 dX13_goesOn_56 rfl (by decide) rfl ?_
        refine w_iconst 58 dX13_goesOn_57 rfl (v := nI 0) rfl ?_
        refine w_ist2 59 dX13_goesOn_58 rfl (by decide) rfl ?_
        refine w_iload_n 60 dX13_goesOn_59 rfl rfl ?_
        refine w_iconst 61 dX13_goesOn_60 rfl (v := (-1)) rfl ?_
        refine w_icne 72 64 dX13_goesOn_61 rfl rfl (fun c61 => ?_) (fun c61 => ?_)
        · skip
          have hlt : i < n := Decidable.byContradiction (fun z => c61 (bA_m1.mpr z))
          refine w_iload_n 73 dX13_goesOn_72 rfl rfl ?_
          refine w_invs1 76 dX13_goesOn_73 rfl slX13_90 (d' := 0) (by decide) (Nat.le_of_ble_eq_true rfl) (c_X13_isLetter ?_)
          rw [bA_in (by decide) (by decide) (by decide)]
          rw [decide_eq_true hlt, Bool.true_and]
          rw [show decide (97 ≤ gB tp i ∧ gB tp i ≤ 122) = isL (gB tp i) from rfl]
          refine w_ifeqB 161 79 dX13_goesOn_76 rfl rfl (fun c76 => ?_) (fun c76 => ?_)
          · skip
            refine w_iload_n 162 dX13_goesOn_161 rfl rfl ?_
            refine w_invs1 165 dX13_goesOn_162 rfl slX13_98 (d' := 0) (by decide) (Nat.le_of_ble_eq_true rfl) (c_X13_isDigit ?_)
            rw [bA_in (by decide) (by decide) (by decide)]
            rw [decide_eq_true hlt, Bool.true_and]
            rw [show decide (48 ≤ gB tp i ∧ gB tp i ≤ 57) = isD (gB tp i) from rfl]
            refine w_ifeqB 244 168 dX13_goesOn_165 rfl rfl (fun c165 => ?_) (fun c165 => ?_)
            · skip
              refine w_iload_n 245 dX13_goesOn_244 rfl rfl ?_
              refine w_bipush 247 dX13_goesOn_245 rfl (v := nI 59) rfl ?_
              refine w_icne 265 250 dX13_goesOn_247 rfl rfl (fun c247 => ?_) (fun c247 => ?_)
              · skip
                refine wr_v dX13_goesOn_265 rfl ?_
                have hne : ¬ gB tp i = 59 := fun z => c247 ((bA_eq (by decide)).mpr ⟨hlt, z⟩)
                have hk4 : tkK (gB tp) n p = 4 := by unfold tkK; rw [hS, if_neg (by omega), if_neg (by rw [c76]; decide), if_neg (by rw [c165]; decide), if_neg hne]
                exact h _ ⟨hpn, by rw [hk4]; exact k9, by rw [hS]; exact k10, k12, fun q => by omega, fun q => by omega, fun q => by omega⟩ hF3
              · skip
                refine w_aload_n 251 dX13_goesOn_250 rfl rfl ?_
                refine w_iconst 252 dX13_goesOn_251 rfl (v := nI 4) rfl ?_
                refine w_puti 255 dX13_goesOn_252 rfl faX13_78 rfl rfl rfl rfl ?_
                refine w_aload_n 256 dX13_goesOn_255 rfl rfl ?_
                refine w_dup_r 257 dX13_goesOn_256 rfl ?_
                refine w_getiv 260 dX13_goesOn_257 rfl faX13_81 rfl rfl rfl (v := nI i) (by dsimp only; rw [upd2_off (by decide)]; exact k8) ?_
                refine w_iconst 261 dX13_goesOn_260 rfl (v := nI 1) rfl ?_
                refine w_iaddN 262 dX13_goesOn_261 rfl ?_
                refine w_puti 265 dX13_goesOn_262 rfl faX13_81 rfl rfl rfl rfl ?_
                refine wr_v dX13_goesOn_265 rfl ?_
                have heq : gB tp i = 59 := ((bA_eq (by decide)).mp c247).2
                have hk4 : tkK (gB tp) n p = 3 := by unfold tkK; rw [hS, if_neg (by omega), if_neg (by rw [c76]; decide), if_neg (by rw [c165]; decide), if_pos heq]
                exact h _ ⟨hpn, by dsimp only; rw [upd2_off (by decide), upd2_at, hk4]; rfl, by dsimp only; rw [upd2_off (by decide), upd2_off (by decide), hS]; exact k10, by dsimp only; rw [upd2_off (by decide), upd2_off (by decide)]; exact k12, fun q => by dsimp only; rw [upd2_at]; unfold tkE; rw [hS, if_neg (by omega), if_neg (by rw [c76]; decide), if_neg (by rw [c165]; decide)], fun q => by omega, fun q => by omega⟩ ((hF3.f (by decide) (by decide) (by decide) _).f (by decide) (by decide) (by decide) _)
            · skip
              exact a_X13_goesOnD hT3 hlt hS hpn k8 k9 k10 k12 c76 c165 (fun A5 hA5 hF5 => h A5 hA5 (hF3.tr hF5))
          · skip
            exact a_X13_goesOnL hT3 hlt hS hpn k8 k9 k10 k12 c76 (fun A5 hA5 hF5 => h A5 hA5 (hF3.tr hF5))
        · skip
          have hge : ¬ i < n := bA_m1.mp c61
          refine w_aload_n 65 dX13_goesOn_64 rfl rfl ?_
          refine w_iconst 66 dX13_goesOn_65 rfl (v := nI 1) rfl ?_
          refine w_puti 69 dX13_goesOn_66 rfl faX13_78 rfl rfl rfl rfl ?_
          refine w_goto 265 dX13_goesOn_69 rfl ?_
          refine wr_v dX13_goesOn_265 rfl ?_
          have hk0 : tkK (gB tp) n p = 0 := by unfold tkK; rw [hS, if_pos (by omega)]
          exact h _ ⟨hpn, by dsimp only; rw [upd2_at, hk0]; rfl, by dsimp only; rw [upd2_off (by decide), hS]; exact k10, by dsimp only; rw [upd2_off (by decide)]; exact k12, fun q => by dsimp only; rw [upd2_off (by decide)]; unfold tkE; rw [hS, if_pos (by omega)]; exact k8, fun q => by omega, fun q => by omega⟩ (hF3.f (by decide) (by decide) (by decide) _)
      · skip
        refine w_aload_n 23 dX13_goesOn_22 rfl rfl ?_
        refine w_dup_r 24 dX13_goesOn_23 rfl ?_
        refine w_getiv 27 dX13_goesOn_24 rfl faX13_81 rfl rfl rfl g8 ?_
        refine w_iconst 28 dX13_goesOn_27 rfl (v := nI 1) rfl ?_
        refine w_iaddN 29 dX13_goesOn_28 rfl ?_
        refine w_puti 32 dX13_goesOn_29 rfl faX13_81 rfl rfl rfl rfl ?_
        refine w_goto 9 dX13_goesOn_32 rfl ?_
        have hb := (bA_eq (by decide)).mp c19
        exact ih (i + 1) _ (by omega) (by omega) (fun j a b => by
          by_cases q : j = i
          · rw [q]; exact hb.2
          · exact hl j a (by omega)) (hF.f (by decide) (by decide) (by decide) _) (by dsimp only; rw [upd2_at]) (by omega)
  refine w_aload_n 1 dX13_goesOn_0 rfl rfl ?_
  refine w_getiv 4 dX13_goesOn_1 rfl faX13_78 rfl rfl rfl h9 ?_
  refine w_iconst 5 dX13_goesOn_4 rfl (v := nI 5) rfl ?_
  refine w_icneN 9 8 dX13_goesOn_5 rfl rfl (by omega) (by omega) (fun c5 => ?_) (fun c5 => (by omega))
  exact lp9 _ p A (Nat.le_refl p) hpn (fun j a b => by omega) FR.rf h8 (Nat.lt_succ_self _)

set_option maxRecDepth 4000 in
theorem o_X13_goesOn {K : Option Value → AH → Prop} {A : AH} {v : Value} {f pl : Nat} (hO : OV f pl A) (h : K none A) : Ct yX13_goesOn mX13_goesOn 1 dM (GG v (.ref 111)) [.ref 100] A K := by
  refine Ct.of [some (.ref 100), none, none] rfl rfl rfl (Nat.le_of_ble_eq_true rfl) ?_
  refine w_aload_n 1 dX13_goesOn_0 rfl rfl ?_
  refine w_getiv 4 dX13_goesOn_1 rfl faX13_78 rfl rfl rfl hO.1 ?_
  refine w_iconst 5 dX13_goesOn_4 rfl (v := nI 5) rfl ?_
  refine w_icneN 9 8 dX13_goesOn_5 rfl rfl (by omega) (by omega) (fun c5 => (by omega)) (fun c5 => ?_)
  refine wr_v dX13_goesOn_8 rfl ?_
  exact h

set_option maxRecDepth 4000 in
theorem o_X13_flaw {K : Option Value → AH → Prop} {A : AH} {v : Value} {f pl : Nat} {x : Int32} (hO : OV f pl A) (h : K none A) : Ct yX13_flaw mX13_flaw 0 dM (GG v (.ref 111)) [.ref 100, .int x] A K := by
  refine Ct.of [some (.ref 100), some (.int x)] rfl rfl rfl (Nat.le_of_ble_eq_true rfl) ?_
  refine w_aload_n 1 dX13_flaw_0 rfl rfl ?_
  refine w_getiv 4 dX13_flaw_1 rfl faX13_78 rfl rfl rfl hO.1 ?_
  refine w_iconst 5 dX13_flaw_4 rfl (v := nI 5) rfl ?_
  refine w_icneN 9 8 dX13_flaw_5 rfl rfl (by omega) (by omega) (fun c5 => (by omega)) (fun c5 => ?_)
  refine wr_v dX13_flaw_8 rfl ?_
  exact h

set_option maxRecDepth 4000 in
theorem c_X13_flaw {K : Option Value → AH → Prop} {A : AH} {v : Value} {k f q : Nat} (h9 : A.1 100 9 = nI k) (hk : k < 5) (h10 : A.1 100 10 = nI q) (hf : 0 < f) (h : ∀ A', OV f q A' → FP A A' → K none A') : Ct yX13_flaw mX13_flaw 0 dM (GG v (.ref 111)) [.ref 100, .int (nI f)] A K := by
  refine Ct.of [some (.ref 100), some (.int (nI f))] rfl rfl rfl (Nat.le_of_ble_eq_true rfl) ?_
  refine w_aload_n 1 dX13_flaw_0 rfl rfl ?_
  refine w_getiv 4 dX13_flaw_1 rfl faX13_78 rfl rfl rfl h9 ?_
  refine w_iconst 5 dX13_flaw_4 rfl (v := nI 5) rfl ?_
  refine w_icneN 9 8 dX13_flaw_5 rfl rfl (by omega) (by omega) (fun c5 => ?_) (fun c5 => (by omega))
  refine w_aload_n 10 dX13_flaw_9 rfl rfl ?_
  refine w_iload_n 11 dX13_flaw_10 rfl rfl ?_
  refine w_puti 14 dX13_flaw_11 rfl faX13_104 rfl rfl rfl rfl ?_
  refine w_aload_n 15 dX13_flaw_14 rfl rfl ?_
  refine w_aload_n 16 dX13_flaw_15 rfl rfl ?_
  refine w_getiv 19 dX13_flaw_16 rfl faX13_87 rfl rfl rfl (v := nI q) (by dsimp only; rw [upd2_off (by decide)]; exact h10) ?_
  refine w_puti 22 dX13_flaw_19 rfl faX13_107 rfl rfl rfl rfl ?_
  refine w_aload_n 23 dX13_flaw_22 rfl rfl ?_
  refine w_iconst 24 dX13_flaw_23 rfl (v := nI 5) rfl ?_
  refine w_puti 27 dX13_flaw_24 rfl faX13_78 rfl rfl rfl rfl ?_
  refine wr_v dX13_flaw_27 rfl ?_
  exact h _ ⟨by dsimp only; rw [upd2_at], by dsimp only; rw [upd2_off (by decide), upd2_off (by decide), upd2_at], by dsimp only; rw [upd2_off (by decide), upd2_at], hf⟩ (((FP.rf.f (by decide) (by decide) _).f (by decide) (by decide) _).f (by decide) (by decide) _)

