/-! ===== the class's state for questions ===== -/
def loOK (w : WT) : Prop := ∀ k, k < w.1 4 → w.2 4 k 0 < w.1 1 ∧ w.2 4 k 1 < w.1 1 ∧ w.2 4 k 0 ≠ w.2 4 k 1 ∧ w.2 4 k 2 ≤ 300
def okT (w : WT) : Prop := smW w ∧ clOK w ∧ ofOK w ∧ okL w ∧ (w.1 2 ≤ 7 ∧ w.1 3 ≤ 8 ∧ w.1 4 ≤ 4 ∧ w.1 5 ≤ 5) ∧ loOK w ∧ (∀ k, tbz w 5 k 3 ≤ 99) ∧ tbz w 0 0 1 ≤ 100
def CI (w : WT) (s : Nat → Nat) (A : AH) : Prop := RepT w 26 A ∧ okT w ∧ RepS s A ∧ okS s ∧ Z0 A
abbrev scr : List Nat := [0, 48, 49, 50, 51, 52, 53, 54, 55, 58, 59]
abbrev scI : List Nat := [48, 49, 50, 51, 52, 53, 54, 55, 58, 59]
def Qk (A A' : AH) : Prop := OffL scr A A' ∧ Z0 A'
theorem Qk.tr {A B C : AH} (h : Qk A B) (h2 : Qk B C) : Qk A C := ⟨h.1.tr h2.1, h2.2⟩
theorem CI.off {w : WT} {s : Nat → Nat} {A A' : AH} (h : CI w s A) (q : Qk A A') : CI w s A' := by
  obtain ⟨h1, h2, h3, h4, h5⟩ := h
  exact ⟨h1.cong (fun x a b => (q.1 x (by intro z; simp at z; omega)).1), h2, h3.cong (q.1 44 (by decide)).1, h4, q.2⟩
theorem CI.ref {w : WT} {s : Nat → Nat} {A : AH} (h : CI w s A) (x : Int32) : Qk A (upd2 A.1 0 8 x, A.2) := ⟨OffL.rf.upd (by decide) _ _, by
  obtain ⟨h1, h2⟩ := h.2.2.2.2
  exact ⟨by dsimp only; rw [upd2_ne (by decide)]; exact h1, by dsimp only; rw [upd2_ne (by decide)]; exact h2⟩⟩
def Qi (A A' : AH) : Prop := OffL scI A A' ∧ Z0 A'
theorem Qi.tr {A B C : AH} (h : Qi A B) (h2 : Qi B C) : Qi A C := ⟨h.1.tr h2.1, h2.2⟩
theorem Qi.q {A A' : AH} (h : Qi A A') : Qk A A' := ⟨h.1.mono (by intro x hx; simp at hx ⊢; omega), h.2⟩
theorem Qi.sub {A A' : AH} (h : Z0 A) {l : List Nat} (hO : OffL l A A') (hl : ∀ x ∈ l, x ∈ scI) (h52 : 52 ∉ l) (h53 : 53 ∉ l) : Qi A A' := ⟨hO.mono hl, by rw [Z0, (hO 52 h52).1, (hO 53 h53).1]; exact h⟩
theorem CI.fin {w : WT} {s : Nat → Nat} {A A' : AH} (h : CI w s A) {x : Int32} (q : Qi (upd2 A.1 0 8 x, A.2) A') : Qk A A' ∧ A'.1 0 8 = x := ⟨(h.ref x).tr q.q, by rw [(q.1 0 (by decide)).1]; dsimp only; rw [upd2_at]⟩
def okR (n : Nat) (k : Int32) : Bool := decide (0 ≤ k ∧ k < nI n)
def t1 (b : Bool) : Nat := if b then 0 else 1
def tI (n : Int32) : Nat := if 0 ≤ n ∧ n ≤ nI 60 then 0 else 2
def tY (b : Bool) (n : Int32) : Nat := if b then tI n else 1
def ok2 (w : WT) (a b : Int32) : Bool := okR (w.1 1) a && okR (w.1 1) b && decide (a ≠ b)
def okW1 (w : WT) : Bool := decide (0 < w.1 1)
theorem okR_of {n : Nat} {k : Int32} (h : okR n k = true) (hn : n < 2 ^ 31) : ∃ k' : Nat, k = nI k' ∧ k' < n := by
  obtain ⟨h1, h2⟩ := of_decide_eq_true h
  obtain ⟨k', hk, rfl⟩ := nI_of (Int32.not_lt.mpr h1)
  exact ⟨k', rfl, (nI_ltI hk hn).mp h2⟩
theorem tI_of {n : Int32} (h : tI n = 0) : ∃ n' : Nat, n = nI n' ∧ n' ≤ 60 := by
  unfold tI at h
  split at h
  · next q =>
    obtain ⟨n', hn, rfl⟩ := nI_of (Int32.not_lt.mpr q.1)
    exact ⟨n', rfl, (nI_leI hn (by decide)).mp q.2⟩
  · omega
theorem tI_le (n : Int32) : tI n ≤ 2 := by unfold tI; split <;> omega
theorem t1_le (b : Bool) : t1 b ≤ 1 := by unfold t1; split <;> omega
theorem tY_le (b : Bool) (n : Int32) : tY b n ≤ 2 := by unfold tY; split; exact tI_le n; omega
theorem tY_first (b : Bool) (n : Int32) : (if t1 b = 0 then tI n else t1 b) = tY b n := by cases b <;> simp [t1, tY]
theorem tY_0 {b : Bool} {n : Int32} (h : tY b n = 0) : b = true ∧ tI n = 0 := by
  cases b
  · simp [tY] at h
  · exact ⟨rfl, by simpa [tY] using h⟩
theorem t1_0 {b : Bool} (h : t1 b = 0) : b = true := by cases b; simp [t1] at h; rfl
theorem ok2_of {w : WT} {a b : Int32} (h : ok2 w a b = true) (hn : w.1 1 ≤ 7) : ∃ a' b' : Nat, a = nI a' ∧ b = nI b' ∧ a' < w.1 1 ∧ b' < w.1 1 ∧ a' ≠ b' := by
  simp only [ok2, Bool.and_eq_true] at h
  obtain ⟨⟨h1, h2⟩, h3⟩ := h
  obtain ⟨a', rfl, ha⟩ := okR_of h1 (by omega)
  obtain ⟨b', rfl, hb⟩ := okR_of h2 (by omega)
  exact ⟨a', b', rfl, rfl, ha, hb, fun e => of_decide_eq_true h3 (by rw [e])⟩
theorem c_X11_firstOfN {K : Option Value → AH → Prop} {dm : Nat × Nat} {G : Nat → Nat → Value} {A : AH} {x y : Nat} (hx : x < 2 ^ 31) (h : K (some (.int (nI (if x = 0 then y else x)))) A) : Ct yX11_firstOf mX11_firstOf 0 dm G [.int (nI x), .int (nI y)] A K := c_X11_firstOf (kq h (by simp only [nI_z hx]; split <;> rfl))
set_option maxRecDepth 4000 in
theorem c_X11_refused {K : Option Value → AH → Prop} {A : AH} {x : Nat} (hx : x < 2 ^ 31) (h : K (some (.int (b2i (decide (x ≠ 0))))) (upd2 A.1 0 8 (nI x), A.2)) : Ct yX11_refused mX11_refused 0 dC gC [.ref 0, .int (nI x)] A K := by
  refine Ct.of [some (.ref 0), some (.int (nI x))] rfl rfl rfl (Nat.le_of_ble_eq_true rfl) ?_
  refine w_aload_n 1 dX11_refused_0 rfl rfl ?_
  refine w_iload_n 2 dX11_refused_1 rfl rfl ?_
  refine w_puti 5 dX11_refused_2 rfl faX11_117 rfl rfl rfl rfl ?_
  refine w_iload_n 6 dX11_refused_5 rfl rfl ?_
  refine w_ifeqN 13 9 dX11_refused_6 rfl rfl (by omega) (fun c6 => ?_) (fun c6 => ?_)
  · skip
    refine w_iconst 14 dX11_refused_13 rfl (v := nI 0) rfl ?_
    refine wr_z dX11_refused_14 rfl (by first | rfl | exact nb_b2i _) ?_
    exact kq h (by simp [c6, b2i, nI_0, nI_one])
  · skip
    refine w_iconst 10 dX11_refused_9 rfl (v := nI 1) rfl ?_
    refine w_goto 14 dX11_refused_10 rfl ?_
    refine wr_z dX11_refused_14 rfl (by first | rfl | exact nb_b2i _) ?_
    exact kq h (by simp [c6, b2i, nI_0, nI_one])

set_option maxRecDepth 4000 in
theorem c_X11_needYears {K : Option Value → AH → Prop} {dm : Nat × Nat} {G : Nat → Nat → Value} {A : AH} {n : Int32} (h : K (some (.int (nI (tI n)))) A) : Ct yX11_needYears mX11_needYears 1 dm G [.int n] A K := by
  refine Ct.of [some (.int n)] rfl rfl rfl (Nat.le_of_ble_eq_true rfl) ?_
  refine w_iload_n 1 dX11_needYears_0 rfl rfl ?_
  refine w_iconst 2 dX11_needYears_1 rfl (v := nI 0) rfl ?_
  refine w_bipush 4 dX11_needYears_2 rfl (v := nI 60) rfl ?_
  refine w_invs3 7 dX11_needYears_4 rfl slX11_83 (d' := 0) (by decide) (Nat.le_of_ble_eq_true rfl) (c_X11_within ?_)
  refine wr_i dX11_needYears_7 rfl ?_
  exact kq h (by unfold tI; simp only [← nI_0]; split <;> rfl)

set_option maxRecDepth 4000 in
theorem c_X11_needWeb {K : Option Value → AH → Prop} {A : AH} {w : WT} {s : Nat → Nat} (hC : CI w s A) (h : K (some (.int (nI (t1 (okW1 w))))) A) : Ct yX11_needWeb mX11_needWeb 2 dC gC [.ref 0] A K := by
  refine Ct.of [some (.ref 0)] rfl rfl rfl (Nat.le_of_ble_eq_true rfl) ?_
  refine w_aload_n 1 dX11_needWeb_0 rfl rfl ?_
  refine w_getr 4 dX11_needWeb_1 rfl faX11_19 rfl rfl rfl (r := .ref 26) rfl ?_
  refine w_iconst 5 dX11_needWeb_4 rfl (v := nI 1) rfl ?_
  refine w_inv1 8 dX11_needWeb_5 rfl mlX11_113 rfl rfl (d' := 1) (by decide) (Nat.le_of_ble_eq_true rfl) (c_X10_howMany_26 hC.1 (by decide) ?_)
  refine w_ifleN 15 11 dX11_needWeb_8 rfl rfl (by have := hC.2.1.2.2.1.1; omega) (fun c8 => ?_) (fun c8 => ?_)
  · skip
    refine w_iconst 16 dX11_needWeb_15 rfl (v := nI 1) rfl ?_
    refine wr_i dX11_needWeb_16 rfl ?_
    exact kq h (by simp [t1, okW1, c8])
  · skip
    refine w_iconst 12 dX11_needWeb_11 rfl (v := nI 0) rfl ?_
    refine w_goto 16 dX11_needWeb_12 rfl ?_
    refine wr_i dX11_needWeb_16 rfl ?_
    exact kq h (by simp [t1, okW1, c8])

set_option maxRecDepth 4000 in
theorem c_X11_needRow {K : Option Value → AH → Prop} {A : AH} {w : WT} {s : Nat → Nat} (hC : CI w s A) {j : Nat} {k : Int32} (hj : j < 8) (h : K (some (.int (nI (t1 (okR (w.1 j) k))))) A) : Ct yX11_needRow mX11_needRow 2 dC gC [.ref 0, .int (nI j), .int k] A K := by
  refine Ct.of [some (.ref 0), some (.int (nI j)), some (.int k)] rfl rfl rfl (Nat.le_of_ble_eq_true rfl) ?_
  refine w_iload_n 1 dX11_needRow_0 rfl rfl ?_
  refine w_iflt 20 4 dX11_needRow_1 rfl rfl (fun c1 => ?_) (fun c1 => ?_)
  · skip
    refine w_iconst 21 dX11_needRow_20 rfl (v := nI 1) rfl ?_
    refine wr_i dX11_needRow_21 rfl ?_
    exact kq h (by clear h; simp only [t1, okR, decide_eq_true_eq, Int32.lt_iff_toInt_lt, Int32.le_iff_toInt_le] at *; split <;> first | rfl | (exfalso; omega))
  · skip
    refine w_iload_n 5 dX11_needRow_4 rfl rfl ?_
    refine w_aload_n 6 dX11_needRow_5 rfl rfl ?_
    refine w_getr 9 dX11_needRow_6 rfl faX11_19 rfl rfl rfl (r := .ref 26) rfl ?_
    refine w_iload_n 10 dX11_needRow_9 rfl rfl ?_
    refine w_inv1 13 dX11_needRow_10 rfl mlX11_113 rfl rfl (d' := 1) (by decide) (Nat.le_of_ble_eq_true rfl) (c_X10_howMany_26 hC.1 hj ?_)
    refine w_icge 20 16 dX11_needRow_13 rfl rfl (fun c13 => ?_) (fun c13 => ?_)
    · skip
      refine w_iconst 21 dX11_needRow_20 rfl (v := nI 1) rfl ?_
      refine wr_i dX11_needRow_21 rfl ?_
      exact kq h (by clear h; simp only [t1, okR, decide_eq_true_eq, Int32.lt_iff_toInt_lt, Int32.le_iff_toInt_le] at *; split <;> first | rfl | (exfalso; omega))
    · skip
      refine w_iconst 17 dX11_needRow_16 rfl (v := nI 0) rfl ?_
      refine w_goto 21 dX11_needRow_17 rfl ?_
      refine wr_i dX11_needRow_21 rfl ?_
      exact kq h (by clear h; simp only [t1, okR, decide_eq_true_eq, Int32.lt_iff_toInt_lt, Int32.le_iff_toInt_le] at *; split <;> first | rfl | (exfalso; omega))

set_option maxRecDepth 4000 in
theorem c_X11_needNail {K : Option Value → AH → Prop} {A : AH} {w : WT} {s : Nat → Nat} (hC : CI w s A) {k : Int32} (h : K (some (.int (nI (t1 (okR (w.1 1) k))))) A) : Ct yX11_needNail mX11_needNail 3 dC gC [.ref 0, .int k] A K := by
  refine Ct.of [some (.ref 0), some (.int k)] rfl rfl rfl (Nat.le_of_ble_eq_true rfl) ?_
  refine w_aload_n 1 dX11_needNail_0 rfl rfl ?_
  refine w_iconst 2 dX11_needNail_1 rfl (v := nI 1) rfl ?_
  refine w_iload_n 3 dX11_needNail_2 rfl rfl ?_
  refine w_inv2 6 dX11_needNail_3 rfl mlX11_238 rfl rfl (d' := 2) (by decide) (Nat.le_of_ble_eq_true rfl) (c_X11_needRow hC (by decide) ?_)
  refine wr_i dX11_needNail_6 rfl ?_
  exact h

set_option maxRecDepth 4000 in
theorem c_X11_needLoad {K : Option Value → AH → Prop} {A : AH} {w : WT} {s : Nat → Nat} (hC : CI w s A) {k : Int32} (h : K (some (.int (nI (t1 (okR (w.1 4) k))))) A) : Ct yX11_needLoad mX11_needLoad 3 dC gC [.ref 0, .int k] A K := by
  refine Ct.of [some (.ref 0), some (.int k)] rfl rfl rfl (Nat.le_of_ble_eq_true rfl) ?_
  refine w_aload_n 1 dX11_needLoad_0 rfl rfl ?_
  refine w_iconst 2 dX11_needLoad_1 rfl (v := nI 4) rfl ?_
  refine w_iload_n 3 dX11_needLoad_2 rfl rfl ?_
  refine w_inv2 6 dX11_needLoad_3 rfl mlX11_238 rfl rfl (d' := 2) (by decide) (Nat.le_of_ble_eq_true rfl) (c_X11_needRow hC (by decide) ?_)
  refine wr_i dX11_needLoad_6 rfl ?_
  exact h

set_option maxRecDepth 4000 in
theorem c_X11_needTwoNails {K : Option Value → AH → Prop} {A : AH} {w : WT} {s : Nat → Nat} (hC : CI w s A) {a b : Int32} (h : K (some (.int (nI (t1 (ok2 w a b))))) A) : Ct yX11_needTwoNails mX11_needTwoNails 4 dC gC [.ref 0, .int a, .int b] A K := by
  refine Ct.of [some (.ref 0), some (.int a), some (.int b)] rfl rfl rfl (Nat.le_of_ble_eq_true rfl) ?_
  refine w_iload_n 1 dX11_needTwoNails_0 rfl rfl ?_
  refine w_iload_n 2 dX11_needTwoNails_1 rfl rfl ?_
  refine w_icne 9 5 dX11_needTwoNails_2 rfl rfl (fun c2 => ?_) (fun c2 => ?_)
  · skip
    refine w_aload_n 10 dX11_needTwoNails_9 rfl rfl ?_
    refine w_iload_n 11 dX11_needTwoNails_10 rfl rfl ?_
    refine w_inv1 14 dX11_needTwoNails_11 rfl mlX11_142 rfl rfl (d' := 3) (by decide) (Nat.le_of_ble_eq_true rfl) (c_X11_needNail hC ?_)
    refine w_aload_n 15 dX11_needTwoNails_14 rfl rfl ?_
    refine w_iload_n 16 dX11_needTwoNails_15 rfl rfl ?_
    refine w_inv1 19 dX11_needTwoNails_16 rfl mlX11_142 rfl rfl (d' := 3) (by decide) (Nat.le_of_ble_eq_true rfl) (c_X11_needNail hC ?_)
    refine w_invs2 22 dX11_needTwoNails_19 rfl slX11_126 (d' := 0) (by decide) (Nat.le_of_ble_eq_true rfl) (c_X11_firstOfN (by have := t1_le (okR (w.1 1) a); omega) ?_)
    refine wr_i dX11_needTwoNails_22 rfl ?_
    exact kq h (by cases h1 : okR (w.1 1) a <;> cases h2 : okR (w.1 1) b <;> simp [ok2, t1, c2, h1, h2])
  · skip
    refine w_iconst 6 dX11_needTwoNails_5 rfl (v := nI 1) rfl ?_
    refine w_goto 22 dX11_needTwoNails_6 rfl ?_
    refine wr_i dX11_needTwoNails_22 rfl ?_
    exact kq h (by simp [ok2, t1, c2])

set_option maxRecDepth 4000 in
theorem c_X11_needThread {K : Option Value → AH → Prop} {A : AH} {w : WT} {s : Nat → Nat} (hC : CI w s A) {k : Int32} (h : K (some (.int (nI (t1 (okR (s 1) k))))) A) : Ct yX11_needThread mX11_needThread 1 dC gC [.ref 0, .int k] A K := by
  refine Ct.of [some (.ref 0), some (.int k)] rfl rfl rfl (Nat.le_of_ble_eq_true rfl) ?_
  refine w_iload_n 1 dX11_needThread_0 rfl rfl ?_
  refine w_iflt 19 4 dX11_needThread_1 rfl rfl (fun c1 => ?_) (fun c1 => ?_)
  · skip
    refine w_iconst 20 dX11_needThread_19 rfl (v := nI 1) rfl ?_
    refine wr_i dX11_needThread_20 rfl ?_
    exact kq h (by clear h; simp only [t1, okR, decide_eq_true_eq, Int32.lt_iff_toInt_lt, Int32.le_iff_toInt_le] at *; split <;> first | rfl | (exfalso; omega))
  · skip
    refine w_iload_n 5 dX11_needThread_4 rfl rfl ?_
    refine w_aload_n 6 dX11_needThread_5 rfl rfl ?_
    refine w_getr 9 dX11_needThread_6 rfl faX11_26 rfl rfl rfl (r := .ref 43) rfl ?_
    refine w_inv0 12 dX11_needThread_9 rfl mlX11_164 rfl rfl (d' := 0) (by decide) (Nat.le_of_ble_eq_true rfl) (c_X7_threads hC.2.2.1 ?_)
    refine w_icge 19 15 dX11_needThread_12 rfl rfl (fun c12 => ?_) (fun c12 => ?_)
    · skip
      refine w_iconst 20 dX11_needThread_19 rfl (v := nI 1) rfl ?_
      refine wr_i dX11_needThread_20 rfl ?_
      exact kq h (by clear h; simp only [t1, okR, decide_eq_true_eq, Int32.lt_iff_toInt_lt, Int32.le_iff_toInt_le] at *; split <;> first | rfl | (exfalso; omega))
    · skip
      refine w_iconst 16 dX11_needThread_15 rfl (v := nI 0) rfl ?_
      refine w_goto 20 dX11_needThread_16 rfl ?_
      refine wr_i dX11_needThread_20 rfl ?_
      exact kq h (by clear h; simp only [t1, okR, decide_eq_true_eq, Int32.lt_iff_toInt_lt, Int32.le_iff_toInt_le] at *; split <;> first | rfl | (exfalso; omega))

set_option maxRecDepth 4000 in
theorem c_X11_goBehind {K : Option Value → AH → Prop} {A : AH} {w : WT} {s : Nat → Nat} (hC : CI w s A) {n : Nat} (hn : n ≤ 60) (h : ∀ A', BR (w.1 1) (e1W w s) (e2W w s) (esW w s n) A' → Qi A A' → K none A') : Ct yX11_goBehind mX11_goBehind 4 dC gC [.ref 0, .int (nI n)] A K := by
  refine Ct.of [some (.ref 0), some (.int (nI n))] rfl rfl rfl (Nat.le_of_ble_eq_true rfl) ?_
  obtain ⟨i1, i2, i3, i4, i5⟩ := id hC
  refine w_aload_n 1 dX11_goBehind_0 rfl rfl ?_
  refine w_getr 4 dX11_goBehind_1 rfl faX11_40 rfl rfl rfl (r := .ref 48) rfl ?_
  refine w_aload_n 5 dX11_goBehind_4 rfl rfl ?_
  refine w_getr 8 dX11_goBehind_5 rfl faX11_26 rfl rfl rfl (r := .ref 43) rfl ?_
  refine w_aload_n 9 dX11_goBehind_8 rfl rfl ?_
  refine w_getr 12 dX11_goBehind_9 rfl faX11_19 rfl rfl rfl (r := .ref 26) rfl ?_
  refine w_inv2 15 dX11_goBehind_12 rfl mlX11_358 rfl rfl (d' := 2) (by decide) (Nat.le_of_ble_eq_true rfl) (c_X0_arrange i3 i4 i1 i2.2.2.1 i5.2 (fun A1 b1 b2 b3 b4 hO1 => ?_))
  refine w_aload_n 16 dX11_goBehind_15 rfl rfl ?_
  refine w_getr 19 dX11_goBehind_16 rfl faX11_40 rfl rfl rfl (r := .ref 48) rfl ?_
  refine w_aload_n 20 dX11_goBehind_19 rfl rfl ?_
  refine w_getr 23 dX11_goBehind_20 rfl faX11_26 rfl rfl rfl (r := .ref 43) rfl ?_
  refine w_iload_n 24 dX11_goBehind_23 rfl rfl ?_
  refine w_inv2 27 dX11_goBehind_24 rfl mlX11_202 rfl rfl (d' := 3) (by decide) (Nat.le_of_ble_eq_true rfl) (c_X0_strengthen (i3.cong (hO1 44 (by decide)).1) i4 hn (by rw [(hO1 52 (by decide)).1]; exact i5.1) (fun A2 d1 d2 d3 hO2 => ?_))
  refine wr_v dX11_goBehind_27 rfl ?_
  have hO : OffL scI A A2 := (hO1.mono (by intro x hx; simp at hx ⊢; omega)).tr (hO2.mono (by intro x hx; simp at hx ⊢; omega))
  have h51 : ∀ k, k < 5 → A2.1 51 (8 + k) = nI (tbz w 5 k 2) := fun k hk => by rw [d2 _ (by omega)]; exact b3 k hk
  have hos : RepOS (esW w s n) A2 := fun m hm => by
    rw [(hO2 53 (by decide)).1, b4 m hm]
    congr 1
  have hts : RepTS (esW w s n) A2 := fun m hm => by
    rw [d3 m hm]
    congr 1
  refine h A2 ⟨?_, i2.2.2.1.1, fun i hi => ?_, okW i4 i2.2.2.1 n, hts, hos⟩ ⟨hO, ?_⟩
  · rw [(hO2 48 (by decide)).1]; exact b1
  · rw [(hO2 49 (by decide)).1, (hO2 50 (by decide)).1]
    refine ⟨(b2 i hi).1, (b2 i hi).2, ?_⟩
    by_cases h8 : i < 8
    · rw [d1 i h8]; simp [esW, esT, h8]
    · have := h51 (i - 8) (by omega)
      rw [show 8 + (i - 8) = i by omega] at this
      rw [this]; simp [esW, h8]
  · exact ⟨by rw [hts 0 (by decide)]; rfl, by rw [hos 0 (by decide)]; rfl⟩
