/-! ===== the reference: a web as told ===== -/
abbrev dN : Nat × Nat := (100, 11)
def brM (w : WT) : Nat := maskTo (fun k => decide (w.2 7 k 2 = 1)) (w.1 7)
def RepM (w : WT) (A : AH) : Prop := (A.1 111 0 = (if w.1 0 = 0 then -1 else nI (w.2 0 0 0)) ∧ A.1 111 1 = nI (tbz w 0 0 1) ∧ A.1 111 9 = nI (brM w)) ∧ (∀ j, 1 ≤ j → j < 8 → A.1 111 (j + 1) = nI (w.1 j)) ∧
  (∀ t, t < w.1 2 → A.1 112 t = nI (w.2 2 t 0) ∧ A.1 113 t = nI (w.2 2 t 1) ∧ A.1 114 t = nI (w.2 2 t 2) ∧ A.1 115 t = nI (w.2 2 t 3) ∧ A.1 116 t = nI (w.2 2 t 4)) ∧ (∀ t, t < 7 → A.1 117 t = nI (foesTo w t (w.1 3))) ∧
  (∀ k, k < w.1 4 → A.1 118 k = nI (w.2 4 k 0) ∧ A.1 119 k = nI (w.2 4 k 1) ∧ A.1 120 k = nI (w.2 4 k 2)) ∧ (∀ k, k < w.1 5 → A.1 121 k = nI (w.2 5 k 0) ∧ A.1 122 k = nI (w.2 5 k 1) ∧ A.1 123 k = nI (w.2 5 k 2) ∧ A.1 124 k = nI (w.2 5 k 3)) ∧
  (∀ k, k < w.1 3 → A.1 125 k = nI (w.2 3 k 0) ∧ A.1 126 k = nI (w.2 3 k 1)) ∧ (∀ k, k < w.1 6 → A.1 127 k = nI (w.2 6 k 0)) ∧ ∀ k, k < w.1 7 → A.1 128 k = nI (w.2 7 k 0) ∧ A.1 129 k = nI (w.2 7 k 1)
theorem RepM.cong {w : WT} {A A' : AH} (h : RepM w A) (hx : ∀ x, 111 ≤ x → x ≤ 129 → A'.1 x = A.1 x) : RepM w A' := by
  unfold RepM
  rw [hx 111 (by decide) (by decide), hx 112 (by decide) (by decide), hx 113 (by decide) (by decide), hx 114 (by decide) (by decide), hx 115 (by decide) (by decide), hx 116 (by decide) (by decide), hx 117 (by decide) (by decide), hx 118 (by decide) (by decide), hx 119 (by decide) (by decide), hx 120 (by decide) (by decide), hx 121 (by decide) (by decide), hx 122 (by decide) (by decide), hx 123 (by decide) (by decide), hx 124 (by decide) (by decide), hx 125 (by decide) (by decide), hx 126 (by decide) (by decide), hx 127 (by decide) (by decide), hx 128 (by decide) (by decide), hx 129 (by decide) (by decide)]
  exact h
/-- the row of numbers v stands for the state s -/
def VR (w : WT) (s : Nat → Nat) (v : Nat → Int32) : Prop := v 24 = nI (s 1) ∧ v 25 = nI (s 0) ∧ s 2 < 2 ^ s 1 ∧ ∀ t, t < s 1 → v (8 + t) = nI (cz s t 5) ∧ v (16 + t) = b2i ((s 2).testBit t) ∧
  ((v t = -1 ∧ t < w.1 2 ∧ ∀ c, c < 5 → cz s t c = w.2 2 t c) ∨ ∃ k, k < w.1 5 ∧ v t = nI k ∧ w.1 2 ≤ t ∧ cz s t 0 = 0 ∧ cz s t 1 = w.2 5 k 0 ∧ cz s t 2 = w.2 5 k 1 ∧ cz s t 3 = w.2 5 k 2 ∧ cz s t 4 = 0)
abbrev scM : List Nat := [100, 103, 106, 107, 108, 109, 110]
abbrev kpM : List Nat := [6, 12, 20, 21]
/-- what a question may change of the reference -/
def QM (A A' : AH) : Prop := OffL scM A A' ∧ ∀ k, k ∈ kpM → A'.1 100 k = A.1 100 k
theorem QM.rf {A : AH} : QM A A := ⟨OffL.rf, fun _ _ => rfl⟩
theorem QM.tr {A B C : AH} (h : QM A B) (h2 : QM B C) : QM A C := ⟨h.1.tr h2.1, fun k hk => (h2.2 k hk).trans (h.2 k hk)⟩
theorem QM.f {A B : AH} (h : QM A B) {k : Nat} (hk : k ∉ kpM) (x : Int32) : QM A (upd2 B.1 100 k x, B.2) := ⟨h.1.upd (by decide) _ _, fun j hj => (upd2_off (fun e => hk (by rw [← e]; exact hj))).trans (h.2 j hj)⟩
theorem QM.a {A B : AH} (h : QM A B) {o : Nat} (ho : o ∈ scM) (h1 : o ≠ 100) (k : Nat) (x : Int32) : QM A (upd2 B.1 o k x, B.2) := ⟨h.1.upd ho _ _, fun j hj => by dsimp only; rw [upd2_ne (Ne.symm h1)]; exact h.2 j hj⟩
theorem QM.j {A B : AH} (h : QM A B) (k : Nat) (x : Int64) : QM A (B.1, upd2 B.2 100 k x) := ⟨h.1.updj (by decide) _ _, h.2⟩
theorem RepM.q {w : WT} {A A' : AH} (h : RepM w A) (q : QM A A') : RepM w A' := h.cong (fun x a b => (q.1 x (by simp; omega)).1)
/-- the reference has a web -/
def MC (w : WT) (s : Nat → Nat) (A : AH) : Prop := RepM w A ∧ VR w s (A.1 102) ∧ (∃ nm, PI w nm) ∧ okS s ∧ 0 < w.1 1 ∧ 0 < w.1 0
theorem MC.q {w : WT} {s : Nat → Nat} {A A' : AH} (h : MC w s A) (q : QM A A') : MC w s A' := ⟨h.1.q q, by rw [(q.1 102 (by decide)).1]; exact h.2.1, h.2.2⟩
theorem MC.rooms {w : WT} {s : Nat → Nat} {A : AH} (h : MC w s A) : w.1 0 ≤ 1 ∧ w.1 1 ≤ 7 ∧ w.1 2 ≤ 7 ∧ w.1 3 ≤ 8 ∧ w.1 4 ≤ 4 ∧ w.1 5 ≤ 5 ∧ w.1 6 ≤ 5 ∧ w.1 7 ≤ 6 := by
  obtain ⟨nm, hP⟩ := h.2.2.1
  exact hP.rooms
theorem MC.okT {w : WT} {s : Nat → Nat} {A : AH} (h : MC w s A) : okT w := by
  obtain ⟨nm, hP⟩ := h.2.2.1
  exact hP.okT
theorem MC.ent {w : WT} {s : Nat → Nat} {A : AH} (h : MC w s A) {J i : Nat} (hJ : J < 8) (hi : i < w.1 J) : eOK (w.1 1) (w.1 2) J (w.2 J i) := by
  obtain ⟨nm, hP⟩ := h.2.2.1
  exact (hP.2.2.1 J i hJ hi).1
/-- the row that is worked with -/
def XR (w : WT) (s : Nat → Nat) (A : AH) : Prop := VR w s (A.1 103) ∧ okS s
/-- edges laid -/
def RY (ne : Nat) (f1 f2 fs : Nat → Nat) (A : AH) : Prop := A.1 100 25 = nI ne ∧ ne ≤ 13 ∧ ∀ i, i < ne → A.1 106 i = nI (f1 i) ∧ A.1 107 i = nI (f2 i) ∧ A.1 108 i = nI (fs i) ∧ f1 i < 7 ∧ f2 i < 7 ∧ fs i ≤ 99
set_option maxRecDepth 4000 in
theorem c_X13_refused {K : Option Value → AH → Prop} {A : AH} {r : Value} {x : Nat} (h : ∀ A', QM A A' → A'.1 100 1 = nI x → A'.1 100 2 = -1 → K (some (.int (-1))) A') : Ct yX13_refused mX13_refused 0 dM (GG (.ref 111) r) [.ref 100, .int (nI x)] A K := by
  refine Ct.of [some (.ref 100), some (.int (nI x))] rfl rfl rfl (Nat.le_of_ble_eq_true rfl) ?_
  refine w_aload_n 1 dX13_refused_0 rfl rfl ?_
  refine w_iload_n 2 dX13_refused_1 rfl rfl ?_
  refine w_puti 5 dX13_refused_2 rfl faX13_49 rfl rfl rfl rfl ?_
  refine w_aload_n 6 dX13_refused_5 rfl rfl ?_
  refine w_iconst 7 dX13_refused_6 rfl (v := (-1)) rfl ?_
  refine w_puti 10 dX13_refused_7 rfl faX13_9 rfl rfl rfl rfl ?_
  refine w_iconst 11 dX13_refused_10 rfl (v := (-1)) rfl ?_
  refine wr_i dX13_refused_11 rfl ?_
  exact h _ ((QM.rf.f (by decide) _).f (by decide) _) (by dsimp only; rw [upd2_off (by decide), upd2_at]) (by dsimp only; rw [upd2_at])

set_option maxRecDepth 4000 in
theorem c_X13_good {K : Option Value → AH → Prop} {A : AH} {r : Value} {x : Int32} (h : ∀ A', QM A A' → A'.1 100 1 = nI 0 → A'.1 100 2 = -1 → K (some (.int x)) A') : Ct yX13_good mX13_good 0 dM (GG (.ref 111) r) [.ref 100, .int x] A K := by
  refine Ct.of [some (.ref 100), some (.int x)] rfl rfl rfl (Nat.le_of_ble_eq_true rfl) ?_
  refine w_aload_n 1 dX13_good_0 rfl rfl ?_
  refine w_iconst 2 dX13_good_1 rfl (v := nI 0) rfl ?_
  refine w_puti 5 dX13_good_2 rfl faX13_49 rfl rfl rfl rfl ?_
  refine w_aload_n 6 dX13_good_5 rfl rfl ?_
  refine w_iconst 7 dX13_good_6 rfl (v := (-1)) rfl ?_
  refine w_puti 10 dX13_good_7 rfl faX13_9 rfl rfl rfl rfl ?_
  refine w_iload_n 11 dX13_good_10 rfl rfl ?_
  refine wr_i dX13_good_11 rfl ?_
  exact h _ ((QM.rf.f (by decide) _).f (by decide) _) (by dsimp only; rw [upd2_off (by decide), upd2_at]) (by dsimp only; rw [upd2_at])

set_option maxRecDepth 4000 in
theorem c_X13_lost {K : Option Value → AH → Prop} {A : AH} {r : Value} {x : Nat} {v : Int32} (h : ∀ A', QM A A' → A'.1 100 1 = nI x → A'.1 100 2 = -1 → K (some (.int v)) A') : Ct yX13_lost mX13_lost 1 dM (GG (.ref 111) r) [.ref 100, .int (nI x), .int v] A K := by
  refine Ct.of [some (.ref 100), some (.int (nI x)), some (.int v)] rfl rfl rfl (Nat.le_of_ble_eq_true rfl) ?_
  refine w_aload_n 1 dX13_lost_0 rfl rfl ?_
  refine w_iload_n 2 dX13_lost_1 rfl rfl ?_
  refine w_inv1 5 dX13_lost_2 rfl mlX13_52 rfl rfl (d' := 0) (by decide) (Nat.le_of_ble_eq_true rfl) (c_X13_refused (fun A1 h1 h2 h3 => ?_))
  refine w_pop 6 dX13_lost_5 rfl ?_
  refine w_iload_n 7 dX13_lost_6 rfl rfl ?_
  refine wr_i dX13_lost_7 rfl ?_
  exact h A1 h1 h2 h3

set_option maxRecDepth 4000 in
theorem c_X13_denied {K : Option Value → AH → Prop} {A : AH} {r : Value} {x : Nat} (h : ∀ A', QM A A' → A'.1 100 1 = nI x → A'.1 100 2 = -1 → K (some (.int (nI 0))) A') : Ct yX13_denied mX13_denied 1 dM (GG (.ref 111) r) [.ref 100, .int (nI x)] A K := by
  refine Ct.of [some (.ref 100), some (.int (nI x))] rfl rfl rfl (Nat.le_of_ble_eq_true rfl) ?_
  refine w_aload_n 1 dX13_denied_0 rfl rfl ?_
  refine w_iload_n 2 dX13_denied_1 rfl rfl ?_
  refine w_inv1 5 dX13_denied_2 rfl mlX13_52 rfl rfl (d' := 0) (by decide) (Nat.le_of_ble_eq_true rfl) (c_X13_refused (fun A1 h1 h2 h3 => ?_))
  refine w_pop 6 dX13_denied_5 rfl ?_
  refine w_iconst 7 dX13_denied_6 rfl (v := nI 0) rfl ?_
  refine wr_z dX13_denied_7 rfl (by first | rfl | exact nb_b2i _) ?_
  exact h A1 h1 h2 h3

set_option maxRecDepth 4000 in
theorem c_X13_refusedN {K : Option Value → AH → Prop} {A : AH} {r : Value} {x : Nat} (h : ∀ A', QM A A' → A'.1 100 1 = nI x → A'.1 100 2 = -1 → K (some (.int (-1))) A') : Ct yX13_refused mX13_refused 0 dN (GG .null r) [.ref 100, .int (nI x)] A K := by
  refine Ct.of [some (.ref 100), some (.int (nI x))] rfl rfl rfl (Nat.le_of_ble_eq_true rfl) ?_
  refine w_aload_n 1 dX13_refused_0 rfl rfl ?_
  refine w_iload_n 2 dX13_refused_1 rfl rfl ?_
  refine w_puti 5 dX13_refused_2 rfl faX13_49 rfl rfl rfl rfl ?_
  refine w_aload_n 6 dX13_refused_5 rfl rfl ?_
  refine w_iconst 7 dX13_refused_6 rfl (v := (-1)) rfl ?_
  refine w_puti 10 dX13_refused_7 rfl faX13_9 rfl rfl rfl rfl ?_
  refine w_iconst 11 dX13_refused_10 rfl (v := (-1)) rfl ?_
  refine wr_i dX13_refused_11 rfl ?_
  exact h _ ((QM.rf.f (by decide) _).f (by decide) _) (by dsimp only; rw [upd2_off (by decide), upd2_at]) (by dsimp only; rw [upd2_at])

set_option maxRecDepth 4000 in
theorem c_X13_goodN {K : Option Value → AH → Prop} {A : AH} {r : Value} {x : Int32} (h : ∀ A', QM A A' → A'.1 100 1 = nI 0 → A'.1 100 2 = -1 → K (some (.int x)) A') : Ct yX13_good mX13_good 0 dN (GG .null r) [.ref 100, .int x] A K := by
  refine Ct.of [some (.ref 100), some (.int x)] rfl rfl rfl (Nat.le_of_ble_eq_true rfl) ?_
  refine w_aload_n 1 dX13_good_0 rfl rfl ?_
  refine w_iconst 2 dX13_good_1 rfl (v := nI 0) rfl ?_
  refine w_puti 5 dX13_good_2 rfl faX13_49 rfl rfl rfl rfl ?_
  refine w_aload_n 6 dX13_good_5 rfl rfl ?_
  refine w_iconst 7 dX13_good_6 rfl (v := (-1)) rfl ?_
  refine w_puti 10 dX13_good_7 rfl faX13_9 rfl rfl rfl rfl ?_
  refine w_iload_n 11 dX13_good_10 rfl rfl ?_
  refine wr_i dX13_good_11 rfl ?_
  exact h _ ((QM.rf.f (by decide) _).f (by decide) _) (by dsimp only; rw [upd2_off (by decide), upd2_at]) (by dsimp only; rw [upd2_at])

set_option maxRecDepth 4000 in
theorem c_X13_lostN {K : Option Value → AH → Prop} {A : AH} {r : Value} {x : Nat} {v : Int32} (h : ∀ A', QM A A' → A'.1 100 1 = nI x → A'.1 100 2 = -1 → K (some (.int v)) A') : Ct yX13_lost mX13_lost 1 dN (GG .null r) [.ref 100, .int (nI x), .int v] A K := by
  refine Ct.of [some (.ref 100), some (.int (nI x)), some (.int v)] rfl rfl rfl (Nat.le_of_ble_eq_true rfl) ?_
  refine w_aload_n 1 dX13_lost_0 rfl rfl ?_
  refine w_iload_n 2 dX13_lost_1 rfl rfl ?_
  refine w_inv1 5 dX13_lost_2 rfl mlX13_52 rfl rfl (d' := 0) (by decide) (Nat.le_of_ble_eq_true rfl) (c_X13_refusedN (fun A1 h1 h2 h3 => ?_))
  refine w_pop 6 dX13_lost_5 rfl ?_
  refine w_iload_n 7 dX13_lost_6 rfl rfl ?_
  refine wr_i dX13_lost_7 rfl ?_
  exact h A1 h1 h2 h3

set_option maxRecDepth 4000 in
theorem c_X13_deniedN {K : Option Value → AH → Prop} {A : AH} {r : Value} {x : Nat} (h : ∀ A', QM A A' → A'.1 100 1 = nI x → A'.1 100 2 = -1 → K (some (.int (nI 0))) A') : Ct yX13_denied mX13_denied 1 dN (GG .null r) [.ref 100, .int (nI x)] A K := by
  refine Ct.of [some (.ref 100), some (.int (nI x))] rfl rfl rfl (Nat.le_of_ble_eq_true rfl) ?_
  refine w_aload_n 1 dX13_denied_0 rfl rfl ?_
  refine w_iload_n 2 dX13_denied_1 rfl rfl ?_
  refine w_inv1 5 dX13_denied_2 rfl mlX13_52 rfl rfl (d' := 0) (by decide) (Nat.le_of_ble_eq_true rfl) (c_X13_refusedN (fun A1 h1 h2 h3 => ?_))
  refine w_pop 6 dX13_denied_5 rfl ?_
  refine w_iconst 7 dX13_denied_6 rfl (v := nI 0) rfl ?_
  refine wr_z dX13_denied_7 rfl (by first | rfl | exact nb_b2i _) ?_
  exact h A1 h1 h2 h3

set_option maxRecDepth 4000 in
theorem c_X13_granted {K : Option Value → AH → Prop} {A : AH} {r : Value} (h : ∀ A', QM A A' → A'.1 100 1 = nI 0 → A'.1 100 2 = -1 → K (some (.int (nI 1))) A') : Ct yX13_granted mX13_granted 1 dM (GG (.ref 111) r) [.ref 100] A K := by
  refine Ct.of [some (.ref 100)] rfl rfl rfl (Nat.le_of_ble_eq_true rfl) ?_
  refine w_aload_n 1 dX13_granted_0 rfl rfl ?_
  refine w_iconst 2 dX13_granted_1 rfl (v := nI 0) rfl ?_
  refine w_inv1 5 dX13_granted_2 rfl mlX13_56 rfl rfl (d' := 0) (by decide) (Nat.le_of_ble_eq_true rfl) (c_X13_good (fun A1 h1 h2 h3 => ?_))
  refine w_pop 6 dX13_granted_5 rfl ?_
  refine w_iconst 7 dX13_granted_6 rfl (v := nI 1) rfl ?_
  refine wr_z dX13_granted_7 rfl (by first | rfl | exact nb_b2i _) ?_
  exact h A1 h1 h2 h3

set_option maxRecDepth 4000 in
theorem c_X13_isNail {K : Option Value → AH → Prop} {A : AH} {r : Value} {w : WT} {s : Nat → Nat} (hC : MC w s A) {k : Int32} (h : K (some (.int (b2i (okR (w.1 1) k)))) A) : Ct yX13_isNail mX13_isNail 0 dM (GG (.ref 111) r) [.ref 100, .int k] A K := by
  refine Ct.of [some (.ref 100), some (.int k)] rfl rfl rfl (Nat.le_of_ble_eq_true rfl) ?_
  refine w_aload_n 1 dX13_isNail_0 rfl rfl ?_
  refine w_getr 4 dX13_isNail_1 rfl faX13_343 rfl rfl rfl (r := .ref 111) rfl ?_
  refine w_nR 7 dX13_isNail_4 rfl ?_
  refine w_iload_n 8 dX13_isNail_7 rfl rfl ?_
  refine w_iflt 26 11 dX13_isNail_8 rfl rfl (fun c8 => ?_) (fun c8 => ?_)
  · skip
    refine w_iconst 27 dX13_isNail_26 rfl (v := nI 0) rfl ?_
    refine wr_z dX13_isNail_27 rfl (by first | rfl | exact nb_b2i _) ?_
    exact kq h (by clear h; simp only [b2i, okR, Int32.lt_iff_toInt_lt, Int32.le_iff_toInt_le, decide_eq_true_eq] at *; (repeat' split) <;> first | rfl | (exfalso; omega) | omega)
  · skip
    refine w_iload_n 12 dX13_isNail_11 rfl rfl ?_
    refine w_aload_n 13 dX13_isNail_12 rfl rfl ?_
    refine w_getr 16 dX13_isNail_13 rfl faX13_343 rfl rfl rfl (r := .ref 111) rfl ?_
    refine w_getiv 19 dX13_isNail_16 rfl faX13_194 rfl rfl rfl (hC.1.2.1 1 (by decide) (by decide)) ?_
    refine w_icge 26 22 dX13_isNail_19 rfl rfl (fun c19 => ?_) (fun c19 => ?_)
    · skip
      refine w_iconst 27 dX13_isNail_26 rfl (v := nI 0) rfl ?_
      refine wr_z dX13_isNail_27 rfl (by first | rfl | exact nb_b2i _) ?_
      exact kq h (by clear h; simp only [b2i, okR, Int32.lt_iff_toInt_lt, Int32.le_iff_toInt_le, decide_eq_true_eq] at *; (repeat' split) <;> first | rfl | (exfalso; omega) | omega)
    · skip
      refine w_iconst 23 dX13_isNail_22 rfl (v := nI 1) rfl ?_
      refine w_goto 27 dX13_isNail_23 rfl ?_
      refine wr_z dX13_isNail_27 rfl (by first | rfl | exact nb_b2i _) ?_
      exact kq h (by clear h; simp only [b2i, okR, Int32.lt_iff_toInt_lt, Int32.le_iff_toInt_le, decide_eq_true_eq] at *; (repeat' split) <;> first | rfl | (exfalso; omega) | omega)

set_option maxRecDepth 4000 in
theorem c_X13_isThread {K : Option Value → AH → Prop} {A : AH} {r : Value} {w : WT} {s : Nat → Nat} (hC : MC w s A) {k : Int32} (h : K (some (.int (b2i (okR (s 1) k)))) A) : Ct yX13_isThread mX13_isThread 0 dM (GG (.ref 111) r) [.ref 100, .int k] A K := by
  refine Ct.of [some (.ref 100), some (.int k)] rfl rfl rfl (Nat.le_of_ble_eq_true rfl) ?_
  refine w_aload_n 1 dX13_isThread_0 rfl rfl ?_
  refine w_getr 4 dX13_isThread_1 rfl faX13_343 rfl rfl rfl (r := .ref 111) rfl ?_
  refine w_nR 7 dX13_isThread_4 rfl ?_
  refine w_iload_n 8 dX13_isThread_7 rfl rfl ?_
  refine w_iflt 26 11 dX13_isThread_8 rfl rfl (fun c8 => ?_) (fun c8 => ?_)
  · skip
    refine w_iconst 27 dX13_isThread_26 rfl (v := nI 0) rfl ?_
    refine wr_z dX13_isThread_27 rfl (by first | rfl | exact nb_b2i _) ?_
    exact kq h (by clear h; simp only [b2i, okR, Int32.lt_iff_toInt_lt, Int32.le_iff_toInt_le, decide_eq_true_eq] at *; (repeat' split) <;> first | rfl | (exfalso; omega) | omega)
  · skip
    refine w_iload_n 12 dX13_isThread_11 rfl rfl ?_
    refine w_aload_n 13 dX13_isThread_12 rfl rfl ?_
    refine w_getr 16 dX13_isThread_13 rfl faX13_17 rfl rfl rfl (r := .ref 102) rfl ?_
    refine w_bipush 18 dX13_isThread_16 rfl (v := nI 24) rfl ?_
    refine w_ialdv 19 dX13_isThread_18 rfl rfl rfl (by decide) (by omega) hC.2.1.1 ?_
    refine w_icge 26 22 dX13_isThread_19 rfl rfl (fun c19 => ?_) (fun c19 => ?_)
    · skip
      refine w_iconst 27 dX13_isThread_26 rfl (v := nI 0) rfl ?_
      refine wr_z dX13_isThread_27 rfl (by first | rfl | exact nb_b2i _) ?_
      exact kq h (by clear h; simp only [b2i, okR, Int32.lt_iff_toInt_lt, Int32.le_iff_toInt_le, decide_eq_true_eq] at *; (repeat' split) <;> first | rfl | (exfalso; omega) | omega)
    · skip
      refine w_iconst 23 dX13_isThread_22 rfl (v := nI 1) rfl ?_
      refine w_goto 27 dX13_isThread_23 rfl ?_
      refine wr_z dX13_isThread_27 rfl (by first | rfl | exact nb_b2i _) ?_
      exact kq h (by clear h; simp only [b2i, okR, Int32.lt_iff_toInt_lt, Int32.le_iff_toInt_le, decide_eq_true_eq] at *; (repeat' split) <;> first | rfl | (exfalso; omega) | omega)

set_option maxRecDepth 4000 in
theorem c_X13_isLoad {K : Option Value → AH → Prop} {A : AH} {r : Value} {w : WT} {s : Nat → Nat} (hC : MC w s A) {k : Int32} (h : K (some (.int (b2i (okR (w.1 4) k)))) A) : Ct yX13_isLoad mX13_isLoad 0 dM (GG (.ref 111) r) [.ref 100, .int k] A K := by
  refine Ct.of [some (.ref 100), some (.int k)] rfl rfl rfl (Nat.le_of_ble_eq_true rfl) ?_
  refine w_aload_n 1 dX13_isLoad_0 rfl rfl ?_
  refine w_getr 4 dX13_isLoad_1 rfl faX13_343 rfl rfl rfl (r := .ref 111) rfl ?_
  refine w_nR 7 dX13_isLoad_4 rfl ?_
  refine w_iload_n 8 dX13_isLoad_7 rfl rfl ?_
  refine w_iflt 26 11 dX13_isLoad_8 rfl rfl (fun c8 => ?_) (fun c8 => ?_)
  · skip
    refine w_iconst 27 dX13_isLoad_26 rfl (v := nI 0) rfl ?_
    refine wr_z dX13_isLoad_27 rfl (by first | rfl | exact nb_b2i _) ?_
    exact kq h (by clear h; simp only [b2i, okR, Int32.lt_iff_toInt_lt, Int32.le_iff_toInt_le, decide_eq_true_eq] at *; (repeat' split) <;> first | rfl | (exfalso; omega) | omega)
  · skip
    refine w_iload_n 12 dX13_isLoad_11 rfl rfl ?_
    refine w_aload_n 13 dX13_isLoad_12 rfl rfl ?_
    refine w_getr 16 dX13_isLoad_13 rfl faX13_343 rfl rfl rfl (r := .ref 111) rfl ?_
    refine w_getiv 19 dX13_isLoad_16 rfl faX13_287 rfl rfl rfl (hC.1.2.1 4 (by decide) (by decide)) ?_
    refine w_icge 26 22 dX13_isLoad_19 rfl rfl (fun c19 => ?_) (fun c19 => ?_)
    · skip
      refine w_iconst 27 dX13_isLoad_26 rfl (v := nI 0) rfl ?_
      refine wr_z dX13_isLoad_27 rfl (by first | rfl | exact nb_b2i _) ?_
      exact kq h (by clear h; simp only [b2i, okR, Int32.lt_iff_toInt_lt, Int32.le_iff_toInt_le, decide_eq_true_eq] at *; (repeat' split) <;> first | rfl | (exfalso; omega) | omega)
    · skip
      refine w_iconst 23 dX13_isLoad_22 rfl (v := nI 1) rfl ?_
      refine w_goto 27 dX13_isLoad_23 rfl ?_
      refine wr_z dX13_isLoad_27 rfl (by first | rfl | exact nb_b2i _) ?_
      exact kq h (by clear h; simp only [b2i, okR, Int32.lt_iff_toInt_lt, Int32.le_iff_toInt_le, decide_eq_true_eq] at *; (repeat' split) <;> first | rfl | (exfalso; omega) | omega)

set_option maxRecDepth 4000 in
theorem c_X13_areTwo {K : Option Value → AH → Prop} {A : AH} {r : Value} {w : WT} {s : Nat → Nat} (hC : MC w s A) {a b : Int32} (h : K (some (.int (b2i (ok2 w a b)))) A) : Ct yX13_areTwo mX13_areTwo 1 dM (GG (.ref 111) r) [.ref 100, .int a, .int b] A K := by
  refine Ct.of [some (.ref 100), some (.int a), some (.int b)] rfl rfl rfl (Nat.le_of_ble_eq_true rfl) ?_
  refine w_aload_n 1 dX13_areTwo_0 rfl rfl ?_
  refine w_iload_n 2 dX13_areTwo_1 rfl rfl ?_
  refine w_inv1 5 dX13_areTwo_2 rfl mlX13_351 rfl rfl (d' := 0) (by decide) (Nat.le_of_ble_eq_true rfl) (c_X13_isNail hC ?_)
  refine w_ifeqB 25 8 dX13_areTwo_5 rfl rfl (fun c5 => ?_) (fun c5 => ?_)
  · skip
    refine w_iconst 26 dX13_areTwo_25 rfl (v := nI 0) rfl ?_
    refine wr_z dX13_areTwo_26 rfl (by first | rfl | exact nb_b2i _) ?_
    exact kq h (by rw [ok2, c5]; rfl)
  · skip
    refine w_aload_n 9 dX13_areTwo_8 rfl rfl ?_
    refine w_iload_n 10 dX13_areTwo_9 rfl rfl ?_
    refine w_inv1 13 dX13_areTwo_10 rfl mlX13_351 rfl rfl (d' := 0) (by decide) (Nat.le_of_ble_eq_true rfl) (c_X13_isNail hC ?_)
    refine w_ifeqB 25 16 dX13_areTwo_13 rfl rfl (fun c13 => ?_) (fun c13 => ?_)
    · skip
      refine w_iconst 26 dX13_areTwo_25 rfl (v := nI 0) rfl ?_
      refine wr_z dX13_areTwo_26 rfl (by first | rfl | exact nb_b2i _) ?_
      exact kq h (by rw [ok2, c5, c13]; rfl)
    · skip
      refine w_iload_n 17 dX13_areTwo_16 rfl rfl ?_
      refine w_iload_n 18 dX13_areTwo_17 rfl rfl ?_
      refine w_iceq 25 21 dX13_areTwo_18 rfl rfl (fun c18 => ?_) (fun c18 => ?_)
      · skip
        refine w_iconst 26 dX13_areTwo_25 rfl (v := nI 0) rfl ?_
        refine wr_z dX13_areTwo_26 rfl (by first | rfl | exact nb_b2i _) ?_
        exact kq h (by rw [ok2, c5, c13, decide_eq_false (fun z => z c18)]; rfl)
      · skip
        refine w_iconst 22 dX13_areTwo_21 rfl (v := nI 1) rfl ?_
        refine w_goto 26 dX13_areTwo_22 rfl ?_
        refine wr_z dX13_areTwo_26 rfl (by first | rfl | exact nb_b2i _) ?_
        exact kq h (by rw [ok2, c5, c13, decide_eq_true c18]; rfl)

set_option maxRecDepth 4000 in
theorem c_X13_isNailN {K : Option Value → AH → Prop} {A : AH} {r : Value} {k : Int32} (h : K (some (.int (b2i false))) A) : Ct yX13_isNail mX13_isNail 0 dN (GG .null r) [.ref 100, .int k] A K := by
  refine Ct.of [some (.ref 100), some (.int k)] rfl rfl rfl (Nat.le_of_ble_eq_true rfl) ?_
  refine w_aload_n 1 dX13_isNail_0 rfl rfl ?_
  refine w_getr 4 dX13_isNail_1 rfl faX13_343 rfl rfl rfl (r := .null) rfl ?_
  refine w_nN 26 dX13_isNail_4 rfl ?_
  refine w_iconst 27 dX13_isNail_26 rfl (v := nI 0) rfl ?_
  refine wr_z dX13_isNail_27 rfl (by first | rfl | exact nb_b2i _) ?_
  exact kq h rfl

set_option maxRecDepth 4000 in
theorem c_X13_isThreadN {K : Option Value → AH → Prop} {A : AH} {r : Value} {k : Int32} (h : K (some (.int (b2i false))) A) : Ct yX13_isThread mX13_isThread 0 dN (GG .null r) [.ref 100, .int k] A K := by
  refine Ct.of [some (.ref 100), some (.int k)] rfl rfl rfl (Nat.le_of_ble_eq_true rfl) ?_
  refine w_aload_n 1 dX13_isThread_0 rfl rfl ?_
  refine w_getr 4 dX13_isThread_1 rfl faX13_343 rfl rfl rfl (r := .null) rfl ?_
  refine w_nN 26 dX13_isThread_4 rfl ?_
  refine w_iconst 27 dX13_isThread_26 rfl (v := nI 0) rfl ?_
  refine wr_z dX13_isThread_27 rfl (by first | rfl | exact nb_b2i _) ?_
  exact kq h rfl

set_option maxRecDepth 4000 in
theorem c_X13_isLoadN {K : Option Value → AH → Prop} {A : AH} {r : Value} {k : Int32} (h : K (some (.int (b2i false))) A) : Ct yX13_isLoad mX13_isLoad 0 dN (GG .null r) [.ref 100, .int k] A K := by
  refine Ct.of [some (.ref 100), some (.int k)] rfl rfl rfl (Nat.le_of_ble_eq_true rfl) ?_
  refine w_aload_n 1 dX13_isLoad_0 rfl rfl ?_
  refine w_getr 4 dX13_isLoad_1 rfl faX13_343 rfl rfl rfl (r := .null) rfl ?_
  refine w_nN 26 dX13_isLoad_4 rfl ?_
  refine w_iconst 27 dX13_isLoad_26 rfl (v := nI 0) rfl ?_
  refine wr_z dX13_isLoad_27 rfl (by first | rfl | exact nb_b2i _) ?_
  exact kq h rfl

set_option maxRecDepth 4000 in
theorem c_X13_areTwoN {K : Option Value → AH → Prop} {A : AH} {r : Value} {a b : Int32} (h : K (some (.int (b2i false))) A) : Ct yX13_areTwo mX13_areTwo 1 dN (GG .null r) [.ref 100, .int a, .int b] A K := by
  refine Ct.of [some (.ref 100), some (.int a), some (.int b)] rfl rfl rfl (Nat.le_of_ble_eq_true rfl) ?_
  refine w_aload_n 1 dX13_areTwo_0 rfl rfl ?_
  refine w_iload_n 2 dX13_areTwo_1 rfl rfl ?_
  refine w_inv1 5 dX13_areTwo_2 rfl mlX13_351 rfl rfl (d' := 0) (by decide) (Nat.le_of_ble_eq_true rfl) (c_X13_isNailN ?_)
  refine w_ifeqB 25 8 dX13_areTwo_5 rfl rfl (fun _ => ?_) (fun cc => by cases cc)
  refine w_iconst 26 dX13_areTwo_25 rfl (v := nI 0) rfl ?_
  refine wr_z dX13_areTwo_26 rfl (by first | rfl | exact nb_b2i _) ?_
  exact kq h rfl

set_option maxRecDepth 4000 in
theorem c_X13_refusesYears {K : Option Value → AH → Prop} {A : AH} {r : Value} {b : Bool} {n : Int32} (h : K (some (.int (nI (tY b n)))) A) : Ct yX13_refusesYears mX13_refusesYears 1 dM (GG (.ref 111) r) [.ref 100, .int (b2i b), .int n] A K := by
  refine Ct.of [some (.ref 100), some (.int (b2i b)), some (.int n)] rfl rfl rfl (Nat.le_of_ble_eq_true rfl) ?_
  refine w_iload_n 1 dX13_refusesYears_0 rfl rfl ?_
  refine w_ifneB 8 4 dX13_refusesYears_1 rfl rfl (fun c1 => ?_) (fun c1 => ?_)
  · skip
    refine w_iload_n 9 dX13_refusesYears_8 rfl rfl ?_
    refine w_iconst 10 dX13_refusesYears_9 rfl (v := nI 0) rfl ?_
    refine w_bipush 12 dX13_refusesYears_10 rfl (v := nI 60) rfl ?_
    refine w_invs3 15 dX13_refusesYears_12 rfl slX13_121 (d' := 0) (by decide) (Nat.le_of_ble_eq_true rfl) (c_X13_in ?_)
    refine w_ifeqB 22 18 dX13_refusesYears_15 rfl rfl (fun c15 => ?_) (fun c15 => ?_)
    · skip
      refine w_iconst 23 dX13_refusesYears_22 rfl (v := nI 2) rfl ?_
      refine wr_i dX13_refusesYears_23 rfl ?_
      exact kq h (by rw [tY, if_pos c1, tI, if_neg (show ¬ (0 ≤ n ∧ n ≤ nI 60) from of_decide_eq_false c15)])
    · skip
      refine w_iconst 19 dX13_refusesYears_18 rfl (v := nI 0) rfl ?_
      refine w_goto 23 dX13_refusesYears_19 rfl ?_
      refine wr_i dX13_refusesYears_23 rfl ?_
      exact kq h (by rw [tY, if_pos c1, tI, if_pos (show 0 ≤ n ∧ n ≤ nI 60 from of_decide_eq_true c15)])
  · skip
    refine w_iconst 5 dX13_refusesYears_4 rfl (v := nI 1) rfl ?_
    refine w_goto 23 dX13_refusesYears_5 rfl ?_
    refine wr_i dX13_refusesYears_23 rfl ?_
    exact kq h (by rw [tY, c1]; rfl)

set_option maxRecDepth 4000 in
theorem c_X13_refusesYearsN {K : Option Value → AH → Prop} {A : AH} {r : Value} {b : Bool} {n : Int32} (h : K (some (.int (nI (tY b n)))) A) : Ct yX13_refusesYears mX13_refusesYears 1 dN (GG .null r) [.ref 100, .int (b2i b), .int n] A K := by
  refine Ct.of [some (.ref 100), some (.int (b2i b)), some (.int n)] rfl rfl rfl (Nat.le_of_ble_eq_true rfl) ?_
  refine w_iload_n 1 dX13_refusesYears_0 rfl rfl ?_
  refine w_ifneB 8 4 dX13_refusesYears_1 rfl rfl (fun c1 => ?_) (fun c1 => ?_)
  · skip
    refine w_iload_n 9 dX13_refusesYears_8 rfl rfl ?_
    refine w_iconst 10 dX13_refusesYears_9 rfl (v := nI 0) rfl ?_
    refine w_bipush 12 dX13_refusesYears_10 rfl (v := nI 60) rfl ?_
    refine w_invs3 15 dX13_refusesYears_12 rfl slX13_121 (d' := 0) (by decide) (Nat.le_of_ble_eq_true rfl) (c_X13_in ?_)
    refine w_ifeqB 22 18 dX13_refusesYears_15 rfl rfl (fun c15 => ?_) (fun c15 => ?_)
    · skip
      refine w_iconst 23 dX13_refusesYears_22 rfl (v := nI 2) rfl ?_
      refine wr_i dX13_refusesYears_23 rfl ?_
      exact kq h (by rw [tY, if_pos c1, tI, if_neg (show ¬ (0 ≤ n ∧ n ≤ nI 60) from of_decide_eq_false c15)])
    · skip
      refine w_iconst 19 dX13_refusesYears_18 rfl (v := nI 0) rfl ?_
      refine w_goto 23 dX13_refusesYears_19 rfl ?_
      refine wr_i dX13_refusesYears_23 rfl ?_
      exact kq h (by rw [tY, if_pos c1, tI, if_pos (show 0 ≤ n ∧ n ≤ nI 60 from of_decide_eq_true c15)])
  · skip
    refine w_iconst 5 dX13_refusesYears_4 rfl (v := nI 1) rfl ?_
    refine w_goto 23 dX13_refusesYears_5 rfl ?_
    refine wr_i dX13_refusesYears_23 rfl ?_
    exact kq h (by rw [tY, c1]; rfl)

set_option maxRecDepth 4000 in
theorem c_X13_works {K : Option Value → AH → Prop} {A : AH} {r : Value} (h : ∀ A', A'.1 103 = (fun k => if k < 26 then A.1 102 k else A.1 103 k) → OffL [103] A A' → K none A') : Ct yX13_works mX13_works 0 dM (GG (.ref 111) r) [.ref 100] A K := by
  refine Ct.of [some (.ref 100), none] rfl rfl rfl (Nat.le_of_ble_eq_true rfl) ?_
  have lp2 : ∀ (nf : Nat) (i : Nat) (A' : AH), i ≤ 26 → OffL [103] A A' → A'.1 103 = (fun k => if k < i then A.1 102 k else A.1 103 k) → 26 - i < nf → WP mX13_works 0 dM (GG (.ref 111) r) 2 [some (.ref 100), some (.int (nI i))] [] A' K := by
    intro nf
    induction nf with
    | zero => intros; omega
    | succ nf ih =>
      intro i A' hi hO hx hms
      refine w_iload_n 3 dX13_works_2 rfl rfl ?_
      refine w_bipush 5 dX13_works_3 rfl (v := nI 26) rfl ?_
      refine w_icgeN 26 8 dX13_works_5 rfl rfl (by omega) (by omega) (fun c5 => ?_) (fun c5 => ?_)
      · skip
        refine wr_v dX13_works_26 rfl ?_
        have e : i = 26 := by omega
        subst e
        exact h A' hx hO
      · skip
        refine w_aload_n 9 dX13_works_8 rfl rfl ?_
        refine w_getr 12 dX13_works_9 rfl faX13_21 rfl rfl rfl (r := .ref 103) rfl ?_
        refine w_iload_n 13 dX13_works_12 rfl rfl ?_
        refine w_aload_n 14 dX13_works_13 rfl rfl ?_
        refine w_getr 17 dX13_works_14 rfl faX13_17 rfl rfl rfl (r := .ref 102) rfl ?_
        refine w_iload_n 18 dX13_works_17 rfl rfl ?_
        refine w_ialdv 19 dX13_works_18 rfl rfl rfl (by decide) (by omega) (v := A.1 102 i) (by rw [(hO 102 (by decide)).1]) ?_
        refine w_iastN 20 dX13_works_19 rfl rfl rfl (by decide) (by omega) ?_
        refine w_inc1 23 dX13_works_20 rfl (by decide) rfl (v := nI (_ + 1)) (nI_1 _) ?_
        refine w_goto 2 dX13_works_23 rfl ?_
        refine ih (i + 1) _ (by omega) (hO.upd (by decide) _ _) ?_ (by omega)
        funext k
        dsimp only
        by_cases q : k = i
        · subst q
          rw [upd2_at, if_pos (by omega)]
        · rw [upd2_off q, hx]
          dsimp only
          by_cases z : k < i
          · rw [if_pos z, if_pos (by omega)]
          · rw [if_neg z, if_neg (by omega)]
  refine w_iconst 1 dX13_works_0 rfl (v := nI 0) rfl ?_
  refine w_ist1 2 dX13_works_1 rfl (by decide) rfl ?_
  exact lp2 _ 0 A (Nat.zero_le _) OffL.rf (by funext k; simp) (Nat.lt_succ_self _)

theorem VR.eq {w : WT} {s : Nat → Nat} {v v' : Nat → Int32} (h : VR w s v) (hs : okS s) (he : ∀ k, k < 26 → v' k = v k) : VR w s v' := by
  have h8 := hs.2.1
  obtain ⟨h1, h2, h3, h4⟩ := h
  refine ⟨by rw [he 24 (by decide)]; exact h1, by rw [he 25 (by decide)]; exact h2, h3, fun t ht => ?_⟩
  rw [he (8 + t) (by omega), he (16 + t) (by omega), he t (by omega)]
  exact h4 t ht
theorem c_X13_worksR {K : Option Value → AH → Prop} {A : AH} {r : Value} {w : WT} {s : Nat → Nat} (hC : MC w s A) (h : ∀ A', XR w s A' → QM A A' → K none A') : Ct yX13_works mX13_works 0 dM (GG (.ref 111) r) [.ref 100] A K :=
  c_X13_works (fun A' hx hO => h A' ⟨hC.2.1.eq hC.2.2.2.1 (fun k hk => by rw [hx]; exact if_pos hk), hC.2.2.2.1⟩ ⟨hO.mono (by decide), fun k _ => by rw [(hO 100 (by decide)).1]⟩)
set_option maxRecDepth 4000 in
theorem t_X13_kindOf {K : Option Value → AH → Prop} {A : AH} {r : Value} {t : Nat} (ht : t < 7) (hv : A.1 103 t = -1) (h : K (some (.int (A.1 112 t))) A) : Ct yX13_kindOf mX13_kindOf 0 dM (GG (.ref 111) r) [.ref 100, .int (nI t)] A K := by
  refine Ct.of [some (.ref 100), some (.int (nI t))] rfl rfl rfl (Nat.le_of_ble_eq_true rfl) ?_
  refine w_aload_n 1 dX13_kindOf_0 rfl rfl ?_
  refine w_getr 4 dX13_kindOf_1 rfl faX13_21 rfl rfl rfl (r := .ref 103) rfl ?_
  refine w_iconst 5 dX13_kindOf_4 rfl (v := nI 0) rfl ?_
  refine w_iload_n 6 dX13_kindOf_5 rfl rfl ?_
  refine w_iaddN 7 dX13_kindOf_6 rfl ?_
  refine w_top (show _ = nI t from by rw [Nat.zero_add]) ?_
  refine w_ialdv 8 dX13_kindOf_7 rfl rfl rfl (by decide) (by omega) hv ?_
  refine w_iconst 9 dX13_kindOf_8 rfl (v := (-1)) rfl ?_
  refine w_icne 24 12 dX13_kindOf_9 rfl rfl (fun c9 => (by exact absurd rfl c9)) (fun c9 => ?_)
  refine w_aload_n 13 dX13_kindOf_12 rfl rfl ?_
  refine w_getr 16 dX13_kindOf_13 rfl faX13_343 rfl rfl rfl (r := .ref 111) rfl ?_
  refine w_getr 19 dX13_kindOf_16 rfl faX13_258 rfl rfl rfl (r := .ref 112) rfl ?_
  refine w_iload_n 20 dX13_kindOf_19 rfl rfl ?_
  refine w_ialdN 21 dX13_kindOf_20 rfl rfl rfl (by decide) (by omega) ?_
  refine w_goto 25 dX13_kindOf_21 rfl ?_
  refine wr_i dX13_kindOf_25 rfl ?_
  exact h

set_option maxRecDepth 4000 in
theorem o_X13_kindOf {K : Option Value → AH → Prop} {A : AH} {r : Value} {t k : Nat} (ht : t < 8) (hk : k < 5) (hv : A.1 103 t = nI k) (h : K (some (.int (nI 0))) A) : Ct yX13_kindOf mX13_kindOf 0 dM (GG (.ref 111) r) [.ref 100, .int (nI t)] A K := by
  refine Ct.of [some (.ref 100), some (.int (nI t))] rfl rfl rfl (Nat.le_of_ble_eq_true rfl) ?_
  refine w_aload_n 1 dX13_kindOf_0 rfl rfl ?_
  refine w_getr 4 dX13_kindOf_1 rfl faX13_21 rfl rfl rfl (r := .ref 103) rfl ?_
  refine w_iconst 5 dX13_kindOf_4 rfl (v := nI 0) rfl ?_
  refine w_iload_n 6 dX13_kindOf_5 rfl rfl ?_
  refine w_iaddN 7 dX13_kindOf_6 rfl ?_
  refine w_top (show _ = nI t from by rw [Nat.zero_add]) ?_
  refine w_ialdv 8 dX13_kindOf_7 rfl rfl rfl (by decide) (by omega) hv ?_
  refine w_iconst 9 dX13_kindOf_8 rfl (v := (-1)) rfl ?_
  refine w_icne 24 12 dX13_kindOf_9 rfl rfl (fun c9 => ?_) (fun c9 => (by exact absurd c9 (nI_m1 (by omega))))
  refine w_iconst 25 dX13_kindOf_24 rfl (v := nI 0) rfl ?_
  refine wr_i dX13_kindOf_25 rfl ?_
  exact h

theorem c_X13_kindOf {K : Option Value → AH → Prop} {A : AH} {r : Value} {w : WT} {s : Nat → Nat} {t : Nat} (hM : RepM w A) (hX : XR w s A) (hr : w.1 2 ≤ 7 ∧ w.1 5 ≤ 5) (ht : t < s 1) (h : K (some (.int (nI (cz s t 0)))) A) : Ct yX13_kindOf mX13_kindOf 0 dM (GG (.ref 111) r) [.ref 100, .int (nI t)] A K := by
  have h8 := hX.2.2.1
  obtain ⟨v1, v2, v3⟩ := hX.1.2.2.2 t ht
  rcases v3 with ⟨hv, h2, hc⟩ | ⟨k, hk, hv, h2, c0, c1, c2, c3, c4⟩
  · exact t_X13_kindOf (by omega) hv (kq h (by rw [(hM.2.2.1 t h2).1, hc 0 (by decide)]))
  · exact o_X13_kindOf (by omega) (by omega) hv (kq h (by rw [c0]))
set_option maxRecDepth 4000 in
theorem t_X13_stepOf {K : Option Value → AH → Prop} {A : AH} {r : Value} {t : Nat} (ht : t < 7) (hv : A.1 103 t = -1) (h : K (some (.int (A.1 116 t))) A) : Ct yX13_stepOf mX13_stepOf 0 dM (GG (.ref 111) r) [.ref 100, .int (nI t)] A K := by
  refine Ct.of [some (.ref 100), some (.int (nI t))] rfl rfl rfl (Nat.le_of_ble_eq_true rfl) ?_
  refine w_aload_n 1 dX13_stepOf_0 rfl rfl ?_
  refine w_getr 4 dX13_stepOf_1 rfl faX13_21 rfl rfl rfl (r := .ref 103) rfl ?_
  refine w_iconst 5 dX13_stepOf_4 rfl (v := nI 0) rfl ?_
  refine w_iload_n 6 dX13_stepOf_5 rfl rfl ?_
  refine w_iaddN 7 dX13_stepOf_6 rfl ?_
  refine w_top (show _ = nI t from by rw [Nat.zero_add]) ?_
  refine w_ialdv 8 dX13_stepOf_7 rfl rfl rfl (by decide) (by omega) hv ?_
  refine w_iconst 9 dX13_stepOf_8 rfl (v := (-1)) rfl ?_
  refine w_icne 24 12 dX13_stepOf_9 rfl rfl (fun c9 => (by exact absurd rfl c9)) (fun c9 => ?_)
  refine w_aload_n 13 dX13_stepOf_12 rfl rfl ?_
  refine w_getr 16 dX13_stepOf_13 rfl faX13_343 rfl rfl rfl (r := .ref 111) rfl ?_
  refine w_getr 19 dX13_stepOf_16 rfl faX13_269 rfl rfl rfl (r := .ref 116) rfl ?_
  refine w_iload_n 20 dX13_stepOf_19 rfl rfl ?_
  refine w_ialdN 21 dX13_stepOf_20 rfl rfl rfl (by decide) (by omega) ?_
  refine w_goto 25 dX13_stepOf_21 rfl ?_
  refine wr_i dX13_stepOf_25 rfl ?_
  exact h

set_option maxRecDepth 4000 in
theorem o_X13_stepOf {K : Option Value → AH → Prop} {A : AH} {r : Value} {t k : Nat} (ht : t < 8) (hk : k < 5) (hv : A.1 103 t = nI k) (h : K (some (.int (nI 0))) A) : Ct yX13_stepOf mX13_stepOf 0 dM (GG (.ref 111) r) [.ref 100, .int (nI t)] A K := by
  refine Ct.of [some (.ref 100), some (.int (nI t))] rfl rfl rfl (Nat.le_of_ble_eq_true rfl) ?_
  refine w_aload_n 1 dX13_stepOf_0 rfl rfl ?_
  refine w_getr 4 dX13_stepOf_1 rfl faX13_21 rfl rfl rfl (r := .ref 103) rfl ?_
  refine w_iconst 5 dX13_stepOf_4 rfl (v := nI 0) rfl ?_
  refine w_iload_n 6 dX13_stepOf_5 rfl rfl ?_
  refine w_iaddN 7 dX13_stepOf_6 rfl ?_
  refine w_top (show _ = nI t from by rw [Nat.zero_add]) ?_
  refine w_ialdv 8 dX13_stepOf_7 rfl rfl rfl (by decide) (by omega) hv ?_
  refine w_iconst 9 dX13_stepOf_8 rfl (v := (-1)) rfl ?_
  refine w_icne 24 12 dX13_stepOf_9 rfl rfl (fun c9 => ?_) (fun c9 => (by exact absurd c9 (nI_m1 (by omega))))
  refine w_iconst 25 dX13_stepOf_24 rfl (v := nI 0) rfl ?_
  refine wr_i dX13_stepOf_25 rfl ?_
  exact h

theorem c_X13_stepOf {K : Option Value → AH → Prop} {A : AH} {r : Value} {w : WT} {s : Nat → Nat} {t : Nat} (hM : RepM w A) (hX : XR w s A) (hr : w.1 2 ≤ 7 ∧ w.1 5 ≤ 5) (ht : t < s 1) (h : K (some (.int (nI (cz s t 4)))) A) : Ct yX13_stepOf mX13_stepOf 0 dM (GG (.ref 111) r) [.ref 100, .int (nI t)] A K := by
  have h8 := hX.2.2.1
  obtain ⟨v1, v2, v3⟩ := hX.1.2.2.2 t ht
  rcases v3 with ⟨hv, h2, hc⟩ | ⟨k, hk, hv, h2, c0, c1, c2, c3, c4⟩
  · exact t_X13_stepOf (by omega) hv (kq h (by rw [(hM.2.2.1 t h2).2.2.2.2, hc 4 (by decide)]))
  · exact o_X13_stepOf (by omega) (by omega) hv (kq h (by rw [c4]))
set_option maxRecDepth 4000 in
theorem t_X13_oneOf {K : Option Value → AH → Prop} {A : AH} {r : Value} {t : Nat} (ht : t < 7) (hv : A.1 103 t = -1) (h : K (some (.int (A.1 113 t))) A) : Ct yX13_oneOf mX13_oneOf 0 dM (GG (.ref 111) r) [.ref 100, .int (nI t)] A K := by
  refine Ct.of [some (.ref 100), some (.int (nI t))] rfl rfl rfl (Nat.le_of_ble_eq_true rfl) ?_
  refine w_aload_n 1 dX13_oneOf_0 rfl rfl ?_
  refine w_getr 4 dX13_oneOf_1 rfl faX13_21 rfl rfl rfl (r := .ref 103) rfl ?_
  refine w_iconst 5 dX13_oneOf_4 rfl (v := nI 0) rfl ?_
  refine w_iload_n 6 dX13_oneOf_5 rfl rfl ?_
  refine w_iaddN 7 dX13_oneOf_6 rfl ?_
  refine w_top (show _ = nI t from by rw [Nat.zero_add]) ?_
  refine w_ialdv 8 dX13_oneOf_7 rfl rfl rfl (by decide) (by omega) hv ?_
  refine w_iconst 9 dX13_oneOf_8 rfl (v := (-1)) rfl ?_
  refine w_icne 24 12 dX13_oneOf_9 rfl rfl (fun c9 => (by exact absurd rfl c9)) (fun c9 => ?_)
  refine w_aload_n 13 dX13_oneOf_12 rfl rfl ?_
  refine w_getr 16 dX13_oneOf_13 rfl faX13_343 rfl rfl rfl (r := .ref 111) rfl ?_
  refine w_getr 19 dX13_oneOf_16 rfl faX13_261 rfl rfl rfl (r := .ref 113) rfl ?_
  refine w_iload_n 20 dX13_oneOf_19 rfl rfl ?_
  refine w_ialdN 21 dX13_oneOf_20 rfl rfl rfl (by decide) (by omega) ?_
  refine w_goto 40 dX13_oneOf_21 rfl ?_
  refine wr_i dX13_oneOf_40 rfl ?_
  exact h

set_option maxRecDepth 4000 in
theorem o_X13_oneOf {K : Option Value → AH → Prop} {A : AH} {r : Value} {t k : Nat} (ht : t < 8) (hk : k < 5) (hv : A.1 103 t = nI k) (h : K (some (.int (A.1 121 k))) A) : Ct yX13_oneOf mX13_oneOf 0 dM (GG (.ref 111) r) [.ref 100, .int (nI t)] A K := by
  refine Ct.of [some (.ref 100), some (.int (nI t))] rfl rfl rfl (Nat.le_of_ble_eq_true rfl) ?_
  refine w_aload_n 1 dX13_oneOf_0 rfl rfl ?_
  refine w_getr 4 dX13_oneOf_1 rfl faX13_21 rfl rfl rfl (r := .ref 103) rfl ?_
  refine w_iconst 5 dX13_oneOf_4 rfl (v := nI 0) rfl ?_
  refine w_iload_n 6 dX13_oneOf_5 rfl rfl ?_
  refine w_iaddN 7 dX13_oneOf_6 rfl ?_
  refine w_top (show _ = nI t from by rw [Nat.zero_add]) ?_
  refine w_ialdv 8 dX13_oneOf_7 rfl rfl rfl (by decide) (by omega) hv ?_
  refine w_iconst 9 dX13_oneOf_8 rfl (v := (-1)) rfl ?_
  refine w_icne 24 12 dX13_oneOf_9 rfl rfl (fun c9 => ?_) (fun c9 => (by exact absurd c9 (nI_m1 (by omega))))
  refine w_aload_n 25 dX13_oneOf_24 rfl rfl ?_
  refine w_getr 28 dX13_oneOf_25 rfl faX13_343 rfl rfl rfl (r := .ref 111) rfl ?_
  refine w_getr 31 dX13_oneOf_28 rfl faX13_303 rfl rfl rfl (r := .ref 121) rfl ?_
  refine w_aload_n 32 dX13_oneOf_31 rfl rfl ?_
  refine w_getr 35 dX13_oneOf_32 rfl faX13_21 rfl rfl rfl (r := .ref 103) rfl ?_
  refine w_iconst 36 dX13_oneOf_35 rfl (v := nI 0) rfl ?_
  refine w_iload_n 37 dX13_oneOf_36 rfl rfl ?_
  refine w_iaddN 38 dX13_oneOf_37 rfl ?_
  refine w_top (show _ = nI t from by rw [Nat.zero_add]) ?_
  refine w_ialdv 39 dX13_oneOf_38 rfl rfl rfl (by decide) (by omega) hv ?_
  refine w_ialdN 40 dX13_oneOf_39 rfl rfl rfl (by decide) (by omega) ?_
  refine wr_i dX13_oneOf_40 rfl ?_
  exact h

theorem c_X13_oneOf {K : Option Value → AH → Prop} {A : AH} {r : Value} {w : WT} {s : Nat → Nat} {t : Nat} (hM : RepM w A) (hX : XR w s A) (hr : w.1 2 ≤ 7 ∧ w.1 5 ≤ 5) (ht : t < s 1) (h : K (some (.int (nI (cz s t 1)))) A) : Ct yX13_oneOf mX13_oneOf 0 dM (GG (.ref 111) r) [.ref 100, .int (nI t)] A K := by
  have h8 := hX.2.2.1
  obtain ⟨v1, v2, v3⟩ := hX.1.2.2.2 t ht
  rcases v3 with ⟨hv, h2, hc⟩ | ⟨k, hk, hv, h2, c0, c1, c2, c3, c4⟩
  · exact t_X13_oneOf (by omega) hv (kq h (by rw [(hM.2.2.1 t h2).2.1, hc 1 (by decide)]))
  · exact o_X13_oneOf (by omega) (by omega) hv (kq h (by rw [c1, (hM.2.2.2.2.2.1 k hk).1]))
set_option maxRecDepth 4000 in
theorem t_X13_twoOf {K : Option Value → AH → Prop} {A : AH} {r : Value} {t : Nat} (ht : t < 7) (hv : A.1 103 t = -1) (h : K (some (.int (A.1 114 t))) A) : Ct yX13_twoOf mX13_twoOf 0 dM (GG (.ref 111) r) [.ref 100, .int (nI t)] A K := by
  refine Ct.of [some (.ref 100), some (.int (nI t))] rfl rfl rfl (Nat.le_of_ble_eq_true rfl) ?_
  refine w_aload_n 1 dX13_twoOf_0 rfl rfl ?_
  refine w_getr 4 dX13_twoOf_1 rfl faX13_21 rfl rfl rfl (r := .ref 103) rfl ?_
  refine w_iconst 5 dX13_twoOf_4 rfl (v := nI 0) rfl ?_
  refine w_iload_n 6 dX13_twoOf_5 rfl rfl ?_
  refine w_iaddN 7 dX13_twoOf_6 rfl ?_
  refine w_top (show _ = nI t from by rw [Nat.zero_add]) ?_
  refine w_ialdv 8 dX13_twoOf_7 rfl rfl rfl (by decide) (by omega) hv ?_
  refine w_iconst 9 dX13_twoOf_8 rfl (v := (-1)) rfl ?_
  refine w_icne 24 12 dX13_twoOf_9 rfl rfl (fun c9 => (by exact absurd rfl c9)) (fun c9 => ?_)
  refine w_aload_n 13 dX13_twoOf_12 rfl rfl ?_
  refine w_getr 16 dX13_twoOf_13 rfl faX13_343 rfl rfl rfl (r := .ref 111) rfl ?_
  refine w_getr 19 dX13_twoOf_16 rfl faX13_264 rfl rfl rfl (r := .ref 114) rfl ?_
  refine w_iload_n 20 dX13_twoOf_19 rfl rfl ?_
  refine w_ialdN 21 dX13_twoOf_20 rfl rfl rfl (by decide) (by omega) ?_
  refine w_goto 40 dX13_twoOf_21 rfl ?_
  refine wr_i dX13_twoOf_40 rfl ?_
  exact h

set_option maxRecDepth 4000 in
theorem o_X13_twoOf {K : Option Value → AH → Prop} {A : AH} {r : Value} {t k : Nat} (ht : t < 8) (hk : k < 5) (hv : A.1 103 t = nI k) (h : K (some (.int (A.1 122 k))) A) : Ct yX13_twoOf mX13_twoOf 0 dM (GG (.ref 111) r) [.ref 100, .int (nI t)] A K := by
  refine Ct.of [some (.ref 100), some (.int (nI t))] rfl rfl rfl (Nat.le_of_ble_eq_true rfl) ?_
  refine w_aload_n 1 dX13_twoOf_0 rfl rfl ?_
  refine w_getr 4 dX13_twoOf_1 rfl faX13_21 rfl rfl rfl (r := .ref 103) rfl ?_
  refine w_iconst 5 dX13_twoOf_4 rfl (v := nI 0) rfl ?_
  refine w_iload_n 6 dX13_twoOf_5 rfl rfl ?_
  refine w_iaddN 7 dX13_twoOf_6 rfl ?_
  refine w_top (show _ = nI t from by rw [Nat.zero_add]) ?_
  refine w_ialdv 8 dX13_twoOf_7 rfl rfl rfl (by decide) (by omega) hv ?_
  refine w_iconst 9 dX13_twoOf_8 rfl (v := (-1)) rfl ?_
  refine w_icne 24 12 dX13_twoOf_9 rfl rfl (fun c9 => ?_) (fun c9 => (by exact absurd c9 (nI_m1 (by omega))))
  refine w_aload_n 25 dX13_twoOf_24 rfl rfl ?_
  refine w_getr 28 dX13_twoOf_25 rfl faX13_343 rfl rfl rfl (r := .ref 111) rfl ?_
  refine w_getr 31 dX13_twoOf_28 rfl faX13_306 rfl rfl rfl (r := .ref 122) rfl ?_
  refine w_aload_n 32 dX13_twoOf_31 rfl rfl ?_
  refine w_getr 35 dX13_twoOf_32 rfl faX13_21 rfl rfl rfl (r := .ref 103) rfl ?_
  refine w_iconst 36 dX13_twoOf_35 rfl (v := nI 0) rfl ?_
  refine w_iload_n 37 dX13_twoOf_36 rfl rfl ?_
  refine w_iaddN 38 dX13_twoOf_37 rfl ?_
  refine w_top (show _ = nI t from by rw [Nat.zero_add]) ?_
  refine w_ialdv 39 dX13_twoOf_38 rfl rfl rfl (by decide) (by omega) hv ?_
  refine w_ialdN 40 dX13_twoOf_39 rfl rfl rfl (by decide) (by omega) ?_
  refine wr_i dX13_twoOf_40 rfl ?_
  exact h

theorem c_X13_twoOf {K : Option Value → AH → Prop} {A : AH} {r : Value} {w : WT} {s : Nat → Nat} {t : Nat} (hM : RepM w A) (hX : XR w s A) (hr : w.1 2 ≤ 7 ∧ w.1 5 ≤ 5) (ht : t < s 1) (h : K (some (.int (nI (cz s t 2)))) A) : Ct yX13_twoOf mX13_twoOf 0 dM (GG (.ref 111) r) [.ref 100, .int (nI t)] A K := by
  have h8 := hX.2.2.1
  obtain ⟨v1, v2, v3⟩ := hX.1.2.2.2 t ht
  rcases v3 with ⟨hv, h2, hc⟩ | ⟨k, hk, hv, h2, c0, c1, c2, c3, c4⟩
  · exact t_X13_twoOf (by omega) hv (kq h (by rw [(hM.2.2.1 t h2).2.2.1, hc 2 (by decide)]))
  · exact o_X13_twoOf (by omega) (by omega) hv (kq h (by rw [c2, (hM.2.2.2.2.2.1 k hk).2.1]))
set_option maxRecDepth 4000 in
theorem t_X13_foesOf {K : Option Value → AH → Prop} {A : AH} {r : Value} {t : Nat} (ht : t < 7) (hv : A.1 103 t = -1) (h : K (some (.int (A.1 117 t))) A) : Ct yX13_foesOf mX13_foesOf 0 dM (GG (.ref 111) r) [.ref 100, .int (nI t)] A K := by
  refine Ct.of [some (.ref 100), some (.int (nI t))] rfl rfl rfl (Nat.le_of_ble_eq_true rfl) ?_
  refine w_aload_n 1 dX13_foesOf_0 rfl rfl ?_
  refine w_getr 4 dX13_foesOf_1 rfl faX13_21 rfl rfl rfl (r := .ref 103) rfl ?_
  refine w_iconst 5 dX13_foesOf_4 rfl (v := nI 0) rfl ?_
  refine w_iload_n 6 dX13_foesOf_5 rfl rfl ?_
  refine w_iaddN 7 dX13_foesOf_6 rfl ?_
  refine w_top (show _ = nI t from by rw [Nat.zero_add]) ?_
  refine w_ialdv 8 dX13_foesOf_7 rfl rfl rfl (by decide) (by omega) hv ?_
  refine w_iconst 9 dX13_foesOf_8 rfl (v := (-1)) rfl ?_
  refine w_icne 24 12 dX13_foesOf_9 rfl rfl (fun c9 => (by exact absurd rfl c9)) (fun c9 => ?_)
  refine w_aload_n 13 dX13_foesOf_12 rfl rfl ?_
  refine w_getr 16 dX13_foesOf_13 rfl faX13_343 rfl rfl rfl (r := .ref 111) rfl ?_
  refine w_getr 19 dX13_foesOf_16 rfl faX13_274 rfl rfl rfl (r := .ref 117) rfl ?_
  refine w_iload_n 20 dX13_foesOf_19 rfl rfl ?_
  refine w_ialdN 21 dX13_foesOf_20 rfl rfl rfl (by decide) (by omega) ?_
  refine w_goto 25 dX13_foesOf_21 rfl ?_
  refine wr_i dX13_foesOf_25 rfl ?_
  exact h

set_option maxRecDepth 4000 in
theorem o_X13_foesOf {K : Option Value → AH → Prop} {A : AH} {r : Value} {t k : Nat} (ht : t < 8) (hk : k < 5) (hv : A.1 103 t = nI k) (h : K (some (.int (nI 0))) A) : Ct yX13_foesOf mX13_foesOf 0 dM (GG (.ref 111) r) [.ref 100, .int (nI t)] A K := by
  refine Ct.of [some (.ref 100), some (.int (nI t))] rfl rfl rfl (Nat.le_of_ble_eq_true rfl) ?_
  refine w_aload_n 1 dX13_foesOf_0 rfl rfl ?_
  refine w_getr 4 dX13_foesOf_1 rfl faX13_21 rfl rfl rfl (r := .ref 103) rfl ?_
  refine w_iconst 5 dX13_foesOf_4 rfl (v := nI 0) rfl ?_
  refine w_iload_n 6 dX13_foesOf_5 rfl rfl ?_
  refine w_iaddN 7 dX13_foesOf_6 rfl ?_
  refine w_top (show _ = nI t from by rw [Nat.zero_add]) ?_
  refine w_ialdv 8 dX13_foesOf_7 rfl rfl rfl (by decide) (by omega) hv ?_
  refine w_iconst 9 dX13_foesOf_8 rfl (v := (-1)) rfl ?_
  refine w_icne 24 12 dX13_foesOf_9 rfl rfl (fun c9 => ?_) (fun c9 => (by exact absurd c9 (nI_m1 (by omega))))
  refine w_iconst 25 dX13_foesOf_24 rfl (v := nI 0) rfl ?_
  refine wr_i dX13_foesOf_25 rfl ?_
  exact h

set_option maxRecDepth 4000 in
theorem a_X13_strongOf {K : Option Value → AH → Prop} {A : AH} {r : Value} {w : WT} {s : Nat → Nat} {t n : Nat} (hM : RepM w A) (hX : XR w s A) (hr : w.1 2 ≤ 7 ∧ w.1 5 ≤ 5) (ht : t < s 1) (hn : n ≤ 60) (h : K (some (.int (nI (stg s t n)))) A) : WP mX13_strongOf 1 dM (GG (.ref 111) r) 41 [some (.ref 100), some (.int (nI t)), some (.int (nI n)), some (.int (nI (cz s t 3))), none, none] [] A K := by
  have h8 := hX.2.2.1
  obtain ⟨v1, v2, v3⟩ := hX.1.2.2.2 t ht
  obtain ⟨z0, z1, z2, z3, z4, z5⟩ := cz_ok hX.2 t
  have h9 := hX.2.1
  have ey : s 0 - cz s t 5 + n = s 0 + n - cz s t 5 := by omega
  have zm : cz s t 4 * (s 0 + n - cz s t 5) ≤ 20 * (s 0 + n - cz s t 5) := Nat.mul_le_mul_right _ z4
  refine w_aload_n 42 dX13_strongOf_41 rfl rfl ?_
  refine w_getr 45 dX13_strongOf_42 rfl faX13_21 rfl rfl rfl (r := .ref 103) rfl ?_
  refine w_bipush 47 dX13_strongOf_45 rfl (v := nI 25) rfl ?_
  refine w_ialdv 48 dX13_strongOf_47 rfl rfl rfl (by decide) (by omega) hX.1.2.1 ?_
  refine w_iload_n 49 dX13_strongOf_48 rfl rfl ?_
  refine w_iaddN 50 dX13_strongOf_49 rfl ?_
  refine w_aload_n 51 dX13_strongOf_50 rfl rfl ?_
  refine w_getr 54 dX13_strongOf_51 rfl faX13_21 rfl rfl rfl (r := .ref 103) rfl ?_
  refine w_bipush 56 dX13_strongOf_54 rfl (v := nI 8) rfl ?_
  refine w_iload_n 57 dX13_strongOf_56 rfl rfl ?_
  refine w_iaddN 58 dX13_strongOf_57 rfl ?_
  refine w_ialdv 59 dX13_strongOf_58 rfl rfl rfl (by decide) (by omega) v1 ?_
  refine w_isubN 60 dX13_strongOf_59 rfl (by omega) ?_
  refine w_ist4 62 dX13_strongOf_60 rfl (by decide) rfl ?_
  refine w_aload_n 63 dX13_strongOf_62 rfl rfl ?_
  refine w_iload_n 64 dX13_strongOf_63 rfl rfl ?_
  refine w_inv1 67 dX13_strongOf_64 rfl mlX13_354 rfl rfl (d' := 0) (by decide) (Nat.le_of_ble_eq_true rfl) (c_X13_stepOf hM hX hr ht ?_)
  refine w_ist5 69 dX13_strongOf_67 rfl (by decide) rfl ?_
  refine w_aload_n 70 dX13_strongOf_69 rfl rfl ?_
  refine w_getr 73 dX13_strongOf_70 rfl faX13_21 rfl rfl rfl (r := .ref 103) rfl ?_
  refine w_bipush 75 dX13_strongOf_73 rfl (v := nI 16) rfl ?_
  refine w_iload_n 76 dX13_strongOf_75 rfl rfl ?_
  refine w_iaddN 77 dX13_strongOf_76 rfl ?_
  refine w_ialdv 78 dX13_strongOf_77 rfl rfl rfl (by decide) (by omega) v2 ?_
  refine w_iconst 79 dX13_strongOf_78 rfl (v := nI 1) rfl ?_
  refine w_icne 84 82 dX13_strongOf_79 rfl rfl (fun c79 => ?_) (fun c79 => ?_)
  · skip
    have hsn : (s 2).testBit t = false := by
      cases q : (s 2).testBit t with
      | false => rfl
      | true => rw [q] at c79; exact absurd rfl c79
    refine w_aload_n 85 dX13_strongOf_84 rfl rfl ?_
    refine w_iload_n 86 dX13_strongOf_85 rfl rfl ?_
    refine w_inv1 89 dX13_strongOf_86 rfl mlX13_357 rfl rfl (d' := 0) (by decide) (Nat.le_of_ble_eq_true rfl) (c_X13_kindOf hM hX hr ht ?_)
    refine w_iconst 90 dX13_strongOf_89 rfl (v := nI 1) rfl ?_
    refine w_icneN 114 93 dX13_strongOf_90 rfl rfl (by omega) (by omega) (fun c90 => ?_) (fun c90 => ?_)
    · skip
      refine w_aload_n 115 dX13_strongOf_114 rfl rfl ?_
      refine w_iload_n 116 dX13_strongOf_115 rfl rfl ?_
      refine w_inv1 119 dX13_strongOf_116 rfl mlX13_357 rfl rfl (d' := 0) (by decide) (Nat.le_of_ble_eq_true rfl) (c_X13_kindOf hM hX hr ht ?_)
      refine w_iconst 120 dX13_strongOf_119 rfl (v := nI 2) rfl ?_
      refine w_icneN 148 123 dX13_strongOf_120 rfl rfl (by omega) (by omega) (fun c120 => ?_) (fun c120 => ?_)
      · skip
        refine w_aload_n 149 dX13_strongOf_148 rfl rfl ?_
        refine w_iload_n 150 dX13_strongOf_149 rfl rfl ?_
        refine w_inv1 153 dX13_strongOf_150 rfl mlX13_357 rfl rfl (d' := 0) (by decide) (Nat.le_of_ble_eq_true rfl) (c_X13_kindOf hM hX hr ht ?_)
        refine w_iconst 154 dX13_strongOf_153 rfl (v := nI 3) rfl ?_
        refine w_icneN 168 157 dX13_strongOf_154 rfl rfl (by omega) (by omega) (fun c154 => ?_) (fun c154 => ?_)
        · skip
          refine w_iload_n 169 dX13_strongOf_168 rfl rfl ?_
          refine wr_i dX13_strongOf_169 rfl ?_
          exact kq h (by rw [stg, if_neg (by rw [hsn]; decide), if_neg c90, if_neg c120, if_neg c154])
        · skip
          refine w_iload 159 dX13_strongOf_157 rfl rfl ?_
          refine w_iload 161 dX13_strongOf_159 rfl rfl ?_
          refine w_icltN 168 164 dX13_strongOf_161 rfl rfl (by omega) (by omega) (fun c161 => ?_) (fun c161 => ?_)
          · skip
            refine w_iload_n 169 dX13_strongOf_168 rfl rfl ?_
            refine wr_i dX13_strongOf_169 rfl ?_
            exact kq h (by rw [stg, if_neg (by rw [hsn]; decide), if_neg c90, if_neg c120, if_pos c154, ey, if_neg (by omega)])
          · skip
            refine w_iconst 165 dX13_strongOf_164 rfl (v := nI 0) rfl ?_
            refine w_goto 169 dX13_strongOf_165 rfl ?_
            refine wr_i dX13_strongOf_169 rfl ?_
            exact kq h (by rw [stg, if_neg (by rw [hsn]; decide), if_neg c90, if_neg c120, if_pos c154, ey, if_pos (by omega)])
      · skip
        refine w_iload_n 124 dX13_strongOf_123 rfl rfl ?_
        refine w_iload 126 dX13_strongOf_124 rfl rfl ?_
        refine w_iload 128 dX13_strongOf_126 rfl rfl ?_
        refine w_imulN 129 dX13_strongOf_128 rfl ?_
        refine w_iaddN 130 dX13_strongOf_129 rfl ?_
        refine w_bipush 132 dX13_strongOf_130 rfl (v := nI 99) rfl ?_
        refine w_icgeN 145 135 dX13_strongOf_132 rfl rfl (by omega) (by omega) (fun c132 => ?_) (fun c132 => ?_)
        · skip
          refine w_bipush 147 dX13_strongOf_145 rfl (v := nI 99) rfl ?_
          refine wr_i dX13_strongOf_147 rfl ?_
          exact kq h (by rw [stg, if_neg (by rw [hsn]; decide), if_neg c90, if_pos c120, ey, if_neg (by omega)])
        · skip
          refine w_iload_n 136 dX13_strongOf_135 rfl rfl ?_
          refine w_iload 138 dX13_strongOf_136 rfl rfl ?_
          refine w_iload 140 dX13_strongOf_138 rfl rfl ?_
          refine w_imulN 141 dX13_strongOf_140 rfl ?_
          refine w_iaddN 142 dX13_strongOf_141 rfl ?_
          refine w_goto 147 dX13_strongOf_142 rfl ?_
          refine wr_i dX13_strongOf_147 rfl ?_
          exact kq h (by rw [stg, if_neg (by rw [hsn]; decide), if_neg c90, if_pos c120, ey, if_pos c132])
    · skip
      refine w_iload_n 94 dX13_strongOf_93 rfl rfl ?_
      refine w_iload 96 dX13_strongOf_94 rfl rfl ?_
      refine w_iload 98 dX13_strongOf_96 rfl rfl ?_
      refine w_imulN 99 dX13_strongOf_98 rfl ?_
      refine w_icleN 112 102 dX13_strongOf_99 rfl rfl (by omega) (by omega) (fun c99 => ?_) (fun c99 => ?_)
      · skip
        refine w_iconst 113 dX13_strongOf_112 rfl (v := nI 0) rfl ?_
        refine wr_i dX13_strongOf_113 rfl ?_
        exact kq h (by rw [stg, if_neg (by rw [hsn]; decide), if_pos c90, ey]; congr 1; omega)
      · skip
        refine w_iload_n 103 dX13_strongOf_102 rfl rfl ?_
        refine w_iload 105 dX13_strongOf_103 rfl rfl ?_
        refine w_iload 107 dX13_strongOf_105 rfl rfl ?_
        refine w_imulN 108 dX13_strongOf_107 rfl ?_
        refine w_isubN 109 dX13_strongOf_108 rfl (by omega) ?_
        refine w_goto 113 dX13_strongOf_109 rfl ?_
        refine wr_i dX13_strongOf_113 rfl ?_
        exact kq h (by rw [stg, if_neg (by rw [hsn]; decide), if_pos c90, ey])
  · skip
    have hsn : (s 2).testBit t = true := by
      cases q : (s 2).testBit t with
      | true => rfl
      | false => rw [q] at c79; exact absurd c79 (by decide)
    refine w_iconst 83 dX13_strongOf_82 rfl (v := nI 0) rfl ?_
    refine wr_i dX13_strongOf_83 rfl ?_
    exact kq h (by rw [stg, if_pos hsn])

set_option maxRecDepth 4000 in
theorem t_X13_strongOf {K : Option Value → AH → Prop} {A : AH} {r : Value} {w : WT} {s : Nat → Nat} {t : Nat} (hM : RepM w A) (hX : XR w s A) (hr : w.1 2 ≤ 7 ∧ w.1 5 ≤ 5) (ht : t < s 1) {n : Nat} (hn : n ≤ 60) (hv : A.1 103 t = -1) (h2 : t < w.1 2) (hc : ∀ c, c < 5 → cz s t c = w.2 2 t c) (h : K (some (.int (nI (stg s t n)))) A) : Ct yX13_strongOf mX13_strongOf 1 dM (GG (.ref 111) r) [.ref 100, .int (nI t), .int (nI n)] A K := by
  refine Ct.of [some (.ref 100), some (.int (nI t)), some (.int (nI n)), none, none, none] rfl rfl rfl (Nat.le_of_ble_eq_true rfl) ?_
  have h8 := hX.2.2.1
  refine w_aload_n 1 dX13_strongOf_0 rfl rfl ?_
  refine w_getr 4 dX13_strongOf_1 rfl faX13_21 rfl rfl rfl (r := .ref 103) rfl ?_
  refine w_iconst 5 dX13_strongOf_4 rfl (v := nI 0) rfl ?_
  refine w_iload_n 6 dX13_strongOf_5 rfl rfl ?_
  refine w_iaddN 7 dX13_strongOf_6 rfl ?_
  refine w_top (show _ = nI t from by rw [Nat.zero_add]) ?_
  refine w_ialdv 8 dX13_strongOf_7 rfl rfl rfl (by decide) (by omega) hv ?_
  refine w_iconst 9 dX13_strongOf_8 rfl (v := (-1)) rfl ?_
  refine w_icne 24 12 dX13_strongOf_9 rfl rfl (fun c9 => (by exact absurd rfl c9)) (fun c9 => ?_)
  refine w_aload_n 13 dX13_strongOf_12 rfl rfl ?_
  refine w_getr 16 dX13_strongOf_13 rfl faX13_343 rfl rfl rfl (r := .ref 111) rfl ?_
  refine w_getr 19 dX13_strongOf_16 rfl faX13_267 rfl rfl rfl (r := .ref 115) rfl ?_
  refine w_iload_n 20 dX13_strongOf_19 rfl rfl ?_
  refine w_ialdv 21 dX13_strongOf_20 rfl rfl rfl (by decide) (by omega) (v := nI (cz s t 3)) (by rw [(hM.2.2.1 t h2).2.2.2.1, hc 3 (by decide)]) ?_
  refine w_goto 40 dX13_strongOf_21 rfl ?_
  refine w_ist3 41 dX13_strongOf_40 rfl (by decide) rfl ?_
  exact a_X13_strongOf hM hX hr ht hn h

set_option maxRecDepth 4000 in
theorem o_X13_strongOf {K : Option Value → AH → Prop} {A : AH} {r : Value} {w : WT} {s : Nat → Nat} {t : Nat} (hM : RepM w A) (hX : XR w s A) (hr : w.1 2 ≤ 7 ∧ w.1 5 ≤ 5) (ht : t < s 1) {n : Nat} (hn : n ≤ 60) {k : Nat} (hk : k < w.1 5) (hv : A.1 103 t = nI k) (c3 : cz s t 3 = w.2 5 k 2) (h : K (some (.int (nI (stg s t n)))) A) : Ct yX13_strongOf mX13_strongOf 1 dM (GG (.ref 111) r) [.ref 100, .int (nI t), .int (nI n)] A K := by
  refine Ct.of [some (.ref 100), some (.int (nI t)), some (.int (nI n)), none, none, none] rfl rfl rfl (Nat.le_of_ble_eq_true rfl) ?_
  have h8 := hX.2.2.1
  refine w_aload_n 1 dX13_strongOf_0 rfl rfl ?_
  refine w_getr 4 dX13_strongOf_1 rfl faX13_21 rfl rfl rfl (r := .ref 103) rfl ?_
  refine w_iconst 5 dX13_strongOf_4 rfl (v := nI 0) rfl ?_
  refine w_iload_n 6 dX13_strongOf_5 rfl rfl ?_
  refine w_iaddN 7 dX13_strongOf_6 rfl ?_
  refine w_top (show _ = nI t from by rw [Nat.zero_add]) ?_
  refine w_ialdv 8 dX13_strongOf_7 rfl rfl rfl (by decide) (by omega) hv ?_
  refine w_iconst 9 dX13_strongOf_8 rfl (v := (-1)) rfl ?_
  refine w_icne 24 12 dX13_strongOf_9 rfl rfl (fun c9 => ?_) (fun c9 => (by exact absurd c9 (nI_m1 (by omega))))
  refine w_aload_n 25 dX13_strongOf_24 rfl rfl ?_
  refine w_getr 28 dX13_strongOf_25 rfl faX13_343 rfl rfl rfl (r := .ref 111) rfl ?_
  refine w_getr 31 dX13_strongOf_28 rfl faX13_309 rfl rfl rfl (r := .ref 123) rfl ?_
  refine w_aload_n 32 dX13_strongOf_31 rfl rfl ?_
  refine w_getr 35 dX13_strongOf_32 rfl faX13_21 rfl rfl rfl (r := .ref 103) rfl ?_
  refine w_iconst 36 dX13_strongOf_35 rfl (v := nI 0) rfl ?_
  refine w_iload_n 37 dX13_strongOf_36 rfl rfl ?_
  refine w_iaddN 38 dX13_strongOf_37 rfl ?_
  refine w_top (show _ = nI t from by rw [Nat.zero_add]) ?_
  refine w_ialdv 39 dX13_strongOf_38 rfl rfl rfl (by decide) (by omega) hv ?_
  refine w_ialdv 40 dX13_strongOf_39 rfl rfl rfl (by decide) (by omega) (v := nI (cz s t 3)) (by rw [c3, (hM.2.2.2.2.2.1 k hk).2.2.1]) ?_
  refine w_ist3 41 dX13_strongOf_40 rfl (by decide) rfl ?_
  exact a_X13_strongOf hM hX hr ht hn h

theorem c_X13_strongOf {K : Option Value → AH → Prop} {A : AH} {r : Value} {w : WT} {s : Nat → Nat} {t : Nat} (hM : RepM w A) (hX : XR w s A) (hr : w.1 2 ≤ 7 ∧ w.1 5 ≤ 5) (ht : t < s 1) {n : Nat} (hn : n ≤ 60) (h : K (some (.int (nI (stg s t n)))) A) : Ct yX13_strongOf mX13_strongOf 1 dM (GG (.ref 111) r) [.ref 100, .int (nI t), .int (nI n)] A K := by
  obtain ⟨v1, v2, v3⟩ := hX.1.2.2.2 t ht
  rcases v3 with ⟨hv, h2, hc⟩ | ⟨k, hk, hv, h2, c0, c1, c2, c3, c4⟩
  · exact t_X13_strongOf hM hX hr ht hn hv h2 hc h
  · exact o_X13_strongOf hM hX hr ht hn hk hv c3 h
