/-! ===== the reference: edges ===== -/
def crB (f1 f2 : Nat → Nat) (s e : Nat) : Bool := s.testBit (f1 e) != s.testBit (f2 e)
def crs (f1 f2 fs : Nat → Nat) (s but ne : Nat) : Nat := sumTo (fun e => if crB f1 f2 s e && !but.testBit e then fs e else 0) ne
def leastF (f : Nat → Nat) (p : Nat → Bool) : Nat → Nat
  | 0 => 99999
  | n + 1 => if p n = true ∧ f n < leastF f p n then f n else leastF f p n
theorem leastF_le (f : Nat → Nat) (p : Nat → Bool) : ∀ n, leastF f p n ≤ 99999
  | 0 => Nat.le_refl _
  | n + 1 => by
    have ih := leastF_le f p n
    simp only [leastF]
    split <;> omega
def tgI (f1 f2 : Nat → Nat) (ok : Nat → Bool) (s0 : Nat) : Nat → Nat
  | 0 => s0
  | e + 1 => if ok e && crB f1 f2 (tgI f1 f2 ok s0 e) e then tgI f1 f2 ok s0 e ||| (2 ^ f1 e ||| 2 ^ f2 e) else tgI f1 f2 ok s0 e
def tgO (f1 f2 : Nat → Nat) (ok : Nat → Bool) (ne a : Nat) : Nat → Nat
  | 0 => 2 ^ a
  | n + 1 => tgI f1 f2 ok (tgO f1 f2 ok ne a n) ne
def okB (fs : Nat → Nat) (but e : Nat) : Bool := decide (0 < fs e) && !but.testBit e
def tgV (f1 f2 fs : Nat → Nat) (ne a but : Nat) : Nat := tgO f1 f2 (okB fs but) ne a 7
def ptS (g : Nat → Nat) : Nat → Nat × Nat
  | 0 => (0, 0)
  | a + 1 => ((ptS g a).1 + (if (ptS g a).2.testBit a then 0 else 1), (ptS g a).2 ||| g a)
theorem tgI_lt {f1 f2 : Nat → Nat} {ok : Nat → Bool} {s0 : Nat} (h0 : s0 < 2 ^ 7) : ∀ {e : Nat}, (∀ i, i < e → f1 i < 7 ∧ f2 i < 7) → tgI f1 f2 ok s0 e < 2 ^ 7
  | 0, _ => h0
  | e + 1, h => by
    have ih := tgI_lt (ok := ok) h0 (e := e) (fun i hi => h i (by omega))
    simp only [tgI]
    split
    · exact Nat.or_lt_two_pow ih (Nat.or_lt_two_pow (pw7 (h e (by omega)).1) (pw7 (h e (by omega)).2))
    · exact ih
theorem tgO_lt {f1 f2 : Nat → Nat} {ok : Nat → Bool} {ne a : Nat} (ha : a < 7) (h : ∀ i, i < ne → f1 i < 7 ∧ f2 i < 7) : ∀ n, tgO f1 f2 ok ne a n < 2 ^ 7
  | 0 => pw7 ha
  | n + 1 => tgI_lt (tgO_lt ha h n) h
theorem ptS_le (g : Nat → Nat) : ∀ a, (ptS g a).1 ≤ a
  | 0 => Nat.le_refl _
  | a + 1 => by
    have ih := ptS_le g a
    simp only [ptS]
    split <;> omega
theorem ptS_lt {g : Nat → Nat} (h : ∀ a, a < 7 → g a < 2 ^ 7) : ∀ {a : Nat}, a ≤ 7 → (ptS g a).2 < 2 ^ 7
  | 0, _ => by simp [ptS]
  | a + 1, ha => Nat.or_lt_two_pow (ptS_lt h (by omega)) (h a (by omega))
theorem RY.cong {ne : Nat} {f1 f2 fs : Nat → Nat} {A A' : AH} (h : RY ne f1 f2 fs A) (h0 : A'.1 100 25 = A.1 100 25) (h6 : A'.1 106 = A.1 106) (h7 : A'.1 107 = A.1 107) (h8 : A'.1 108 = A.1 108) : RY ne f1 f2 fs A' := ⟨by rw [h0]; exact h.1, h.2.1, fun i hi => by rw [h6, h7, h8]; exact h.2.2 i hi⟩
theorem bitsE : ∀ r, r < 256 → 0 < r → popc r = popc (r &&& (r - 1)) + 1 ∧ r &&& (r - 1) < r := by decide +kernel
theorem popc_0 : popc 0 = 0 := by decide
set_option maxRecDepth 4000 in
theorem c_X13_bits {K : Option Value → AH → Prop} {dm : Nat × Nat} {G : Nat → Nat → Value} {A : AH} {m : Nat} (hm : m < 256) (h : K (some (.int (nI (popc m)))) A) : Ct yX13_bits mX13_bits 0 dm G [.int (nI m)] A K := by
  refine Ct.of [some (.int (nI m)), none, none] rfl rfl rfl (Nat.le_of_ble_eq_true rfl) ?_
  have lp4 : ∀ (nf : Nat) (c r : Nat), r < 256 → c + popc r = popc m → r < nf → WP mX13_bits 0 dm G 4 [some (.int (nI m)), some (.int (nI c)), some (.int (nI r))] [] A K := by
    intro nf
    induction nf with
    | zero => intros; omega
    | succ nf ih =>
      intro c r hr hc hms
      refine w_iload_n 5 dX13_bits_4 rfl rfl ?_
      refine w_ifeqN 20 8 dX13_bits_5 rfl rfl (by omega) (fun c5 => ?_) (fun c5 => ?_)
      · skip
        refine w_iload_n 21 dX13_bits_20 rfl rfl ?_
        refine wr_i dX13_bits_21 rfl ?_
        subst c5
        rw [popc_0, Nat.add_zero] at hc
        subst hc
        exact h
      · skip
        obtain ⟨b1, b2⟩ := bitsE r hr (by omega)
        refine w_inc1 11 dX13_bits_8 rfl (by decide) rfl (v := nI (_ + 1)) (nI_1 _) ?_
        refine w_iload_n 12 dX13_bits_11 rfl rfl ?_
        refine w_iload_n 13 dX13_bits_12 rfl rfl ?_
        refine w_iconst 14 dX13_bits_13 rfl (v := nI 1) rfl ?_
        refine w_isubN 15 dX13_bits_14 rfl (by omega) ?_
        refine w_iand 16 dX13_bits_15 rfl ?_
        refine w_top (nI_and _ _) ?_
        refine w_ist2 17 dX13_bits_16 rfl (by decide) rfl ?_
        refine w_goto 4 dX13_bits_17 rfl ?_
        exact ih (c + 1) _ (by omega) (by omega) (by omega)
  refine w_iconst 1 dX13_bits_0 rfl (v := nI 0) rfl ?_
  refine w_ist1 2 dX13_bits_1 rfl (by decide) rfl ?_
  refine w_iload_n 3 dX13_bits_2 rfl rfl ?_
  refine w_ist2 4 dX13_bits_3 rfl (by decide) rfl ?_
  exact lp4 _ 0 m hm (by omega) (Nat.lt_succ_self _)

set_option maxRecDepth 4000 in
theorem c_X13_edge {K : Option Value → AH → Prop} {A : AH} {r : Value} {ne a b c : Nat} {f1 f2 fs : Nat → Nat} (hY : RY ne f1 f2 fs A) (hn : ne < 13) (ha : a < 7) (hb : b < 7) (hc : c ≤ 99) (h : ∀ A', RY (ne + 1) (updN f1 ne a) (updN f2 ne b) (updN fs ne c) A' → QM A A' → A'.1 103 = A.1 103 → K none A') : Ct yX13_edge mX13_edge 0 dM (GG (.ref 111) r) [.ref 100, .int (nI a), .int (nI b), .int (nI c)] A K := by
  refine Ct.of [some (.ref 100), some (.int (nI a)), some (.int (nI b)), some (.int (nI c))] rfl rfl rfl (Nat.le_of_ble_eq_true rfl) ?_
  refine w_aload_n 1 dX13_edge_0 rfl rfl ?_
  refine w_getr 4 dX13_edge_1 rfl faX13_30 rfl rfl rfl (r := .ref 106) rfl ?_
  refine w_aload_n 5 dX13_edge_4 rfl rfl ?_
  refine w_getiv 8 dX13_edge_5 rfl faX13_360 rfl rfl rfl hY.1 ?_
  refine w_iload_n 9 dX13_edge_8 rfl rfl ?_
  refine w_iastN 10 dX13_edge_9 rfl rfl rfl (by decide) (by omega) ?_
  refine w_aload_n 11 dX13_edge_10 rfl rfl ?_
  refine w_getr 14 dX13_edge_11 rfl faX13_33 rfl rfl rfl (r := .ref 107) rfl ?_
  refine w_aload_n 15 dX13_edge_14 rfl rfl ?_
  refine w_getiv 18 dX13_edge_15 rfl faX13_360 rfl rfl rfl (v := nI ne) (by dsimp only; rw [upd2_ne (by decide)]; exact hY.1) ?_
  refine w_iload_n 19 dX13_edge_18 rfl rfl ?_
  refine w_iastN 20 dX13_edge_19 rfl rfl rfl (by decide) (by omega) ?_
  refine w_aload_n 21 dX13_edge_20 rfl rfl ?_
  refine w_getr 24 dX13_edge_21 rfl faX13_36 rfl rfl rfl (r := .ref 108) rfl ?_
  refine w_aload_n 25 dX13_edge_24 rfl rfl ?_
  refine w_getiv 28 dX13_edge_25 rfl faX13_360 rfl rfl rfl (v := nI ne) (by dsimp only; rw [upd2_ne (by decide), upd2_ne (by decide)]; exact hY.1) ?_
  refine w_iload_n 29 dX13_edge_28 rfl rfl ?_
  refine w_iastN 30 dX13_edge_29 rfl rfl rfl (by decide) (by omega) ?_
  refine w_aload_n 31 dX13_edge_30 rfl rfl ?_
  refine w_dup_r 32 dX13_edge_31 rfl ?_
  refine w_getiv 35 dX13_edge_32 rfl faX13_360 rfl rfl rfl (v := nI ne) (by dsimp only; rw [upd2_ne (by decide), upd2_ne (by decide), upd2_ne (by decide)]; exact hY.1) ?_
  refine w_iconst 36 dX13_edge_35 rfl (v := nI 1) rfl ?_
  refine w_iaddN 37 dX13_edge_36 rfl ?_
  refine w_puti 40 dX13_edge_37 rfl faX13_360 rfl rfl rfl rfl ?_
  refine wr_v dX13_edge_40 rfl ?_
  refine h _ ⟨by dsimp only; rw [upd2_at], by omega, fun i hi => ?_⟩ ((((QM.rf.a (by decide) (by decide) _ _).a (by decide) (by decide) _ _).a (by decide) (by decide) _ _).f (by decide) _) (by dsimp only; rw [upd2_ne (by decide), upd2_ne (by decide), upd2_ne (by decide), upd2_ne (by decide)])
  by_cases q : i = ne
  · subst q
    simp [upd2, updN]
    omega
  · have := hY.2.2 i (by omega)
    simp [upd2, updN, q]
    exact this

set_option maxRecDepth 4000 in
theorem c_X13_laysWorked {K : Option Value → AH → Prop} {A : AH} {r : Value} {w : WT} {s : Nat → Nat} {n : Nat} (hM : RepM w A) (hX : XR w s A) (hr : w.1 2 ≤ 7 ∧ w.1 5 ≤ 5) (hn : n ≤ 60) (h : ∀ A', RY (s 1) (e1W w s) (e2W w s) (esW w s n) A' → XR w s A' → QM A A' → A'.1 103 = A.1 103 → K none A') : Ct yX13_laysWorked mX13_laysWorked 2 dM (GG (.ref 111) r) [.ref 100, .int (nI n)] A K := by
  refine Ct.of [some (.ref 100), some (.int (nI n)), none] rfl rfl rfl (Nat.le_of_ble_eq_true rfl) ?_
  have h8 := hX.2.2.1
  have lp7 : ∀ (nf : Nat) (i : Nat) (A' : AH) (g1 g2 gs : Nat → Nat), i ≤ s 1 → RY i g1 g2 gs A' → (∀ t, t < i → g1 t = cz s t 1 ∧ g2 t = cz s t 2 ∧ gs t = stg s t n) → QM A A' → A'.1 103 = A.1 103 → s 1 - i < nf → WP mX13_laysWorked 2 dM (GG (.ref 111) r) 7 [some (.ref 100), some (.int (nI n)), some (.int (nI i))] [] A' K := by
    intro nf
    induction nf with
    | zero => intros; omega
    | succ nf ih =>
      intro i A' g1 g2 gs hi hY hg hQ hx hms
      have hM2 := hM.q hQ
      have hX2 : XR w s A' := ⟨by rw [hx]; exact hX.1, hX.2⟩
      refine w_iload_n 8 dX13_laysWorked_7 rfl rfl ?_
      refine w_aload_n 9 dX13_laysWorked_8 rfl rfl ?_
      refine w_getr 12 dX13_laysWorked_9 rfl faX13_21 rfl rfl rfl (r := .ref 103) rfl ?_
      refine w_bipush 14 dX13_laysWorked_12 rfl (v := nI 24) rfl ?_
      refine w_ialdv 15 dX13_laysWorked_14 rfl rfl rfl (by decide) (by omega) hX2.1.1 ?_
      refine w_icgeN 44 18 dX13_laysWorked_15 rfl rfl (by omega) (by omega) (fun c15 => ?_) (fun c15 => ?_)
      · skip
        refine wr_v dX13_laysWorked_44 rfl ?_
        have e : i = s 1 := by omega
        subst e
        refine h A' ⟨hY.1, hY.2.1, fun i hi => ?_⟩ hX2 hQ hx
        have h1 := hY.2.2 i hi
        obtain ⟨g1', g2', g3'⟩ := hg i hi
        rw [g1', g2', g3'] at h1
        unfold e1W e2W esW
        rw [if_pos (by omega), if_pos (by omega), if_pos (by omega), if_pos hi]
        exact h1
      · skip
        obtain ⟨z0, z1, z2, z3, z4, z5⟩ := cz_ok hX.2 i
        have zs := stg_le hX.2 i n
        refine w_aload_n 19 dX13_laysWorked_18 rfl rfl ?_
        refine w_aload_n 20 dX13_laysWorked_19 rfl rfl ?_
        refine w_iload_n 21 dX13_laysWorked_20 rfl rfl ?_
        refine w_inv1 24 dX13_laysWorked_21 rfl mlX13_363 rfl rfl (d' := 0) (by decide) (Nat.le_of_ble_eq_true rfl) (c_X13_oneOf hM2 hX2 hr c15 ?_)
        refine w_aload_n 25 dX13_laysWorked_24 rfl rfl ?_
        refine w_iload_n 26 dX13_laysWorked_25 rfl rfl ?_
        refine w_inv1 29 dX13_laysWorked_26 rfl mlX13_366 rfl rfl (d' := 0) (by decide) (Nat.le_of_ble_eq_true rfl) (c_X13_twoOf hM2 hX2 hr c15 ?_)
        refine w_aload_n 30 dX13_laysWorked_29 rfl rfl ?_
        refine w_iload_n 31 dX13_laysWorked_30 rfl rfl ?_
        refine w_iload_n 32 dX13_laysWorked_31 rfl rfl ?_
        refine w_inv2 35 dX13_laysWorked_32 rfl mlX13_369 rfl rfl (d' := 1) (by decide) (Nat.le_of_ble_eq_true rfl) (c_X13_strongOf hM2 hX2 hr c15 hn ?_)
        refine w_inv3 38 dX13_laysWorked_35 rfl mlX13_372 rfl rfl (d' := 0) (by decide) (Nat.le_of_ble_eq_true rfl) (c_X13_edge hY (by omega) z1 z2 zs (fun A3 hY3 hQ3 hx3 => ?_))
        refine w_inc2 41 dX13_laysWorked_38 rfl (by decide) rfl (v := nI (_ + 1)) (nI_1 _) ?_
        refine w_goto 7 dX13_laysWorked_41 rfl ?_
        refine ih (i + 1) A3 _ _ _ (by omega) hY3 (fun t ht => ?_) (hQ.tr hQ3) (hx3.trans hx) (by omega)
        by_cases q : t = i
        · subst q
          simp [updN]
        · have := hg t (by omega)
          simp [updN, q]
          exact this
  refine w_aload_n 1 dX13_laysWorked_0 rfl rfl ?_
  refine w_iconst 2 dX13_laysWorked_1 rfl (v := nI 0) rfl ?_
  refine w_puti 5 dX13_laysWorked_2 rfl faX13_360 rfl rfl rfl rfl ?_
  refine w_iconst 6 dX13_laysWorked_5 rfl (v := nI 0) rfl ?_
  refine w_ist2 7 dX13_laysWorked_6 rfl (by decide) rfl ?_
  exact lp7 _ 0 _ (fun _ => 0) (fun _ => 0) (fun _ => 0) (Nat.zero_le _) ⟨by dsimp only; rw [upd2_at], by decide, fun i hi => absurd hi (Nat.not_lt_zero i)⟩ (fun t ht => absurd ht (Nat.not_lt_zero t)) (QM.rf.f (by decide) _) (by dsimp only; rw [upd2_ne (by decide)]) (Nat.lt_succ_self _)

set_option maxRecDepth 4000 in
theorem c_X13_lays {K : Option Value → AH → Prop} {A : AH} {r : Value} {w : WT} {s : Nat → Nat} {n : Nat} (hC : MC w s A) (hn : n ≤ 60) (h : ∀ A', RY (s 1) (e1W w s) (e2W w s) (esW w s n) A' → XR w s A' → QM A A' → K none A') : Ct yX13_lays mX13_lays 3 dM (GG (.ref 111) r) [.ref 100, .int (nI n)] A K := by
  refine Ct.of [some (.ref 100), some (.int (nI n))] rfl rfl rfl (Nat.le_of_ble_eq_true rfl) ?_
  have hr := hC.rooms
  refine w_aload_n 1 dX13_lays_0 rfl rfl ?_
  refine w_inv0 4 dX13_lays_1 rfl mlX13_376 rfl rfl (d' := 0) (by decide) (Nat.le_of_ble_eq_true rfl) (c_X13_worksR hC (fun A1 hX1 hQ1 => ?_))
  refine w_aload_n 5 dX13_lays_4 rfl rfl ?_
  refine w_iload_n 6 dX13_lays_5 rfl rfl ?_
  refine w_inv1 9 dX13_lays_6 rfl mlX13_379 rfl rfl (d' := 2) (by decide) (Nat.le_of_ble_eq_true rfl) (c_X13_laysWorked (hC.1.q hQ1) hX1 ⟨hr.2.2.1, hr.2.2.2.2.2.1⟩ hn (fun A2 hY2 hX2 hQ2 hx2 => ?_))
  refine wr_v dX13_lays_9 rfl ?_
  exact h A2 hY2 hX2 (hQ1.tr hQ2)

set_option maxRecDepth 4000 in
theorem c_X13_held {K : Option Value → AH → Prop} {A : AH} {r : Value} {ne : Nat} {f1 f2 fs : Nat → Nat} (hY : RY ne f1 f2 fs A) (h : K (some (.int (nI (maskTo (fun e => decide (0 < fs e)) ne)))) A) : Ct yX13_held mX13_held 0 dM (GG (.ref 111) r) [.ref 100] A K := by
  refine Ct.of [some (.ref 100), none, none] rfl rfl rfl (Nat.le_of_ble_eq_true rfl) ?_
  have h13 := hY.2.1
  have lp4 : ∀ (nf : Nat) (i : Nat), i ≤ ne → ne - i < nf → WP mX13_held 0 dM (GG (.ref 111) r) 4 [some (.ref 100), some (.int (nI (maskTo (fun e => decide (0 < fs e)) i))), some (.int (nI i))] [] A K := by
    intro nf
    induction nf with
    | zero => intros; omega
    | succ nf ih =>
      intro i hi hms
      refine w_iload_n 5 dX13_held_4 rfl rfl ?_
      refine w_aload_n 6 dX13_held_5 rfl rfl ?_
      refine w_getiv 9 dX13_held_6 rfl faX13_360 rfl rfl rfl hY.1 ?_
      refine w_icgeN 37 12 dX13_held_9 rfl rfl (by omega) (by omega) (fun c9 => ?_) (fun c9 => ?_)
      · skip
        have e : i = ne := by omega
        subst e
        refine w_iload_n 38 dX13_held_37 rfl rfl ?_
        refine wr_i dX13_held_38 rfl ?_
        exact h
      · skip
        refine w_iload_n 13 dX13_held_12 rfl rfl ?_
        refine w_aload_n 14 dX13_held_13 rfl rfl ?_
        refine w_getr 17 dX13_held_14 rfl faX13_36 rfl rfl rfl (r := .ref 108) rfl ?_
        refine w_iload_n 18 dX13_held_17 rfl rfl ?_
        refine w_ialdv 19 dX13_held_18 rfl rfl rfl (by decide) (by omega) (hY.2.2 i (by omega)).2.2.1 ?_
        refine w_ifleN 28 22 dX13_held_19 rfl rfl (by have := (hY.2.2 i (by omega)).2.2.2.2.2; omega) (fun c19 => ?_) (fun c19 => ?_)
        · skip
          refine w_iconst 29 dX13_held_28 rfl (v := nI 0) rfl ?_
          refine w_ior 30 dX13_held_29 rfl ?_
          refine w_top (mask_or0 _ _) ?_
          refine w_ist1 31 dX13_held_30 rfl (by decide) rfl ?_
          refine w_inc2 34 dX13_held_31 rfl (by decide) rfl (v := nI (_ + 1)) (nI_1 _) ?_
          refine w_goto 4 dX13_held_34 rfl ?_
          refine wp_eq ?_ rfl rfl (ih (i + 1) (by omega) (by omega))
          simp [maskTo, c19]
        · skip
          refine w_iconst 23 dX13_held_22 rfl (v := nI 1) rfl ?_
          refine w_iload_n 24 dX13_held_23 rfl rfl ?_
          refine w_shl1 25 dX13_held_24 rfl (by omega) ?_
          refine w_goto 29 dX13_held_25 rfl ?_
          refine w_ior 30 dX13_held_29 rfl ?_
          refine w_top (mask_or _ _) ?_
          refine w_ist1 31 dX13_held_30 rfl (by decide) rfl ?_
          refine w_inc2 34 dX13_held_31 rfl (by decide) rfl (v := nI (_ + 1)) (nI_1 _) ?_
          refine w_goto 4 dX13_held_34 rfl ?_
          refine wp_eq ?_ rfl rfl (ih (i + 1) (by omega) (by omega))
          simp [maskTo, c19]
  refine w_iconst 1 dX13_held_0 rfl (v := nI 0) rfl ?_
  refine w_ist1 2 dX13_held_1 rfl (by decide) rfl ?_
  refine w_iconst 3 dX13_held_2 rfl (v := nI 0) rfl ?_
  refine w_ist2 4 dX13_held_3 rfl (by decide) rfl ?_
  exact lp4 _ 0 (Nat.zero_le _) (Nat.lt_succ_self _)

set_option maxRecDepth 4000 in
theorem c_X13_isCrossing {K : Option Value → AH → Prop} {A : AH} {r : Value} {ne : Nat} {f1 f2 fs : Nat → Nat} (hY : RY ne f1 f2 fs A) {s e : Nat} (hs : s < 128) (he : e < ne) (h : K (some (.int (b2i (crB f1 f2 s e)))) A) : Ct yX13_isCrossing mX13_isCrossing 1 dM (GG (.ref 111) r) [.ref 100, .int (nI s), .int (nI e)] A K := by
  refine Ct.of [some (.ref 100), some (.int (nI s)), some (.int (nI e))] rfl rfl rfl (Nat.le_of_ble_eq_true rfl) ?_
  have h13 := hY.2.1
  obtain ⟨y1, y2, y3, y4, y5, y6⟩ := hY.2.2 e he
  refine w_iload_n 1 dX13_isCrossing_0 rfl rfl ?_
  refine w_aload_n 2 dX13_isCrossing_1 rfl rfl ?_
  refine w_getr 5 dX13_isCrossing_2 rfl faX13_30 rfl rfl rfl (r := .ref 106) rfl ?_
  refine w_iload_n 6 dX13_isCrossing_5 rfl rfl ?_
  refine w_ialdv 7 dX13_isCrossing_6 rfl rfl rfl (by decide) (by omega) y1 ?_
  refine w_invs2 10 dX13_isCrossing_7 rfl slX13_277 (d' := 0) (by decide) (Nat.le_of_ble_eq_true rfl) (c_X13_bit ?_)
  rw [hasB_nI (by omega) (by omega)]
  refine w_iload_n 11 dX13_isCrossing_10 rfl rfl ?_
  refine w_aload_n 12 dX13_isCrossing_11 rfl rfl ?_
  refine w_getr 15 dX13_isCrossing_12 rfl faX13_33 rfl rfl rfl (r := .ref 107) rfl ?_
  refine w_iload_n 16 dX13_isCrossing_15 rfl rfl ?_
  refine w_ialdv 17 dX13_isCrossing_16 rfl rfl rfl (by decide) (by omega) y2 ?_
  refine w_invs2 20 dX13_isCrossing_17 rfl slX13_277 (d' := 0) (by decide) (Nat.le_of_ble_eq_true rfl) (c_X13_bit ?_)
  rw [hasB_nI (by omega) (by omega)]
  refine w_iceq 27 23 dX13_isCrossing_20 rfl rfl (fun c20 => ?_) (fun c20 => ?_)
  · skip
    refine w_iconst 28 dX13_isCrossing_27 rfl (v := nI 0) rfl ?_
    refine wr_z dX13_isCrossing_28 rfl (by first | rfl | exact nb_b2i _) ?_
    exact kq h (by rw [crB, b2i_inj.mp c20]; simp; rfl)
  · skip
    refine w_iconst 24 dX13_isCrossing_23 rfl (v := nI 1) rfl ?_
    refine w_goto 28 dX13_isCrossing_24 rfl ?_
    refine wr_z dX13_isCrossing_28 rfl (by first | rfl | exact nb_b2i _) ?_
    have c20 : ¬ s.testBit (f1 e) = s.testBit (f2 e) := fun z => c20 (b2i_inj.mpr z)
    exact kq h (by rw [crB, show (s.testBit (f1 e) != s.testBit (f2 e)) = true from bne_iff_ne.mpr c20]; rfl)

set_option maxRecDepth 4000 in
theorem c_X13_crossing {K : Option Value → AH → Prop} {A : AH} {r : Value} {ne : Nat} {f1 f2 fs : Nat → Nat} (hY : RY ne f1 f2 fs A) {s but : Nat} (hs : s < 128) (hb : but < 2 ^ 31) (h : K (some (.int (nI (crs f1 f2 fs s but ne)))) A) : Ct yX13_crossing mX13_crossing 2 dM (GG (.ref 111) r) [.ref 100, .int (nI s), .int (nI but)] A K := by
  refine Ct.of [some (.ref 100), some (.int (nI s)), some (.int (nI but)), none, none] rfl rfl rfl (Nat.le_of_ble_eq_true rfl) ?_
  have h13 := hY.2.1
  have lp5 : ∀ (nf : Nat) (i : Nat), i ≤ ne → ne - i < nf → WP mX13_crossing 2 dM (GG (.ref 111) r) 5 [some (.ref 100), some (.int (nI s)), some (.int (nI but)), some (.int (nI (sumTo (fun e => if crB f1 f2 s e && !but.testBit e then fs e else 0) i))), some (.int (nI i))] [] A K := by
    intro nf
    induction nf with
    | zero => intros; omega
    | succ nf ih =>
      intro i hi hms
      refine w_iload 7 dX13_crossing_5 rfl rfl ?_
      refine w_aload_n 8 dX13_crossing_7 rfl rfl ?_
      refine w_getiv 11 dX13_crossing_8 rfl faX13_360 rfl rfl rfl hY.1 ?_
      refine w_icgeN 53 14 dX13_crossing_11 rfl rfl (by omega) (by omega) (fun c11 => ?_) (fun c11 => ?_)
      · skip
        have e : i = ne := by omega
        subst e
        refine w_iload_n 54 dX13_crossing_53 rfl rfl ?_
        refine wr_i dX13_crossing_54 rfl ?_
        exact h
      · skip
        refine w_iload_n 15 dX13_crossing_14 rfl rfl ?_
        refine w_aload_n 16 dX13_crossing_15 rfl rfl ?_
        refine w_iload_n 17 dX13_crossing_16 rfl rfl ?_
        refine w_iload 19 dX13_crossing_17 rfl rfl ?_
        refine w_inv2 22 dX13_crossing_19 rfl mlX13_382 rfl rfl (d' := 1) (by decide) (Nat.le_of_ble_eq_true rfl) (c_X13_isCrossing hY hs c11 ?_)
        refine w_ifeqB 44 25 dX13_crossing_22 rfl rfl (fun c22 => ?_) (fun c22 => ?_)
        · skip
          refine w_iconst 45 dX13_crossing_44 rfl (v := nI 0) rfl ?_
          refine w_iaddN 46 dX13_crossing_45 rfl ?_
          refine w_ist3 47 dX13_crossing_46 rfl (by decide) rfl ?_
          refine w_inc4 50 dX13_crossing_47 rfl (by decide) rfl (v := nI (_ + 1)) (nI_1 _) ?_
          refine w_goto 5 dX13_crossing_50 rfl ?_
          refine wp_eq ?_ rfl rfl (ih (i + 1) (by omega) (by omega))
          simp [sumTo, c22]
        · skip
          refine w_iload_n 26 dX13_crossing_25 rfl rfl ?_
          refine w_iload 28 dX13_crossing_26 rfl rfl ?_
          refine w_invs2 31 dX13_crossing_28 rfl slX13_277 (d' := 0) (by decide) (Nat.le_of_ble_eq_true rfl) (c_X13_bit ?_)
          rw [hasB_nI (by omega) (by omega)]
          refine w_ifneB 44 34 dX13_crossing_31 rfl rfl (fun c31 => ?_) (fun c31 => ?_)
          · skip
            refine w_iconst 45 dX13_crossing_44 rfl (v := nI 0) rfl ?_
            refine w_iaddN 46 dX13_crossing_45 rfl ?_
            refine w_ist3 47 dX13_crossing_46 rfl (by decide) rfl ?_
            refine w_inc4 50 dX13_crossing_47 rfl (by decide) rfl (v := nI (_ + 1)) (nI_1 _) ?_
            refine w_goto 5 dX13_crossing_50 rfl ?_
            refine wp_eq ?_ rfl rfl (ih (i + 1) (by omega) (by omega))
            simp [sumTo, c22, c31]
          · skip
            refine w_aload_n 35 dX13_crossing_34 rfl rfl ?_
            refine w_getr 38 dX13_crossing_35 rfl faX13_36 rfl rfl rfl (r := .ref 108) rfl ?_
            refine w_iload 40 dX13_crossing_38 rfl rfl ?_
            refine w_ialdv 41 dX13_crossing_40 rfl rfl rfl (by decide) (by omega) (hY.2.2 i (by omega)).2.2.1 ?_
            refine w_goto 45 dX13_crossing_41 rfl ?_
            refine w_iaddN 46 dX13_crossing_45 rfl ?_
            refine w_ist3 47 dX13_crossing_46 rfl (by decide) rfl ?_
            refine w_inc4 50 dX13_crossing_47 rfl (by decide) rfl (v := nI (_ + 1)) (nI_1 _) ?_
            refine w_goto 5 dX13_crossing_50 rfl ?_
            refine wp_eq ?_ rfl rfl (ih (i + 1) (by omega) (by omega))
            simp [sumTo, c22, c31]
  refine w_iconst 1 dX13_crossing_0 rfl (v := nI 0) rfl ?_
  refine w_ist3 2 dX13_crossing_1 rfl (by decide) rfl ?_
  refine w_iconst 3 dX13_crossing_2 rfl (v := nI 0) rfl ?_
  refine w_ist4 5 dX13_crossing_3 rfl (by decide) rfl ?_
  exact lp5 _ 0 (Nat.zero_le _) (Nat.lt_succ_self _)

theorem crs_le {f1 f2 fs : Nat → Nat} {s but ne : Nat} (h13 : ne ≤ 13) (h : ∀ i, i < ne → fs i ≤ 99) : crs f1 f2 fs s but ne ≤ 1287 := by
  have h1 : crs f1 f2 fs s but ne ≤ 99 * ne := sumTo_le (fun i hi => by
    split
    · exact h i hi
    · omega)
  omega
set_option maxRecDepth 4000 in
theorem c_X13_borneBetween {K : Option Value → AH → Prop} {A : AH} {r : Value} {ne : Nat} {f1 f2 fs : Nat → Nat} (hY : RY ne f1 f2 fs A) {nn a b but : Nat} (hN : A.1 111 2 = nI nn) (h7 : nn ≤ 7) (ha : a < 7) (hb : b < 7) (hbt : but < 2 ^ 31) (h : K (some (.int (nI (leastF (fun s => crs f1 f2 fs s but ne) (sideP a b) (2 ^ nn))))) A) : Ct yX13_borneBetween mX13_borneBetween 3 dM (GG (.ref 111) r) [.ref 100, .int (nI a), .int (nI b), .int (nI but)] A K := by
  refine Ct.of [some (.ref 100), some (.int (nI a)), some (.int (nI b)), some (.int (nI but)), none, none] rfl rfl rfl (Nat.le_of_ble_eq_true rfl) ?_
  have hp := p7 h7
  have lp8 : ∀ (nf : Nat) (i : Nat), i ≤ 2 ^ nn → 2 ^ nn - i < nf → WP mX13_borneBetween 3 dM (GG (.ref 111) r) 8 [some (.ref 100), some (.int (nI a)), some (.int (nI b)), some (.int (nI but)), some (.int (nI (leastF (fun s => crs f1 f2 fs s but ne) (sideP a b) i))), some (.int (nI i))] [] A K := by
    intro nf
    induction nf with
    | zero => intros; omega
    | succ nf ih =>
      intro i hi hms
      have hl := leastF_le (fun s => crs f1 f2 fs s but ne) (sideP a b) i
      have hcl : crs f1 f2 fs i but ne ≤ 1287 := crs_le hY.2.1 (fun i hi => (hY.2.2 i hi).2.2.2.2.2)
      refine w_iload 10 dX13_borneBetween_8 rfl rfl ?_
      refine w_iconst 11 dX13_borneBetween_10 rfl (v := nI 1) rfl ?_
      refine w_aload_n 12 dX13_borneBetween_11 rfl rfl ?_
      refine w_getr 15 dX13_borneBetween_12 rfl faX13_343 rfl rfl rfl (r := .ref 111) rfl ?_
      refine w_getiv 18 dX13_borneBetween_15 rfl faX13_194 rfl rfl rfl hN ?_
      refine w_shl1 19 dX13_borneBetween_18 rfl (by omega) ?_
      refine w_icgeN 67 22 dX13_borneBetween_19 rfl rfl (by omega) (by omega) (fun c19 => ?_) (fun c19 => ?_)
      · skip
        have e : i = 2 ^ nn := by omega
        subst e
        refine w_iload 69 dX13_borneBetween_67 rfl rfl ?_
        refine wr_i dX13_borneBetween_69 rfl ?_
        exact h
      · skip
        refine w_iload 24 dX13_borneBetween_22 rfl rfl ?_
        refine w_iload_n 25 dX13_borneBetween_24 rfl rfl ?_
        refine w_invs2 28 dX13_borneBetween_25 rfl slX13_277 (d' := 0) (by decide) (Nat.le_of_ble_eq_true rfl) (c_X13_bit ?_)
        rw [hasB_nI (by omega) (by omega)]
        refine w_ifeqB 61 31 dX13_borneBetween_28 rfl rfl (fun c28 => ?_) (fun c28 => ?_)
        · skip
          refine w_inc5 64 dX13_borneBetween_61 rfl (by decide) rfl (v := nI (_ + 1)) (nI_1 _) ?_
          refine w_goto 8 dX13_borneBetween_64 rfl ?_
          refine wp_eq ?_ rfl rfl (ih (i + 1) (by omega) (by omega))
          simp only [leastF]
          rw [if_neg (by simp [sideP, c28])]
        · skip
          refine w_iload 33 dX13_borneBetween_31 rfl rfl ?_
          refine w_iload_n 34 dX13_borneBetween_33 rfl rfl ?_
          refine w_invs2 37 dX13_borneBetween_34 rfl slX13_277 (d' := 0) (by decide) (Nat.le_of_ble_eq_true rfl) (c_X13_bit ?_)
          rw [hasB_nI (by omega) (by omega)]
          refine w_ifneB 61 40 dX13_borneBetween_37 rfl rfl (fun c37 => ?_) (fun c37 => ?_)
          · skip
            refine w_inc5 64 dX13_borneBetween_61 rfl (by decide) rfl (v := nI (_ + 1)) (nI_1 _) ?_
            refine w_goto 8 dX13_borneBetween_64 rfl ?_
            refine wp_eq ?_ rfl rfl (ih (i + 1) (by omega) (by omega))
            simp only [leastF]
            rw [if_neg (by simp [sideP, c37])]
          · skip
            refine w_aload_n 41 dX13_borneBetween_40 rfl rfl ?_
            refine w_iload 43 dX13_borneBetween_41 rfl rfl ?_
            refine w_iload_n 44 dX13_borneBetween_43 rfl rfl ?_
            refine w_inv2 47 dX13_borneBetween_44 rfl mlX13_386 rfl rfl (d' := 2) (by decide) (Nat.le_of_ble_eq_true rfl) (c_X13_crossing hY (by omega) hbt ?_)
            refine w_iload 49 dX13_borneBetween_47 rfl rfl ?_
            refine w_icgeN 61 52 dX13_borneBetween_49 rfl rfl (by omega) (by omega) (fun c49 => ?_) (fun c49 => ?_)
            · skip
              refine w_inc5 64 dX13_borneBetween_61 rfl (by decide) rfl (v := nI (_ + 1)) (nI_1 _) ?_
              refine w_goto 8 dX13_borneBetween_64 rfl ?_
              refine wp_eq ?_ rfl rfl (ih (i + 1) (by omega) (by omega))
              simp only [leastF]
              rw [if_neg (fun z => by have := z.2; omega)]
            · skip
              refine w_aload_n 53 dX13_borneBetween_52 rfl rfl ?_
              refine w_iload 55 dX13_borneBetween_53 rfl rfl ?_
              refine w_iload_n 56 dX13_borneBetween_55 rfl rfl ?_
              refine w_inv2 59 dX13_borneBetween_56 rfl mlX13_386 rfl rfl (d' := 2) (by decide) (Nat.le_of_ble_eq_true rfl) (c_X13_crossing hY (by omega) hbt ?_)
              refine w_ist4 61 dX13_borneBetween_59 rfl (by decide) rfl ?_
              refine w_inc5 64 dX13_borneBetween_61 rfl (by decide) rfl (v := nI (_ + 1)) (nI_1 _) ?_
              refine w_goto 8 dX13_borneBetween_64 rfl ?_
              refine wp_eq ?_ rfl rfl (ih (i + 1) (by omega) (by omega))
              simp only [leastF]
              rw [if_pos ⟨by simp [sideP, c28, c37], by omega⟩]
  refine w_ldcw 3 dX13_borneBetween_0 rfl kcX13_385 ?_
  refine w_top (show _ = nI 99999 from rfl) ?_
  refine w_ist4 5 dX13_borneBetween_3 rfl (by decide) rfl ?_
  refine w_iconst 6 dX13_borneBetween_5 rfl (v := nI 0) rfl ?_
  refine w_ist5 8 dX13_borneBetween_6 rfl (by decide) rfl ?_
  exact lp8 _ 0 (Nat.zero_le _) (Nat.lt_succ_self _)

set_option maxRecDepth 4000 in
theorem c_X13_together {K : Option Value → AH → Prop} {A : AH} {r : Value} {ne : Nat} {f1 f2 fs : Nat → Nat} (hY : RY ne f1 f2 fs A) {a but : Nat} (ha : a < 7) (hbt : but < 2 ^ 31) (h : K (some (.int (nI (tgV f1 f2 fs ne a but)))) A) : Ct yX13_together mX13_together 2 dM (GG (.ref 111) r) [.ref 100, .int (nI a), .int (nI but)] A K := by
  refine Ct.of [some (.ref 100), some (.int (nI a)), some (.int (nI but)), none, none, none] rfl rfl rfl (Nat.le_of_ble_eq_true rfl) ?_
  have h13 := hY.2.1
  have hf : ∀ i, i < ne → f1 i < 7 ∧ f2 i < 7 := fun i hi => ⟨(hY.2.2 i hi).2.2.2.1, (hY.2.2 i hi).2.2.2.2.1⟩
  have lp17 : ∀ (nf : Nat) (n i : Nat), n ≤ 7 → i ≤ ne → WP mX13_together 2 dM (GG (.ref 111) r) 83 [some (.ref 100), some (.int (nI a)), some (.int (nI but)), some (.int (nI (tgO f1 f2 (okB fs but) ne a (n + 1)))), some (.int (nI n)), none] [] A K → ne - i < nf → WP mX13_together 2 dM (GG (.ref 111) r) 17 [some (.ref 100), some (.int (nI a)), some (.int (nI but)), some (.int (nI (tgI f1 f2 (okB fs but) (tgO f1 f2 (okB fs but) ne a n) i))), some (.int (nI n)), some (.int (nI i))] [] A K := by
    intro nf
    induction nf with
    | zero => intros; omega
    | succ nf ih =>
      intro n i hn hi hk hms
      have hlt := tgI_lt (ok := okB fs but) (tgO_lt (ok := okB fs but) ha hf n) (e := i) (fun j hj => hf j (by omega))
      refine w_iload 19 dX13_together_17 rfl rfl ?_
      refine w_aload_n 20 dX13_together_19 rfl rfl ?_
      refine w_getiv 23 dX13_together_20 rfl faX13_360 rfl rfl rfl hY.1 ?_
      refine w_icgeN 83 26 dX13_together_23 rfl rfl (by omega) (by omega) (fun c23 => ?_) (fun c23 => ?_)
      · skip
        have e : i = ne := by omega
        subst e
        refine wp_to ?_ rfl rfl hk
        simp [lle, tgO]
      · skip
        refine w_aload_n 27 dX13_together_26 rfl rfl ?_
        refine w_getr 30 dX13_together_27 rfl faX13_36 rfl rfl rfl (r := .ref 108) rfl ?_
        refine w_iload 32 dX13_together_30 rfl rfl ?_
        refine w_ialdv 33 dX13_together_32 rfl rfl rfl (by decide) (by omega) (hY.2.2 i (by omega)).2.2.1 ?_
        refine w_ifleN 77 36 dX13_together_33 rfl rfl (by have := (hY.2.2 i (by omega)).2.2.2.2.2; omega) (fun c33 => ?_) (fun c33 => ?_)
        · skip
          refine w_inc5 80 dX13_together_77 rfl (by decide) rfl (v := nI (_ + 1)) (nI_1 _) ?_
          refine w_goto 17 dX13_together_80 rfl ?_
          refine wp_eq ?_ rfl rfl (ih n (i + 1) (by omega) (by omega) hk (by omega))
          simp [tgI, okB, c33]
        · skip
          refine w_iload_n 37 dX13_together_36 rfl rfl ?_
          refine w_iload 39 dX13_together_37 rfl rfl ?_
          refine w_invs2 42 dX13_together_39 rfl slX13_277 (d' := 0) (by decide) (Nat.le_of_ble_eq_true rfl) (c_X13_bit ?_)
          rw [hasB_nI (by omega) (by omega)]
          refine w_ifneB 77 45 dX13_together_42 rfl rfl (fun c42 => ?_) (fun c42 => ?_)
          · skip
            refine w_inc5 80 dX13_together_77 rfl (by decide) rfl (v := nI (_ + 1)) (nI_1 _) ?_
            refine w_goto 17 dX13_together_80 rfl ?_
            refine wp_eq ?_ rfl rfl (ih n (i + 1) (by omega) (by omega) hk (by omega))
            simp [tgI, okB, c33, c42]
          · skip
            refine w_aload_n 46 dX13_together_45 rfl rfl ?_
            refine w_iload_n 47 dX13_together_46 rfl rfl ?_
            refine w_iload 49 dX13_together_47 rfl rfl ?_
            refine w_inv2 52 dX13_together_49 rfl mlX13_382 rfl rfl (d' := 1) (by decide) (Nat.le_of_ble_eq_true rfl) (c_X13_isCrossing hY (by omega) c23 ?_)
            obtain ⟨y4, y5⟩ := hf i c23
            refine w_ifeqB 77 55 dX13_together_52 rfl rfl (fun c52 => ?_) (fun c52 => ?_)
            · skip
              refine w_inc5 80 dX13_together_77 rfl (by decide) rfl (v := nI (_ + 1)) (nI_1 _) ?_
              refine w_goto 17 dX13_together_80 rfl ?_
              refine wp_eq ?_ rfl rfl (ih n (i + 1) (by omega) (by omega) hk (by omega))
              simp [tgI, okB, c33, c42, c52]
            · skip
              refine w_iload_n 56 dX13_together_55 rfl rfl ?_
              refine w_iconst 57 dX13_together_56 rfl (v := nI 1) rfl ?_
              refine w_aload_n 58 dX13_together_57 rfl rfl ?_
              refine w_getr 61 dX13_together_58 rfl faX13_30 rfl rfl rfl (r := .ref 106) rfl ?_
              refine w_iload 63 dX13_together_61 rfl rfl ?_
              refine w_ialdv 64 dX13_together_63 rfl rfl rfl (by decide) (by omega) (hY.2.2 i (by omega)).1 ?_
              refine w_shl1 65 dX13_together_64 rfl (by omega) ?_
              refine w_iconst 66 dX13_together_65 rfl (v := nI 1) rfl ?_
              refine w_aload_n 67 dX13_together_66 rfl rfl ?_
              refine w_getr 70 dX13_together_67 rfl faX13_33 rfl rfl rfl (r := .ref 107) rfl ?_
              refine w_iload 72 dX13_together_70 rfl rfl ?_
              refine w_ialdv 73 dX13_together_72 rfl rfl rfl (by decide) (by omega) (hY.2.2 i (by omega)).2.1 ?_
              refine w_shl1 74 dX13_together_73 rfl (by omega) ?_
              refine w_ior 75 dX13_together_74 rfl ?_
              refine w_top (nI_or _ _) ?_
              refine w_ior 76 dX13_together_75 rfl ?_
              refine w_top (nI_or _ _) ?_
              refine w_ist3 77 dX13_together_76 rfl (by decide) rfl ?_
              refine w_inc5 80 dX13_together_77 rfl (by decide) rfl (v := nI (_ + 1)) (nI_1 _) ?_
              refine w_goto 17 dX13_together_80 rfl ?_
              refine wp_eq ?_ rfl rfl (ih n (i + 1) (by omega) (by omega) hk (by omega))
              simp [tgI, okB, c33, c42, c52]
  have lp7 : ∀ (nf : Nat) (n : Nat), n ≤ 7 → 7 - n < nf → WP mX13_together 2 dM (GG (.ref 111) r) 7 [some (.ref 100), some (.int (nI a)), some (.int (nI but)), some (.int (nI (tgO f1 f2 (okB fs but) ne a n))), some (.int (nI n)), none] [] A K := by
    intro nf
    induction nf with
    | zero => intros; omega
    | succ nf ih =>
      intro n hn hms
      refine w_iload 9 dX13_together_7 rfl rfl ?_
      refine w_bipush 11 dX13_together_9 rfl (v := nI 7) rfl ?_
      refine w_icgeN 89 14 dX13_together_11 rfl rfl (by omega) (by omega) (fun c11 => ?_) (fun c11 => ?_)
      · skip
        have e : n = 7 := by omega
        subst e
        refine w_iload_n 90 dX13_together_89 rfl rfl ?_
        refine wr_i dX13_together_90 rfl ?_
        exact h
      · skip
        refine w_iconst 15 dX13_together_14 rfl (v := nI 0) rfl ?_
        refine w_ist5 17 dX13_together_15 rfl (by decide) rfl ?_
        refine lp17 _ n 0 (by omega) (Nat.zero_le _) ?_ (Nat.lt_succ_self _)
        refine w_inc4 86 dX13_together_83 rfl (by decide) rfl (v := nI (_ + 1)) (nI_1 _) ?_
        refine w_goto 7 dX13_together_86 rfl ?_
        exact ih (n + 1) (by omega) (by omega)
  refine w_iconst 1 dX13_together_0 rfl (v := nI 1) rfl ?_
  refine w_iload_n 2 dX13_together_1 rfl rfl ?_
  refine w_shl1 3 dX13_together_2 rfl (by omega) ?_
  refine w_ist3 4 dX13_together_3 rfl (by decide) rfl ?_
  refine w_iconst 5 dX13_together_4 rfl (v := nI 0) rfl ?_
  refine w_ist4 7 dX13_together_5 rfl (by decide) rfl ?_
  exact lp7 _ 0 (Nat.zero_le _) (Nat.lt_succ_self _)

set_option maxRecDepth 4000 in
theorem c_X13_partsBut {K : Option Value → AH → Prop} {A : AH} {r : Value} {ne : Nat} {f1 f2 fs : Nat → Nat} (hY : RY ne f1 f2 fs A) {nn but : Nat} (hN : A.1 111 2 = nI nn) (h7 : nn ≤ 7) (hbt : but < 2 ^ 31) (h : K (some (.int (nI (ptS (fun a => tgV f1 f2 fs ne a but) nn).1))) A) : Ct yX13_partsBut mX13_partsBut 3 dM (GG (.ref 111) r) [.ref 100, .int (nI but)] A K := by
  refine Ct.of [some (.ref 100), some (.int (nI but)), none, none, none] rfl rfl rfl (Nat.le_of_ble_eq_true rfl) ?_
  have hf : ∀ i, i < ne → f1 i < 7 ∧ f2 i < 7 := fun i hi => ⟨(hY.2.2 i hi).2.2.2.1, (hY.2.2 i hi).2.2.2.2.1⟩
  have lp7 : ∀ (nf : Nat) (i : Nat), i ≤ nn → nn - i < nf → WP mX13_partsBut 3 dM (GG (.ref 111) r) 7 [some (.ref 100), some (.int (nI but)), some (.int (nI (ptS (fun a => tgV f1 f2 fs ne a but) i).1)), some (.int (nI (ptS (fun a => tgV f1 f2 fs ne a but) i).2)), some (.int (nI i))] [] A K := by
    intro nf
    induction nf with
    | zero => intros; omega
    | succ nf ih =>
      intro i hi hms
      have hlt : (ptS (fun a => tgV f1 f2 fs ne a but) i).2 < 2 ^ 7 := ptS_lt (fun a ha => tgO_lt ha hf 7) (by omega)
      refine w_iload 9 dX13_partsBut_7 rfl rfl ?_
      refine w_aload_n 10 dX13_partsBut_9 rfl rfl ?_
      refine w_getr 13 dX13_partsBut_10 rfl faX13_343 rfl rfl rfl (r := .ref 111) rfl ?_
      refine w_getiv 16 dX13_partsBut_13 rfl faX13_194 rfl rfl rfl hN ?_
      refine w_icgeN 52 19 dX13_partsBut_16 rfl rfl (by omega) (by omega) (fun c16 => ?_) (fun c16 => ?_)
      · skip
        have e : i = nn := by omega
        subst e
        refine w_iload_n 53 dX13_partsBut_52 rfl rfl ?_
        refine wr_i dX13_partsBut_53 rfl ?_
        exact h
      · skip
        refine w_iload_n 20 dX13_partsBut_19 rfl rfl ?_
        refine w_iload_n 21 dX13_partsBut_20 rfl rfl ?_
        refine w_iload 23 dX13_partsBut_21 rfl rfl ?_
        refine w_invs2 26 dX13_partsBut_23 rfl slX13_277 (d' := 0) (by decide) (Nat.le_of_ble_eq_true rfl) (c_X13_bit ?_)
        rw [hasB_nI (by omega) (by omega)]
        refine w_ifeqB 33 29 dX13_partsBut_26 rfl rfl (fun c26 => ?_) (fun c26 => ?_)
        · skip
          refine w_iconst 34 dX13_partsBut_33 rfl (v := nI 1) rfl ?_
          refine w_iaddN 35 dX13_partsBut_34 rfl ?_
          refine w_ist2 36 dX13_partsBut_35 rfl (by decide) rfl ?_
          refine w_iload_n 37 dX13_partsBut_36 rfl rfl ?_
          refine w_aload_n 38 dX13_partsBut_37 rfl rfl ?_
          refine w_iload 40 dX13_partsBut_38 rfl rfl ?_
          refine w_iload_n 41 dX13_partsBut_40 rfl rfl ?_
          refine w_inv2 44 dX13_partsBut_41 rfl mlX13_389 rfl rfl (d' := 2) (by decide) (Nat.le_of_ble_eq_true rfl) (c_X13_together hY (by omega) hbt ?_)
          refine w_ior 45 dX13_partsBut_44 rfl ?_
          refine w_top (nI_or _ _) ?_
          refine w_ist3 46 dX13_partsBut_45 rfl (by decide) rfl ?_
          refine w_inc4 49 dX13_partsBut_46 rfl (by decide) rfl (v := nI (_ + 1)) (nI_1 _) ?_
          refine w_goto 7 dX13_partsBut_49 rfl ?_
          refine wp_eq ?_ rfl rfl (ih (i + 1) (by omega) (by omega))
          simp [ptS, c26]
        · skip
          refine w_iconst 30 dX13_partsBut_29 rfl (v := nI 0) rfl ?_
          refine w_goto 34 dX13_partsBut_30 rfl ?_
          refine w_iaddN 35 dX13_partsBut_34 rfl ?_
          refine w_ist2 36 dX13_partsBut_35 rfl (by decide) rfl ?_
          refine w_iload_n 37 dX13_partsBut_36 rfl rfl ?_
          refine w_aload_n 38 dX13_partsBut_37 rfl rfl ?_
          refine w_iload 40 dX13_partsBut_38 rfl rfl ?_
          refine w_iload_n 41 dX13_partsBut_40 rfl rfl ?_
          refine w_inv2 44 dX13_partsBut_41 rfl mlX13_389 rfl rfl (d' := 2) (by decide) (Nat.le_of_ble_eq_true rfl) (c_X13_together hY (by omega) hbt ?_)
          refine w_ior 45 dX13_partsBut_44 rfl ?_
          refine w_top (nI_or _ _) ?_
          refine w_ist3 46 dX13_partsBut_45 rfl (by decide) rfl ?_
          refine w_inc4 49 dX13_partsBut_46 rfl (by decide) rfl (v := nI (_ + 1)) (nI_1 _) ?_
          refine w_goto 7 dX13_partsBut_49 rfl ?_
          refine wp_eq ?_ rfl rfl (ih (i + 1) (by omega) (by omega))
          simp [ptS, c26]
  refine w_iconst 1 dX13_partsBut_0 rfl (v := nI 0) rfl ?_
  refine w_ist2 2 dX13_partsBut_1 rfl (by decide) rfl ?_
  refine w_iconst 3 dX13_partsBut_2 rfl (v := nI 0) rfl ?_
  refine w_ist3 4 dX13_partsBut_3 rfl (by decide) rfl ?_
  refine w_iconst 5 dX13_partsBut_4 rfl (v := nI 0) rfl ?_
  refine w_ist4 7 dX13_partsBut_5 rfl (by decide) rfl ?_
  exact lp7 _ 0 (Nat.zero_le _) (Nat.lt_succ_self _)

