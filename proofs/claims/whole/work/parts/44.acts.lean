/-! ===== acts ===== -/
abbrev acL : List Nat := [0, 44, 45, 46, 47, 48, 49, 50, 51, 52, 53, 54, 55, 58, 59]
def Qa (A A' : AH) : Prop := OffL acL A A' ∧ Z0 A'
theorem Qk.a {A A' : AH} (h : Qk A A') : Qa A A' := ⟨h.1.mono (by intro x hx; simp at hx ⊢; omega), h.2⟩
theorem Qi.a {A A' : AH} (h : Qi A A') : Qa A A' := h.q.a
theorem Qa.tr {A B C : AH} (h : Qa A B) (h2 : Qa B C) : Qa A C := ⟨h.1.tr h2.1, h2.2⟩
theorem Qa.sub {A A' : AH} (h : Z0 A) {l : List Nat} (hO : OffL l A A') (hl : ∀ x ∈ l, x ∈ acL) (h52 : 52 ∉ l) (h53 : 53 ∉ l) : Qa A A' := ⟨hO.mono hl, by rw [Z0, (hO 52 h52).1, (hO 53 h53).1]; exact h⟩
theorem CI.chg {w : WT} {s s' : Nat → Nat} {A A' : AH} (h : CI w s A) (q : Qa A A') (hS : RepS s' A') (hs : okS s') : CI w s' A' := by
  obtain ⟨h1, h2, h3, h4, h5⟩ := h
  exact ⟨h1.cong (fun x a b => (q.1 x (by intro z; simp at z; omega)).1), h2, hS, hs, q.2⟩
theorem RepP.cng {H I : Nat → Nat → Nat} {nx c m : Nat} {A A' : AH} (h : RepP H I nx c m A) (h5 : A'.1 45 = A.1 45) (h6 : A'.1 46 = A.1 46) (h7 : A'.1 47 = A.1 47) : RepP H I nx c m A' := by
  unfold RepP
  rw [h5, h6, h7]
  exact h
theorem RepP.offq {H I : Nat → Nat → Nat} {nx c m : Nat} {A A' : AH} (h : RepP H I nx c m A) (q : Qk A A') : RepP H I nx c m A' := h.cng (q.1 45 (by decide)).1 (q.1 46 (by decide)).1 (q.1 47 (by decide)).1
def kpC (c : Nat) : Nat := if c < 16 then c + 1 else 16
def yrS (s : Nat → Nat) : Nat → Nat := updN s 0 (s 0 + 1)
def snS (s : Nat → Nat) (t : Nat) : Nat → Nat := updN s 2 (s 2 ||| 2 ^ t)
def dnS (s : Nat → Nat) (t : Nat) : Nat → Nat := updN (updN s 2 (s 2 &&& (255 - 2 ^ t))) (3 + t * 6 + 5) (s 0)
def spS (w : WT) (s : Nat → Nat) (k : Nat) : Nat → Nat := addR s (w.2 5 k 0) (w.2 5 k 1) (w.2 5 k 2)
theorem yrS_ok {s : Nat → Nat} (h : okS s) (h9 : s 0 < 999) : okS (yrS s) := by
  obtain ⟨h0, h1, h2, h3⟩ := h
  have e0 : yrS s 0 = s 0 + 1 := updN_at
  have e : ∀ k, k ≠ 0 → yrS s k = s k := fun k hk => updN_ne hk
  refine ⟨by omega, by rw [e 1 (by omega)]; exact h1, by rw [e 2 (by omega)]; exact h2, fun t ht => ?_⟩
  rw [e 1 (by omega)] at ht
  obtain ⟨a, b, c, d, f, g⟩ := h3 t ht
  rw [e _ (by omega), e _ (by omega), e _ (by omega), e _ (by omega), e _ (by omega), e _ (by omega), e0]
  exact ⟨a, b, c, d, f, by omega⟩
theorem snS_ok {s : Nat → Nat} (h : okS s) {t : Nat} (ht : t < 8) : okS (snS s t) := by
  obtain ⟨h0, h1, h2, h3⟩ := h
  have e : ∀ k, k ≠ 2 → snS s t k = s k := fun k hk => updN_ne hk
  refine ⟨by rw [e 0 (by omega)]; exact h0, by rw [e 1 (by omega)]; exact h1, ?_, fun u hu => ?_⟩
  · show updN s 2 _ 2 < 256
    rw [updN_at]
    exact Nat.or_lt_two_pow (n := 8) h2 (Nat.pow_lt_pow_right (by decide) ht)
  · rw [e 1 (by omega)] at hu
    rw [e _ (by omega), e _ (by omega), e _ (by omega), e _ (by omega), e _ (by omega), e _ (by omega), e 0 (by omega)]
    exact h3 u hu
theorem dnS_ok {s : Nat → Nat} (h : okS s) {t : Nat} (ht : t < 8) : okS (dnS s t) := by
  obtain ⟨h0, h1, h2, h3⟩ := h
  have e : ∀ k, k ≠ 2 → k ≠ 3 + t * 6 + 5 → dnS s t k = s k := fun k hk hk2 => (updN_ne hk2).trans (updN_ne hk)
  have e2 : dnS s t 2 = s 2 &&& (255 - 2 ^ t) := (updN_ne (by omega)).trans updN_at
  refine ⟨by rw [e 0 (by omega) (by omega)]; exact h0, by rw [e 1 (by omega) (by omega)]; exact h1, ?_, fun u hu => ?_⟩
  · rw [e2]; exact Nat.lt_of_le_of_lt Nat.and_le_left h2
  · rw [e 1 (by omega) (by omega)] at hu
    obtain ⟨a, b, c, d, f, g⟩ := h3 u hu
    rw [e (3 + u * 6) (by omega) (by omega), e (3 + u * 6 + 1) (by omega) (by omega), e (3 + u * 6 + 2) (by omega) (by omega), e (3 + u * 6 + 3) (by omega) (by omega), e (3 + u * 6 + 4) (by omega) (by omega), e 0 (by omega) (by omega)]
    refine ⟨a, b, c, d, f, ?_⟩
    by_cases q : u = t
    · subst q
      show updN _ _ _ _ ≤ _
      rw [updN_at]
      omega
    · rw [e _ (by omega) (by omega)]; exact g
theorem addR_ok {s : Nat → Nat} (h : okS s) {a b c : Nat} (h8 : s 1 < 8) (ha : a < 7) (hb : b < 7) (hc : c ≤ 99) : okS (addR s a b c) := by
  obtain ⟨h0, h1, h2, h3⟩ := h
  obtain ⟨n0, n1, n2, n3, n4, n5⟩ := addR_new (s := s) (a := a) (b := b) (c := c)
  have z0 : addR s a b c 0 = s 0 := addR_lo (by omega) (by omega)
  refine ⟨by rw [z0]; exact h0, by rw [addR_1]; omega, by rw [addR_lo (by omega) (by omega)]; exact h2, fun t ht => ?_⟩
  rw [addR_1] at ht
  rw [z0]
  by_cases q : t = s 1
  · subst q
    rw [show 3 + s 1 * 6 = 3 + s 1 * 6 + 0 from rfl, n0, n1, n2, n3, n4, n5]
    omega
  · obtain ⟨a', b', c', d', f', g'⟩ := h3 t (by omega)
    rw [addR_lo (by omega) (by omega), addR_lo (by omega) (by omega), addR_lo (by omega) (by omega), addR_lo (by omega) (by omega), addR_lo (by omega) (by omega), addR_lo (by omega) (by omega)]
    exact ⟨a', b', c', d', f', g'⟩
def tYear (w : WT) (s : Nat → Nat) : Nat := tX (okW1 w) (if s 0 < 999 then 0 else 3)
def tSnap (s : Nat → Nat) (t : Int32) : Nat := tX (okR (s 1) t) (if 0 < stg s (cl t) 0 then 0 else 5)
def tSpin (w : WT) (s : Nat → Nat) (k : Int32) : Nat := tX (okR (w.1 5) k) (if s 1 < 8 then 0 else 3)
def tDarn (s : Nat → Nat) (t : Int32) : Nat := tX (okR (s 1) t) (if (s 2).testBit (cl t) = true ∨ 0 < s 0 - cz s (cl t) 5 then 0 else 5)
def tUndo (c : Nat) : Nat := if 0 < c then 0 else 6
def tImage (w : WT) (m : Nat) : Nat := tX (okW1 w) (if m < 3 then 0 else 3)
def tBack (m : Nat) (i : Int32) : Nat := t1 (okR m i)
def vYear (w : WT) (s : Nat → Nat) : Nat := HM w s 0 &&& (255 ^^^ HM w (yrS s) 0)
set_option maxRecDepth 4000 in
theorem a_X11_year {K : Option Value → AH → Prop} {A : AH} {w : WT} {s : Nat → Nat} {H I : Nat → Nat → Nat} {nx c m : Nat} (hC : CI w s A) (hP : RepP H I nx c m A) (hf : tYear w s ≠ 0 → ∀ A', Qk A A' → A'.1 0 8 = nI (tYear w s) → K (some (.int (-1))) A') (hs : tYear w s = 0 → ∀ A', CI w (yrS s) A' → RepP (pushH s H) I ((nx + 1) % 16) (kpC c) m A' → Qa A A' → A'.1 0 8 = nI 0 → K (some (.int (nI (vYear w s)))) A') : WP mX11_year 5 dC gC 23 [some (.ref 0), none] [.int (nI (if s 0 < 999 then 0 else 3)), .int (nI (t1 (okW1 w))), .ref 0] A K := by
  refine w_invs2 26 dX11_year_23 rfl slX11_126 (d' := 0) (by decide) (Nat.le_of_ble_eq_true rfl) (c_X11_firstOfN (Nat.lt_of_le_of_lt (t1_le _) (by decide)) ?_)
  rw [tX_first]
  rw [show tX (okW1 w) (if s 0 < 999 then 0 else 3) = tYear w s from rfl]
  refine w_inv1 29 dX11_year_26 rfl mlX11_87 rfl rfl (d' := 0) (by decide) (Nat.le_of_ble_eq_true rfl) (c_X11_refused (by unfold tYear; unfold tX; split <;> (try split) <;> omega) ?_)
  refine w_ifeqB 34 32 dX11_year_29 rfl rfl (fun c29 => ?_) (fun c29 => ?_)
  · skip
    have hz : tYear w s = 0 := Decidable.not_not.mp (of_decide_eq_false c29)
    have hC1 := hC.off (hC.ref (nI (tYear w s)))
    have hP1 := hP.offq (hC.ref (nI (tYear w s)))
    obtain ⟨k1, k2⟩ := tX_0 hz
    have h9 : s 0 < 999 := by split at k2 <;> simp_all
    refine w_aload_n 35 dX11_year_34 rfl rfl ?_
    refine w_iconst 36 dX11_year_35 rfl (v := nI 0) rfl ?_
    refine w_inv1 39 dX11_year_36 rfl mlX11_145 rfl rfl (d' := 4) (by decide) (Nat.le_of_ble_eq_true rfl) (c_X11_goBehind hC1 (by decide) (fun A2 hR hQ => ?_))
    have hC2 := hC1.off hQ.q
    have hP2 := hP1.offq hQ.q
    refine w_aload_n 40 dX11_year_39 rfl rfl ?_
    refine w_getr 43 dX11_year_40 rfl faX11_40 rfl rfl rfl (r := .ref 48) rfl ?_
    refine w_inv0 46 dX11_year_43 rfl mlX11_161 rfl rfl (d' := 0) (by decide) (Nat.le_of_ble_eq_true rfl) (c_X0_heldH (show BRw w s _ _ from hR) ?_)
    refine w_ist1 47 dX11_year_46 rfl (by decide) rfl ?_
    refine w_aload_n 48 dX11_year_47 rfl rfl ?_
    refine w_getr 51 dX11_year_48 rfl faX11_33 rfl rfl rfl (r := .ref 45) rfl ?_
    refine w_aload_n 52 dX11_year_51 rfl rfl ?_
    refine w_getr 55 dX11_year_52 rfl faX11_26 rfl rfl rfl (r := .ref 43) rfl ?_
    refine w_inv1 58 dX11_year_55 rfl mlX11_320 rfl rfl (d' := 2) (by decide) (Nat.le_of_ble_eq_true rfl) (c_X4_keep hP2 hC2.2.2.1 (fun A3 hP3 hO3 => ?_))
    have hS3 : RepS s A3 := hC2.2.2.1.cong (hO3 44 (by decide)).1
    refine w_aload_n 59 dX11_year_58 rfl rfl ?_
    refine w_getr 62 dX11_year_59 rfl faX11_26 rfl rfl rfl (r := .ref 43) rfl ?_
    refine w_inv0 65 dX11_year_62 rfl mlX11_324 rfl rfl (d' := 0) (by decide) (Nat.le_of_ble_eq_true rfl) (c_X7_passYear hS3 ?_)
    have hS4 := hS3.upd 0 (s 0 + 1)
    have hO4 : OffL [44, 45, 46] A2 (upd2 A3.1 44 0 (nI (s 0 + 1)), A3.2) := (hO3.mono (by intro x hx; simp at hx ⊢; omega)).upd (by decide) _ _
    have hQ4 := Qa.sub hC2.2.2.2.2 hO4 (by decide) (by decide) (by decide)
    have hC4 : CI w (yrS s) _ := hC2.chg hQ4 hS4 (yrS_ok hC.2.2.2.1 h9)
    have hP4 : RepP (pushH s H) I ((nx + 1) % 16) (kpC c) m (upd2 A3.1 44 0 (nI (s 0 + 1)), A3.2) := hP3.cng (by dsimp only; rw [upd2_ne (by decide)]) (by dsimp only; rw [upd2_ne (by decide)]) (by dsimp only; rw [upd2_ne (by decide)])
    refine w_aload_n 66 dX11_year_65 rfl rfl ?_
    refine w_iconst 67 dX11_year_66 rfl (v := nI 0) rfl ?_
    refine w_inv1 70 dX11_year_67 rfl mlX11_145 rfl rfl (d' := 4) (by decide) (Nat.le_of_ble_eq_true rfl) (c_X11_goBehind hC4 (by decide) (fun A5 hR5 hQ5 => ?_))
    refine w_iload_n 71 dX11_year_70 rfl rfl ?_
    refine w_aload_n 72 dX11_year_71 rfl rfl ?_
    refine w_getr 75 dX11_year_72 rfl faX11_40 rfl rfl rfl (r := .ref 48) rfl ?_
    refine w_inv0 78 dX11_year_75 rfl mlX11_161 rfl rfl (d' := 0) (by decide) (Nat.le_of_ble_eq_true rfl) (c_X0_heldH (show BRw w (yrS s) _ _ from hR5) ?_)
    refine w_iconst 79 dX11_year_78 rfl (v := (-1)) rfl ?_
    refine w_ixor 80 dX11_year_79 rfl ?_
    refine w_iand 81 dX11_year_80 rfl ?_
    refine w_top (not_and (HM_lt w s 0)) ?_
    refine wr_i dX11_year_81 rfl ?_
    refine hs hz A5 (hC4.off hQ5.q) (hP4.offq hQ5.q) ((((hC.ref _).a.tr hQ.a).tr hQ4).tr hQ5.a) ?_
    rw [(hQ5.1 0 (by decide)).1, (hO4 0 (by decide)).1, (hQ.1 0 (by decide)).1, ← hz]
    exact upd2_at
  · skip
    refine w_iconst 33 dX11_year_32 rfl (v := (-1)) rfl ?_
    refine wr_i dX11_year_33 rfl ?_
    exact hf (of_decide_eq_true c29) _ (hC.ref _) (by dsimp only; rw [upd2_at])

set_option maxRecDepth 4000 in
theorem c_X11_year {K : Option Value → AH → Prop} {A : AH} {w : WT} {s : Nat → Nat} {H I : Nat → Nat → Nat} {nx c m : Nat} (hC : CI w s A) (hP : RepP H I nx c m A) (hf : tYear w s ≠ 0 → ∀ A', Qk A A' → A'.1 0 8 = nI (tYear w s) → K (some (.int (-1))) A') (hs : tYear w s = 0 → ∀ A', CI w (yrS s) A' → RepP (pushH s H) I ((nx + 1) % 16) (kpC c) m A' → Qa A A' → A'.1 0 8 = nI 0 → K (some (.int (nI (vYear w s)))) A') : Ct yX11_year mX11_year 5 dC gC [.ref 0] A K := by
  refine Ct.of [some (.ref 0), none] rfl rfl rfl (Nat.le_of_ble_eq_true rfl) ?_
  refine w_aload_n 1 dX11_year_0 rfl rfl ?_
  refine w_aload_n 2 dX11_year_1 rfl rfl ?_
  refine w_inv0 5 dX11_year_2 rfl mlX11_157 rfl rfl (d' := 2) (by decide) (Nat.le_of_ble_eq_true rfl) (c_X11_needWeb hC ?_)
  refine w_aload_n 6 dX11_year_5 rfl rfl ?_
  refine w_getr 9 dX11_year_6 rfl faX11_26 rfl rfl rfl (r := .ref 43) rfl ?_
  refine w_inv0 12 dX11_year_9 rfl mlX11_317 rfl rfl (d' := 0) (by decide) (Nat.le_of_ble_eq_true rfl) (c_X7_yearsGone hC.2.2.1 ?_)
  refine w_sipush 15 dX11_year_12 rfl (v := nI 999) rfl ?_
  refine w_icgeN 22 18 dX11_year_15 rfl rfl (by have := hC.2.2.2.1.1; omega) (by omega) (fun c15 => ?_) (fun c15 => ?_)
  · skip
    refine w_iconst 23 dX11_year_22 rfl (v := nI 3) rfl ?_
    refine wp_eq rfl ?_ rfl (a_X11_year hC hP hf hs)
    rw [if_neg (Nat.not_lt.mpr c15)]
    rfl
  · skip
    refine w_iconst 19 dX11_year_18 rfl (v := nI 0) rfl ?_
    refine w_goto 23 dX11_year_19 rfl ?_
    refine wp_eq rfl ?_ rfl (a_X11_year hC hP hf hs)
    rw [if_pos c15]
    rfl

set_option maxRecDepth 4000 in
theorem a_X11_snap {K : Option Value → AH → Prop} {A : AH} {w : WT} {s : Nat → Nat} {H I : Nat → Nat → Nat} {nx c m : Nat} {t : Nat} (hC : CI w s A) (hP : RepP H I nx c m A) (hf : tSnap s (nI t) ≠ 0 → ∀ A', Qk A A' → A'.1 0 8 = nI (tSnap s (nI t)) → K (some (.int (nI 0))) A') (ht : t < s 1) (hs : tSnap s (nI t) = 0 → ∀ A', CI w (snS s t) A' → RepP (pushH s H) I ((nx + 1) % 16) (kpC c) m A' → Qa A A' → A'.1 0 8 = nI 0 → K (some (.int (nI 1))) A') : WP mX11_snap 3 dC gC 23 [some (.ref 0), some (.int (nI t))] [.int (nI (if 0 < stg s (cl (nI t)) 0 then 0 else 5)), .int (nI (t1 (okR (s 1) (nI t)))), .ref 0] A K := by
  refine w_invs2 26 dX11_snap_23 rfl slX11_126 (d' := 0) (by decide) (Nat.le_of_ble_eq_true rfl) (c_X11_firstOfN (Nat.lt_of_le_of_lt (t1_le _) (by decide)) ?_)
  rw [tX_first]
  rw [show tX (okR (s 1) (nI t)) (if 0 < stg s (cl (nI t)) 0 then 0 else 5) = tSnap s (nI t) from rfl]
  refine w_inv1 29 dX11_snap_26 rfl mlX11_87 rfl rfl (d' := 0) (by decide) (Nat.le_of_ble_eq_true rfl) (c_X11_refused (by unfold tSnap; unfold tX; split <;> (try split) <;> omega) ?_)
  refine w_ifeqB 34 32 dX11_snap_29 rfl rfl (fun c29 => ?_) (fun c29 => ?_)
  · skip
    have hz : tSnap s (nI t) = 0 := Decidable.not_not.mp (of_decide_eq_false c29)
    have hC1 := hC.off (hC.ref (nI (tSnap s (nI t))))
    have hP1 := hP.offq (hC.ref (nI (tSnap s (nI t))))
    skip
    refine w_aload_n 35 dX11_snap_34 rfl rfl ?_
    refine w_getr 38 dX11_snap_35 rfl faX11_33 rfl rfl rfl (r := .ref 45) rfl ?_
    refine w_aload_n 39 dX11_snap_38 rfl rfl ?_
    refine w_getr 42 dX11_snap_39 rfl faX11_26 rfl rfl rfl (r := .ref 43) rfl ?_
    refine w_inv1 45 dX11_snap_42 rfl mlX11_320 rfl rfl (d' := 2) (by decide) (Nat.le_of_ble_eq_true rfl) (c_X4_keep hP1 hC1.2.2.1 (fun A3 hP3 hO3 => ?_))
    have hS3 : RepS s A3 := hC1.2.2.1.cong (hO3 44 (by decide)).1
    refine w_aload_n 46 dX11_snap_45 rfl rfl ?_
    refine w_getr 49 dX11_snap_46 rfl faX11_26 rfl rfl rfl (r := .ref 43) rfl ?_
    refine w_iload_n 50 dX11_snap_49 rfl rfl ?_
    refine w_inv1 53 dX11_snap_50 rfl mlX11_326 rfl rfl (d' := 0) (by decide) (Nat.le_of_ble_eq_true rfl) (c_X7_setSnapped hS3 (by have := hC.2.2.2.1.2.1; omega) ?_)
    have hS4 : RepS (snS s t) (upd2 A3.1 44 2 (nI (s 2 ||| 2 ^ t)), A3.2) := hS3.upd 2 _
    have hO4 : OffL [44, 45, 46] _ (upd2 A3.1 44 2 (nI (s 2 ||| 2 ^ t)), A3.2) := (hO3.mono (by intro x hx; simp at hx ⊢; omega)).upd (by decide) _ _
    have hQ4 := Qa.sub hC1.2.2.2.2 hO4 (by decide) (by decide) (by decide)
    have hC4 : CI w (snS s t) _ := hC1.chg hQ4 hS4 (snS_ok hC.2.2.2.1 (by have := hC.2.2.2.1.2.1; omega))
    have hP4 : RepP (pushH s H) I ((nx + 1) % 16) (kpC c) m (upd2 A3.1 44 2 (nI (s 2 ||| 2 ^ t)), A3.2) := hP3.cng (by dsimp only; rw [upd2_ne (by decide)]) (by dsimp only; rw [upd2_ne (by decide)]) (by dsimp only; rw [upd2_ne (by decide)])
    refine w_iconst 54 dX11_snap_53 rfl (v := nI 1) rfl ?_
    refine wr_z dX11_snap_54 rfl (by first | rfl | exact nb_b2i _) ?_
    refine hs hz _ hC4 hP4 ((hC.ref _).a.tr hQ4) ?_
    rw [(hO4 0 (by decide)).1, ← hz]
    exact upd2_at
  · skip
    refine w_iconst 33 dX11_snap_32 rfl (v := nI 0) rfl ?_
    refine wr_z dX11_snap_33 rfl (by first | rfl | exact nb_b2i _) ?_
    exact hf (of_decide_eq_true c29) _ (hC.ref _) (by dsimp only; rw [upd2_at])

set_option maxRecDepth 4000 in
theorem c_X11_snapN {K : Option Value → AH → Prop} {A : AH} {w : WT} {s : Nat → Nat} {H I : Nat → Nat → Nat} {nx c m : Nat} {t : Nat} (hC : CI w s A) (hP : RepP H I nx c m A) (ht : t < s 1) (hf : tSnap s (nI t) ≠ 0 → ∀ A', Qk A A' → A'.1 0 8 = nI (tSnap s (nI t)) → K (some (.int (nI 0))) A') (hs : tSnap s (nI t) = 0 → ∀ A', CI w (snS s t) A' → RepP (pushH s H) I ((nx + 1) % 16) (kpC c) m A' → Qa A A' → A'.1 0 8 = nI 0 → K (some (.int (nI 1))) A') : Ct yX11_snap mX11_snap 3 dC gC [.ref 0, .int (nI t)] A K := by
  refine Ct.of [some (.ref 0), some (.int (nI t))] rfl rfl rfl (Nat.le_of_ble_eq_true rfl) ?_
  have hs8 := hC.2.2.2.1.2.1
  have hsl := stg_le hC.2.2.2.1 t 0
  have hcl := cl_nI (show t < 2 ^ 31 by omega)
  refine w_aload_n 1 dX11_snap_0 rfl rfl ?_
  refine w_aload_n 2 dX11_snap_1 rfl rfl ?_
  refine w_iload_n 3 dX11_snap_2 rfl rfl ?_
  refine w_inv1 6 dX11_snap_3 rfl mlX11_123 rfl rfl (d' := 1) (by decide) (Nat.le_of_ble_eq_true rfl) (c_X11_needThread hC ?_)
  refine w_aload_n 7 dX11_snap_6 rfl rfl ?_
  refine w_getr 10 dX11_snap_7 rfl faX11_26 rfl rfl rfl (r := .ref 43) rfl ?_
  refine w_iload_n 11 dX11_snap_10 rfl rfl ?_
  refine w_iconst 12 dX11_snap_11 rfl (v := nI 0) rfl ?_
  refine w_inv2 15 dX11_snap_12 rfl mlX11_130 rfl rfl (d' := 2) (by decide) (Nat.le_of_ble_eq_true rfl) (c_X7_strength hC.2.2.1 hC.2.2.2.1 (by omega) (by decide) ?_)
  refine w_ifleN 22 18 dX11_snap_15 rfl rfl (by omega) (fun c15 => ?_) (fun c15 => ?_)
  · skip
    refine w_iconst 23 dX11_snap_22 rfl (v := nI 5) rfl ?_
    refine wp_eq rfl ?_ rfl (a_X11_snap hC hP hf ht hs)
    rw [hcl, if_neg (by omega)]
    rfl
  · skip
    refine w_iconst 19 dX11_snap_18 rfl (v := nI 0) rfl ?_
    refine w_goto 23 dX11_snap_19 rfl ?_
    refine wp_eq rfl ?_ rfl (a_X11_snap hC hP hf ht hs)
    rw [hcl, if_pos (by omega)]
    rfl

theorem okR_no {n : Nat} {t : Int32} (h : okR n t = false) : t < 0 ∨ nI n ≤ t := by
  rcases Decidable.em (t < 0) with q | q
  · exact Or.inl q
  · refine Or.inr (Int32.not_lt.mp fun z => ?_)
    have := of_decide_eq_false h
    exact this ⟨Int32.not_lt.mp q, z⟩
set_option maxRecDepth 4000 in
theorem c_X11_snap0 {K : Option Value → AH → Prop} {A : AH} {w : WT} {s : Nat → Nat} {H I : Nat → Nat → Nat} {nx c m : Nat} {t : Int32} (hC : CI w s A) (ht : okR (s 1) t = false) (hf : tSnap s t ≠ 0 → ∀ A', Qk A A' → A'.1 0 8 = nI (tSnap s t) → K (some (.int (nI 0))) A') : Ct yX11_snap mX11_snap 3 dC gC [.ref 0, .int t] A K := by
  refine Ct.of [some (.ref 0), some (.int t)] rfl rfl rfl (Nat.le_of_ble_eq_true rfl) ?_
  have ht2 := okR_no ht
  have e1 : tSnap s t = 1 := by unfold tSnap; rw [ht]; rfl
  refine w_aload_n 1 dX11_snap_0 rfl rfl ?_
  refine w_aload_n 2 dX11_snap_1 rfl rfl ?_
  refine w_iload_n 3 dX11_snap_2 rfl rfl ?_
  refine w_inv1 6 dX11_snap_3 rfl mlX11_123 rfl rfl (d' := 1) (by decide) (Nat.le_of_ble_eq_true rfl) (c_X11_needThread hC ?_)
  refine w_aload_n 7 dX11_snap_6 rfl rfl ?_
  refine w_getr 10 dX11_snap_7 rfl faX11_26 rfl rfl rfl (r := .ref 43) rfl ?_
  refine w_iload_n 11 dX11_snap_10 rfl rfl ?_
  refine w_iconst 12 dX11_snap_11 rfl (v := nI 0) rfl ?_
  refine w_inv2 15 dX11_snap_12 rfl mlX11_130 rfl rfl (d' := 2) (by decide) (Nat.le_of_ble_eq_true rfl) (c_X7_strength0 hC.2.2.1 hC.2.2.2.1 ht2 ?_)
  refine w_ifleN 22 18 dX11_snap_15 rfl rfl (by decide) (fun c15 => ?_) (fun c15 => ?_)
  · skip
    refine w_iconst 23 dX11_snap_22 rfl (v := nI 5) rfl ?_
    refine w_invs2 26 dX11_snap_23 rfl slX11_126 (d' := 0) (by decide) (Nat.le_of_ble_eq_true rfl) (c_X11_firstOfN (Nat.lt_of_le_of_lt (t1_le _) (by decide)) ?_)
    rw [tX_first, show tX (okR (s 1) t) _ = tSnap s t from by rw [e1, ht]; rfl]
    refine w_inv1 29 dX11_snap_26 rfl mlX11_87 rfl rfl (d' := 0) (by decide) (Nat.le_of_ble_eq_true rfl) (c_X11_refused (by rw [e1]; decide) ?_)
    refine w_ifeqB 34 32 dX11_snap_29 rfl rfl (fun c29 => ?_) (fun c29 => ?_)
    · skip
      exact absurd (Decidable.not_not.mp (of_decide_eq_false c29)) (by rw [e1]; decide)
    · skip
      refine w_iconst 33 dX11_snap_32 rfl (v := nI 0) rfl ?_
      refine wr_z dX11_snap_33 rfl (by first | rfl | exact nb_b2i _) ?_
      exact hf (of_decide_eq_true c29) _ (hC.ref _) (by dsimp only; rw [upd2_at])
  · skip
    refine w_iconst 19 dX11_snap_18 rfl (v := nI 0) rfl ?_
    refine w_goto 23 dX11_snap_19 rfl ?_
    refine w_invs2 26 dX11_snap_23 rfl slX11_126 (d' := 0) (by decide) (Nat.le_of_ble_eq_true rfl) (c_X11_firstOfN (Nat.lt_of_le_of_lt (t1_le _) (by decide)) ?_)
    rw [tX_first, show tX (okR (s 1) t) _ = tSnap s t from by rw [e1, ht]; rfl]
    refine w_inv1 29 dX11_snap_26 rfl mlX11_87 rfl rfl (d' := 0) (by decide) (Nat.le_of_ble_eq_true rfl) (c_X11_refused (by rw [e1]; decide) ?_)
    refine w_ifeqB 34 32 dX11_snap_29 rfl rfl (fun c29 => ?_) (fun c29 => ?_)
    · skip
      exact absurd (Decidable.not_not.mp (of_decide_eq_false c29)) (by rw [e1]; decide)
    · skip
      refine w_iconst 33 dX11_snap_32 rfl (v := nI 0) rfl ?_
      refine wr_z dX11_snap_33 rfl (by first | rfl | exact nb_b2i _) ?_
      exact hf (of_decide_eq_true c29) _ (hC.ref _) (by dsimp only; rw [upd2_at])

theorem c_X11_snap {K : Option Value → AH → Prop} {A : AH} {w : WT} {s : Nat → Nat} {H I : Nat → Nat → Nat} {nx c m : Nat} {t : Int32} (hC : CI w s A) (hP : RepP H I nx c m A) (hf : tSnap s t ≠ 0 → ∀ A', Qk A A' → A'.1 0 8 = nI (tSnap s t) → K (some (.int (nI 0))) A') (hs : tSnap s t = 0 → ∀ A', CI w (snS s (cl t)) A' → RepP (pushH s H) I ((nx + 1) % 16) (kpC c) m A' → Qa A A' → A'.1 0 8 = nI 0 → K (some (.int (nI 1))) A') : Ct yX11_snap mX11_snap 3 dC gC [.ref 0, .int t] A K := by
  cases q : okR (s 1) t with
  | false => exact c_X11_snap0 (H := H) (I := I) (nx := nx) (c := c) (m := m) hC q hf
  | true =>
    obtain ⟨t, rfl, ht⟩ := okR_of q (by have := hC.2.2.2.1.2.1; omega)
    rw [cl_nI (show t < 2 ^ 31 by have := hC.2.2.2.1.2.1; omega)] at hs
    exact c_X11_snapN hC hP ht hf hs
set_option maxRecDepth 4000 in
theorem a_X11_darn {K : Option Value → AH → Prop} {A : AH} {w : WT} {s : Nat → Nat} {H I : Nat → Nat → Nat} {nx c m : Nat} {t : Nat} (hC : CI w s A) (hP : RepP H I nx c m A) (hf : tDarn s (nI t) ≠ 0 → ∀ A', Qk A A' → A'.1 0 8 = nI (tDarn s (nI t)) → K (some (.int (-1))) A') (ht : t < s 1) (hs : tDarn s (nI t) = 0 → ∀ A', CI w (dnS s t) A' → RepP (pushH s H) I ((nx + 1) % 16) (kpC c) m A' → Qa A A' → A'.1 0 8 = nI 0 → K (some (.int (nI (stg (dnS s t) t 0)))) A') : WP mX11_darn 3 dC gC 33 [some (.ref 0), some (.int (nI t))] [.int (nI (if (s 2).testBit (cl (nI t)) = true ∨ 0 < s 0 - cz s (cl (nI t)) 5 then 0 else 5)), .int (nI (t1 (okR (s 1) (nI t)))), .ref 0] A K := by
  refine w_invs2 36 dX11_darn_33 rfl slX11_126 (d' := 0) (by decide) (Nat.le_of_ble_eq_true rfl) (c_X11_firstOfN (Nat.lt_of_le_of_lt (t1_le _) (by decide)) ?_)
  rw [tX_first]
  rw [show tX (okR (s 1) (nI t)) (if (s 2).testBit (cl (nI t)) = true ∨ 0 < s 0 - cz s (cl (nI t)) 5 then 0 else 5) = tDarn s (nI t) from rfl]
  refine w_inv1 39 dX11_darn_36 rfl mlX11_87 rfl rfl (d' := 0) (by decide) (Nat.le_of_ble_eq_true rfl) (c_X11_refused (by unfold tDarn; unfold tX; split <;> (try split) <;> omega) ?_)
  refine w_ifeqB 44 42 dX11_darn_39 rfl rfl (fun c39 => ?_) (fun c39 => ?_)
  · skip
    have hz : tDarn s (nI t) = 0 := Decidable.not_not.mp (of_decide_eq_false c39)
    have hC1 := hC.off (hC.ref (nI (tDarn s (nI t))))
    have hP1 := hP.offq (hC.ref (nI (tDarn s (nI t))))
    have hs8 := hC.2.2.2.1.2.1
    refine w_aload_n 45 dX11_darn_44 rfl rfl ?_
    refine w_getr 48 dX11_darn_45 rfl faX11_33 rfl rfl rfl (r := .ref 45) rfl ?_
    refine w_aload_n 49 dX11_darn_48 rfl rfl ?_
    refine w_getr 52 dX11_darn_49 rfl faX11_26 rfl rfl rfl (r := .ref 43) rfl ?_
    refine w_inv1 55 dX11_darn_52 rfl mlX11_320 rfl rfl (d' := 2) (by decide) (Nat.le_of_ble_eq_true rfl) (c_X4_keep hP1 hC1.2.2.1 (fun A3 hP3 hO3 => ?_))
    have hS3 : RepS s A3 := hC1.2.2.1.cong (hO3 44 (by decide)).1
    refine w_aload_n 56 dX11_darn_55 rfl rfl ?_
    refine w_getr 59 dX11_darn_56 rfl faX11_26 rfl rfl rfl (r := .ref 43) rfl ?_
    refine w_iload_n 60 dX11_darn_59 rfl rfl ?_
    refine w_inv1 63 dX11_darn_60 rfl mlX11_336 rfl rfl (d' := 2) (by decide) (Nat.le_of_ble_eq_true rfl) (c_X7_renew hS3 hC.2.2.2.1 ht ?_)
    have hS4 : RepS (dnS s t) (upd2 (upd2 A3.1 44 2 (nI (s 2 &&& (255 - 2 ^ t)))) 44 (3 + t * 6 + 5) (nI (s 0)), A3.2) := (hS3.upd 2 _).upd _ _
    have hO4 : OffL [44, 45, 46] _ (upd2 (upd2 A3.1 44 2 (nI (s 2 &&& (255 - 2 ^ t)))) 44 (3 + t * 6 + 5) (nI (s 0)), A3.2) := ((hO3.mono (by intro x hx; simp at hx ⊢; omega)).upd (by decide) _ _).upd (by decide) _ _
    have hQ4 := Qa.sub hC1.2.2.2.2 hO4 (by decide) (by decide) (by decide)
    have hC4 : CI w (dnS s t) _ := hC1.chg hQ4 hS4 (dnS_ok hC.2.2.2.1 (by omega))
    have hP4 : RepP (pushH s H) I ((nx + 1) % 16) (kpC c) m (upd2 (upd2 A3.1 44 2 (nI (s 2 &&& (255 - 2 ^ t)))) 44 (3 + t * 6 + 5) (nI (s 0)), A3.2) := hP3.cng (by dsimp only; rw [upd2_ne (by decide), upd2_ne (by decide)]) (by dsimp only; rw [upd2_ne (by decide), upd2_ne (by decide)]) (by dsimp only; rw [upd2_ne (by decide), upd2_ne (by decide)])
    refine w_aload_n 64 dX11_darn_63 rfl rfl ?_
    refine w_getr 67 dX11_darn_64 rfl faX11_26 rfl rfl rfl (r := .ref 43) rfl ?_
    refine w_iload_n 68 dX11_darn_67 rfl rfl ?_
    refine w_iconst 69 dX11_darn_68 rfl (v := nI 0) rfl ?_
    refine w_inv2 72 dX11_darn_69 rfl mlX11_130 rfl rfl (d' := 2) (by decide) (Nat.le_of_ble_eq_true rfl) (c_X7_strength hC4.2.2.1 hC4.2.2.2.1 (by omega) (by decide) ?_)
    refine wr_i dX11_darn_72 rfl ?_
    refine hs hz _ hC4 hP4 ((hC.ref _).a.tr hQ4) ?_
    rw [(hO4 0 (by decide)).1, ← hz]
    exact upd2_at
  · skip
    refine w_iconst 43 dX11_darn_42 rfl (v := (-1)) rfl ?_
    refine wr_i dX11_darn_43 rfl ?_
    exact hf (of_decide_eq_true c39) _ (hC.ref _) (by dsimp only; rw [upd2_at])

set_option maxRecDepth 4000 in
theorem c_X11_darnN {K : Option Value → AH → Prop} {A : AH} {w : WT} {s : Nat → Nat} {H I : Nat → Nat → Nat} {nx c m : Nat} {t : Nat} (hC : CI w s A) (hP : RepP H I nx c m A) (ht : t < s 1) (hf : tDarn s (nI t) ≠ 0 → ∀ A', Qk A A' → A'.1 0 8 = nI (tDarn s (nI t)) → K (some (.int (-1))) A') (hs : tDarn s (nI t) = 0 → ∀ A', CI w (dnS s t) A' → RepP (pushH s H) I ((nx + 1) % 16) (kpC c) m A' → Qa A A' → A'.1 0 8 = nI 0 → K (some (.int (nI (stg (dnS s t) t 0)))) A') : Ct yX11_darn mX11_darn 3 dC gC [.ref 0, .int (nI t)] A K := by
  refine Ct.of [some (.ref 0), some (.int (nI t))] rfl rfl rfl (Nat.le_of_ble_eq_true rfl) ?_
  have hs8 := hC.2.2.2.1.2.1
  have h9 := hC.2.2.2.1.1
  have h28 := hC.2.2.2.1.2.2.1
  have hcl := cl_nI (show t < 2 ^ 31 by omega)
  refine w_aload_n 1 dX11_darn_0 rfl rfl ?_
  refine w_aload_n 2 dX11_darn_1 rfl rfl ?_
  refine w_iload_n 3 dX11_darn_2 rfl rfl ?_
  refine w_inv1 6 dX11_darn_3 rfl mlX11_123 rfl rfl (d' := 1) (by decide) (Nat.le_of_ble_eq_true rfl) (c_X11_needThread hC ?_)
  refine w_aload_n 7 dX11_darn_6 rfl rfl ?_
  refine w_getr 10 dX11_darn_7 rfl faX11_26 rfl rfl rfl (r := .ref 43) rfl ?_
  refine w_iload_n 11 dX11_darn_10 rfl rfl ?_
  refine w_inv1 14 dX11_darn_11 rfl mlX11_133 rfl rfl (d' := 1) (by decide) (Nat.le_of_ble_eq_true rfl) (c_X7_isSnapped hC.2.2.1 ?_)
  rw [hasB_nI (by omega) (by omega)]
  refine w_ifneB 28 17 dX11_darn_14 rfl rfl (fun c14 => ?_) (fun c14 => ?_)
  · skip
    refine w_iconst 29 dX11_darn_28 rfl (v := nI 0) rfl ?_
    refine w_goto 33 dX11_darn_29 rfl ?_
    refine wp_eq rfl ?_ rfl (a_X11_darn hC hP hf ht hs)
    rw [hcl, if_pos (Or.inl c14)]
    rfl
  · skip
    refine w_aload_n 18 dX11_darn_17 rfl rfl ?_
    refine w_getr 21 dX11_darn_18 rfl faX11_26 rfl rfl rfl (r := .ref 43) rfl ?_
    refine w_iload_n 22 dX11_darn_21 rfl rfl ?_
    refine w_inv1 25 dX11_darn_22 rfl mlX11_333 rfl rfl (d' := 2) (by decide) (Nat.le_of_ble_eq_true rfl) (c_X7_age hC.2.2.1 hC.2.2.2.1 (by omega) ?_)
    refine w_ifleN 32 28 dX11_darn_25 rfl rfl (by omega) (fun c25 => ?_) (fun c25 => ?_)
    · skip
      refine w_iconst 33 dX11_darn_32 rfl (v := nI 5) rfl ?_
      refine wp_eq rfl ?_ rfl (a_X11_darn hC hP hf ht hs)
      rw [hcl, if_neg (fun q => q.elim (fun z => by rw [c14] at z; cases z) (fun z => by omega))]
      rfl
    · skip
      refine w_iconst 29 dX11_darn_28 rfl (v := nI 0) rfl ?_
      refine w_goto 33 dX11_darn_29 rfl ?_
      refine wp_eq rfl ?_ rfl (a_X11_darn hC hP hf ht hs)
      rw [hcl, if_pos (Or.inr (by omega))]
      rfl

set_option maxRecDepth 4000 in
theorem c_X11_darn0 {K : Option Value → AH → Prop} {A : AH} {w : WT} {s : Nat → Nat} {H I : Nat → Nat → Nat} {nx c m : Nat} {t : Int32} (hC : CI w s A) (ht : okR (s 1) t = false) (hf : tDarn s t ≠ 0 → ∀ A', Qk A A' → A'.1 0 8 = nI (tDarn s t) → K (some (.int (-1))) A') : Ct yX11_darn mX11_darn 3 dC gC [.ref 0, .int t] A K := by
  refine Ct.of [some (.ref 0), some (.int t)] rfl rfl rfl (Nat.le_of_ble_eq_true rfl) ?_
  have ht2 := okR_no ht
  have e1 : tDarn s t = 1 := by unfold tDarn; rw [ht]; rfl
  refine w_aload_n 1 dX11_darn_0 rfl rfl ?_
  refine w_aload_n 2 dX11_darn_1 rfl rfl ?_
  refine w_iload_n 3 dX11_darn_2 rfl rfl ?_
  refine w_inv1 6 dX11_darn_3 rfl mlX11_123 rfl rfl (d' := 1) (by decide) (Nat.le_of_ble_eq_true rfl) (c_X11_needThread hC ?_)
  refine w_aload_n 7 dX11_darn_6 rfl rfl ?_
  refine w_getr 10 dX11_darn_7 rfl faX11_26 rfl rfl rfl (r := .ref 43) rfl ?_
  refine w_iload_n 11 dX11_darn_10 rfl rfl ?_
  refine w_inv1 14 dX11_darn_11 rfl mlX11_133 rfl rfl (d' := 1) (by decide) (Nat.le_of_ble_eq_true rfl) (c_X7_isSnapped hC.2.2.1 ?_)
  refine w_ifneB 28 17 dX11_darn_14 rfl rfl (fun c14 => ?_) (fun c14 => ?_)
  · skip
    refine w_iconst 29 dX11_darn_28 rfl (v := nI 0) rfl ?_
    refine w_goto 33 dX11_darn_29 rfl ?_
    refine w_invs2 36 dX11_darn_33 rfl slX11_126 (d' := 0) (by decide) (Nat.le_of_ble_eq_true rfl) (c_X11_firstOfN (Nat.lt_of_le_of_lt (t1_le _) (by decide)) ?_)
    rw [tX_first, show tX (okR (s 1) t) _ = tDarn s t from by rw [e1, ht]; rfl]
    refine w_inv1 39 dX11_darn_36 rfl mlX11_87 rfl rfl (d' := 0) (by decide) (Nat.le_of_ble_eq_true rfl) (c_X11_refused (by rw [e1]; decide) ?_)
    refine w_ifeqB 44 42 dX11_darn_39 rfl rfl (fun c39 => ?_) (fun c39 => ?_)
    · skip
      exact absurd (Decidable.not_not.mp (of_decide_eq_false c39)) (by rw [e1]; decide)
    · skip
      refine w_iconst 43 dX11_darn_42 rfl (v := (-1)) rfl ?_
      refine wr_i dX11_darn_43 rfl ?_
      exact hf (of_decide_eq_true c39) _ (hC.ref _) (by dsimp only; rw [upd2_at])
  · skip
    refine w_aload_n 18 dX11_darn_17 rfl rfl ?_
    refine w_getr 21 dX11_darn_18 rfl faX11_26 rfl rfl rfl (r := .ref 43) rfl ?_
    refine w_iload_n 22 dX11_darn_21 rfl rfl ?_
    refine w_inv1 25 dX11_darn_22 rfl mlX11_333 rfl rfl (d' := 2) (by decide) (Nat.le_of_ble_eq_true rfl) (c_X7_age0 hC.2.2.1 hC.2.2.2.1 ht2 ?_)
    refine w_ifleN 32 28 dX11_darn_25 rfl rfl (by have := hC.2.2.2.1.1; omega) (fun c25 => ?_) (fun c25 => ?_)
    · skip
      refine w_iconst 33 dX11_darn_32 rfl (v := nI 5) rfl ?_
      refine w_invs2 36 dX11_darn_33 rfl slX11_126 (d' := 0) (by decide) (Nat.le_of_ble_eq_true rfl) (c_X11_firstOfN (Nat.lt_of_le_of_lt (t1_le _) (by decide)) ?_)
      rw [tX_first, show tX (okR (s 1) t) _ = tDarn s t from by rw [e1, ht]; rfl]
      refine w_inv1 39 dX11_darn_36 rfl mlX11_87 rfl rfl (d' := 0) (by decide) (Nat.le_of_ble_eq_true rfl) (c_X11_refused (by rw [e1]; decide) ?_)
      refine w_ifeqB 44 42 dX11_darn_39 rfl rfl (fun c39 => ?_) (fun c39 => ?_)
      · skip
        exact absurd (Decidable.not_not.mp (of_decide_eq_false c39)) (by rw [e1]; decide)
      · skip
        refine w_iconst 43 dX11_darn_42 rfl (v := (-1)) rfl ?_
        refine wr_i dX11_darn_43 rfl ?_
        exact hf (of_decide_eq_true c39) _ (hC.ref _) (by dsimp only; rw [upd2_at])
    · skip
      refine w_iconst 29 dX11_darn_28 rfl (v := nI 0) rfl ?_
      refine w_goto 33 dX11_darn_29 rfl ?_
      refine w_invs2 36 dX11_darn_33 rfl slX11_126 (d' := 0) (by decide) (Nat.le_of_ble_eq_true rfl) (c_X11_firstOfN (Nat.lt_of_le_of_lt (t1_le _) (by decide)) ?_)
      rw [tX_first, show tX (okR (s 1) t) _ = tDarn s t from by rw [e1, ht]; rfl]
      refine w_inv1 39 dX11_darn_36 rfl mlX11_87 rfl rfl (d' := 0) (by decide) (Nat.le_of_ble_eq_true rfl) (c_X11_refused (by rw [e1]; decide) ?_)
      refine w_ifeqB 44 42 dX11_darn_39 rfl rfl (fun c39 => ?_) (fun c39 => ?_)
      · skip
        exact absurd (Decidable.not_not.mp (of_decide_eq_false c39)) (by rw [e1]; decide)
      · skip
        refine w_iconst 43 dX11_darn_42 rfl (v := (-1)) rfl ?_
        refine wr_i dX11_darn_43 rfl ?_
        exact hf (of_decide_eq_true c39) _ (hC.ref _) (by dsimp only; rw [upd2_at])

theorem c_X11_darn {K : Option Value → AH → Prop} {A : AH} {w : WT} {s : Nat → Nat} {H I : Nat → Nat → Nat} {nx c m : Nat} {t : Int32} (hC : CI w s A) (hP : RepP H I nx c m A) (hf : tDarn s t ≠ 0 → ∀ A', Qk A A' → A'.1 0 8 = nI (tDarn s t) → K (some (.int (-1))) A') (hs : tDarn s t = 0 → ∀ A', CI w (dnS s (cl t)) A' → RepP (pushH s H) I ((nx + 1) % 16) (kpC c) m A' → Qa A A' → A'.1 0 8 = nI 0 → K (some (.int (nI (stg (dnS s (cl t)) (cl t) 0)))) A') : Ct yX11_darn mX11_darn 3 dC gC [.ref 0, .int t] A K := by
  cases q : okR (s 1) t with
  | false => exact c_X11_darn0 (H := H) (I := I) (nx := nx) (c := c) (m := m) hC q hf
  | true =>
    obtain ⟨t, rfl, ht⟩ := okR_of q (by have := hC.2.2.2.1.2.1; omega)
    rw [cl_nI (show t < 2 ^ 31 by have := hC.2.2.2.1.2.1; omega)] at hs
    exact c_X11_darnN hC hP ht hf hs