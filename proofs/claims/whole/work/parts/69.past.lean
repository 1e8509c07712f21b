/-! ===== the reference: what was ===== -/
abbrev acM : List Nat := [100, 102, 103, 104, 105, 106, 107, 108, 109, 110]
abbrev kpA : List Nat := [6, 12]
/-- what an act may change of the reference -/
def QA (A A' : AH) : Prop := OffL acM A A' ∧ ∀ k, k ∈ kpA → A'.1 100 k = A.1 100 k
theorem QM.qa {A A' : AH} (h : QM A A') : QA A A' := ⟨h.1.mono (by decide), fun k hk => h.2 k (by simp at hk ⊢; omega)⟩
theorem QA.tr {A B C : AH} (h : QA A B) (h2 : QA B C) : QA A C := ⟨h.1.tr h2.1, fun k hk => (h2.2 k hk).trans (h.2 k hk)⟩
theorem QA.f {A B : AH} (h : QA A B) {k : Nat} (hk : k ∉ kpA) (x : Int32) : QA A (upd2 B.1 100 k x, B.2) := ⟨h.1.upd (by decide) _ _, fun j hj => (upd2_off (fun e => hk (by rw [← e]; exact hj))).trans (h.2 j hj)⟩
theorem QA.a {A B : AH} (h : QA A B) {o : Nat} (ho : o ∈ acM) (h1 : o ≠ 100) (k : Nat) (x : Int32) : QA A (upd2 B.1 o k x, B.2) := ⟨h.1.upd ho _ _, fun j hj => by dsimp only; rw [upd2_ne (Ne.symm h1)]; exact h.2 j hj⟩
theorem QA.o {A A' : AH} {l : List Nat} (h : OffL l A A') (hl : ∀ x, x ∈ l → x ∈ acM) (h1 : 100 ∉ l) : QA A A' := ⟨h.mono hl, fun k _ => by rw [(h 100 h1).1]⟩
theorem MC.chg {w : WT} {s s' : Nat → Nat} {A A' : AH} (h : MC w s A) (q : QA A A') (hv : VR w s' (A'.1 102)) (hs : okS s') : MC w s' A' :=
  ⟨h.1.cong (fun x a b => (q.1 x (by simp; omega)).1), hv, h.2.2.1, hs, h.2.2.2.2⟩
def RwM (w : WT) (s : Nat → Nat) (A : AH) (o b : Nat) : Prop := VR w s (fun k => A.1 o (b + k)) ∧ okS s ∧ w.1 2 ≤ s 1
theorem RwM.eq {w : WT} {s : Nat → Nat} {A A' : AH} {o b o' b' : Nat} (h : RwM w s A o b) (he : ∀ k, k < 26 → A'.1 o' (b' + k) = A.1 o (b + k)) : RwM w s A' o' b' := ⟨h.1.eq h.2.1 he, h.2⟩
/-- the reference's acts and images -/
def MH (w : WT) (s : Nat → Nat) (H I : Nat → Nat → Nat) (c m : Nat) (A : AH) : Prop := w.1 2 ≤ s 1 ∧ c ≤ 16 ∧ m ≤ 3 ∧ A.1 100 20 = nI c ∧ A.1 100 21 = nI m ∧ (∀ i, i < c → RwM w (H i) A 104 (26 * (c - 1 - i))) ∧ ∀ i, i < m → RwM w (I i) A 105 (26 * i)
theorem MH.q {w : WT} {s : Nat → Nat} {H I : Nat → Nat → Nat} {c m : Nat} {A A' : AH} (h : MH w s H I c m A) (q : QM A A') : MH w s H I c m A' := by
  obtain ⟨h0, h1, h2, h3, h4, h5, h6⟩ := h
  exact ⟨h0, h1, h2, by rw [q.2 20 (by decide)]; exact h3, by rw [q.2 21 (by decide)]; exact h4, fun i hi => (h5 i hi).eq (fun k _ => by rw [(q.1 104 (by decide)).1]), fun i hi => (h6 i hi).eq (fun k _ => by rw [(q.1 105 (by decide)).1])⟩
theorem MH.v {w : WT} {s s' : Nat → Nat} {H I : Nat → Nat → Nat} {c m : Nat} {A A' : AH} (h : MH w s H I c m A) (hw : w.1 2 ≤ s' 1) (q : OffL [102] A A') : MH w s' H I c m A' := by
  obtain ⟨h0, h1, h2, h3, h4, h5, h6⟩ := h
  exact ⟨hw, h1, h2, by rw [(q 100 (by decide)).1]; exact h3, by rw [(q 100 (by decide)).1]; exact h4, fun i hi => (h5 i hi).eq (fun k _ => by rw [(q 104 (by decide)).1]), fun i hi => (h6 i hi).eq (fun k _ => by rw [(q 105 (by decide)).1])⟩
theorem VR_yr {w : WT} {s : Nat → Nat} {v v' : Nat → Int32} (hs : okS s) (h : VR w s v) (h1 : v' 25 = nI (s 0 + 1)) (h2 : ∀ k, k < 26 → k ≠ 25 → v' k = v k) : VR w (yrS s) v' := by
  have e : yrS s = sYr s 1 0 := by
    funext j
    by_cases h2 : j = 2
    · subst h2; rw [sYr_2, Nat.or_zero]; exact updN_ne (by decide)
    · show updN _ _ _ _ = _
      unfold sYr
      rw [updN_ne h2]
  rw [e]
  exact VR_year (y := 0) hs (by rw [sYr_s]; exact h) h1 h2
theorem VR_sn {w : WT} {s : Nat → Nat} {t : Nat} {v v' : Nat → Int32} (hs : okS s) (h : VR w s v) (ht : t < s 1) (h1 : v' (16 + t) = 1) (h2 : ∀ k, k < 26 → k ≠ 16 + t → v' k = v k) : VR w (snS s t) v' := by
  have e : snS s t = sYr s 0 (0 ||| 2 ^ t) := by
    funext j
    rw [Nat.zero_or]
    by_cases h2 : j = 2
    · subst h2; rw [sYr_2]; exact updN_at
    · show updN _ _ _ _ = _
      unfold sYr
      rw [updN_ne h2, updN_ne h2]
      by_cases h0 : j = 0
      · subst h0; rw [updN_at]; rfl
      · rw [updN_ne h0]
  rw [e]
  exact VR_snap hs (by rw [sYr_s]; exact h) ht h1 h2
theorem bit_255 : ∀ {t u : Nat}, t < 8 → u < 8 → (255 - 2 ^ t).testBit u = decide (u ≠ t) := by
  have h : ∀ t : Fin 8, ∀ u : Fin 8, (255 - 2 ^ t.val).testBit u.val = decide (u.val ≠ t.val) := by decide +kernel
  exact fun {t u} ht hu => h ⟨t, ht⟩ ⟨u, hu⟩
theorem dnS_e {s : Nat → Nat} {t k : Nat} (h1 : k ≠ 2) (h2 : k ≠ 3 + t * 6 + 5) : dnS s t k = s k := (updN_ne h2).trans (updN_ne h1)
theorem dnS_2 {s : Nat → Nat} {t : Nat} : dnS s t 2 = s 2 &&& (255 - 2 ^ t) := (updN_ne (by omega)).trans updN_at
theorem dnS_5 {s : Nat → Nat} {t : Nat} : dnS s t (3 + t * 6 + 5) = s 0 := updN_at
theorem cz_dn {s : Nat → Nat} {t u c : Nat} (hc : c ≤ 5) (h : u ≠ t ∨ c ≠ 5) : cz (dnS s t) u c = cz s u c := by
  unfold cz
  rw [dnS_e (by decide) (by omega), dnS_e (by omega) (by omega)]
theorem VR_dn {w : WT} {s : Nat → Nat} {t : Nat} {v v' : Nat → Int32} (hs : okS s) (h : VR w s v) (ht : t < s 1) (h1 : v' (8 + t) = nI (s 0)) (h3 : v' (16 + t) = 0) (h2 : ∀ k, k < 26 → k ≠ 8 + t → k ≠ 16 + t → v' k = v k) : VR w (dnS s t) v' := by
  have h8 := hs.2.1
  obtain ⟨a1, a2, a3, a4⟩ := h
  have e1 : dnS s t 1 = s 1 := dnS_e (by decide) (by omega)
  refine ⟨?_, ?_, ?_, ?_⟩
  · rw [h2 24 (by decide) (by omega) (by omega), e1]; exact a1
  · rw [h2 25 (by decide) (by omega) (by omega), dnS_e (by decide) (by omega)]; exact a2
  · rw [dnS_2, e1]; exact Nat.lt_of_le_of_lt Nat.and_le_left a3
  · intro u hu
    rw [e1] at hu
    obtain ⟨b1, b2, b3⟩ := a4 u hu
    rw [dnS_2, Nat.testBit_and, bit_255 (by omega) (by omega), h2 u (by omega) (by omega) (by omega), cz_dn (c := 0) (by decide) (Or.inr (by decide)), cz_dn (c := 1) (by decide) (Or.inr (by decide)), cz_dn (c := 2) (by decide) (Or.inr (by decide)), cz_dn (c := 3) (by decide) (Or.inr (by decide)), cz_dn (c := 4) (by decide) (Or.inr (by decide))]
    by_cases e : u = t
    · subst e
      refine ⟨?_, ?_, ?_⟩
      · rw [h1]; unfold cz; rw [e1, if_pos hu, dnS_5]
      · rw [h3]; simp; rfl
      · rcases b3 with ⟨c1, c2, c3⟩ | c1
        · exact Or.inl ⟨c1, c2, fun c hc => by rw [cz_dn (by omega) (Or.inr (by omega))]; exact c3 c hc⟩
        · exact Or.inr c1
    · refine ⟨?_, ?_, ?_⟩
      · rw [h2 (8 + u) (by omega) (by omega) (by omega), cz_dn (c := 5) (by decide) (Or.inl e)]; exact b1
      · rw [h2 (16 + u) (by omega) (by omega) (by omega), b2]; simp [e]
      · rcases b3 with ⟨c1, c2, c3⟩ | c1
        · exact Or.inl ⟨c1, c2, fun c hc => by rw [cz_dn (by omega) (Or.inl e)]; exact c3 c hc⟩
        · exact Or.inr c1
theorem VR_sp {w : WT} {s : Nat → Nat} {k : Nat} {v v' : Nat → Int32} (hs : okS s) (h : VR w s v) (h8 : s 1 < 8) (hk : k < w.1 5) (hw : w.1 2 ≤ s 1) (h0 : v' (s 1) = nI k) (h1 : v' (8 + s 1) = nI (s 0)) (h3 : v' (16 + s 1) = 0) (h4 : v' 24 = nI (s 1 + 1)) (h2 : ∀ j, j < 26 → j ≠ s 1 → j ≠ 8 + s 1 → j ≠ 16 + s 1 → j ≠ 24 → v' j = v j) : VR w (spS w s k) v' := by
  obtain ⟨a1, a2, a3, a4⟩ := h
  obtain ⟨n0, n1, n2, n3, n4, n5⟩ := addR_new (s := s) (a := w.2 5 k 0) (b := w.2 5 k 1) (c := w.2 5 k 2)
  have e1 : spS w s k 1 = s 1 + 1 := addR_1
  have e2 : spS w s k 2 = s 2 := addR_lo (by omega) (by omega)
  have e0 : spS w s k 0 = s 0 := addR_lo (by omega) (by omega)
  refine ⟨?_, ?_, ?_, ?_⟩
  · rw [h4, e1]
  · rw [h2 25 (by decide) (by omega) (by omega) (by omega) (by omega), e0]; exact a2
  · rw [e2, e1]; exact Nat.lt_trans a3 (Nat.pow_lt_pow_right (by decide) (by omega))
  · intro u hu
    rw [e1] at hu
    rw [e2]
    by_cases e : u = s 1
    · subst e
      have z : ∀ c, cz (spS w s k) (s 1) c = spS w s k (3 + s 1 * 6 + c) := fun c => by unfold cz; rw [e1, if_pos (by omega)]
      refine ⟨by rw [h1, z]; exact congrArg nI n5.symm, ?_, Or.inr ⟨k, hk, h0, hw, ?_, ?_, ?_, ?_, ?_⟩⟩
      · rw [h3, Nat.testBit_lt_two_pow a3]; rfl
      · rw [z]; exact n0
      · rw [z]; exact n1
      · rw [z]; exact n2
      · rw [z]; exact n3
      · rw [z]; exact n4
    · have z : ∀ c, c < 6 → cz (spS w s k) u c = cz s u c := fun c hc => by
        unfold cz
        rw [e1, if_pos (by omega), if_pos (by omega)]
        exact addR_lo (by omega) (by omega)
      obtain ⟨b1, b2, b3⟩ := a4 u (by omega)
      rw [h2 (8 + u) (by omega) (by omega) (by omega) (by omega) (by omega), h2 (16 + u) (by omega) (by omega) (by omega) (by omega) (by omega), h2 u (by omega) (by omega) (by omega) (by omega) (by omega), z 5 (by decide), z 0 (by decide), z 1 (by decide), z 2 (by decide), z 3 (by decide), z 4 (by decide)]
      refine ⟨b1, b2, ?_⟩
      rcases b3 with ⟨c1, c2, c3⟩ | c1
      · exact Or.inl ⟨c1, c2, fun c hc => by rw [z c (by omega)]; exact c3 c hc⟩
      · exact Or.inr c1
set_option maxRecDepth 4000 in
theorem a_X13_remembers {K : Option Value → AH → Prop} {A : AH} {r : Value} {w : WT} {s : Nat → Nat} {H I : Nat → Nat → Nat} {c m : Nat} {y : Option Value} (hC : MC w s A) (hH : MH w s H I c m A) (hc : c ≤ 15) (h : ∀ A', MH w s (pushH s H) I (c + 1) m A' → QA A A' → A'.1 102 = A.1 102 → K none A') : WP mX13_remembers 0 dM (GG (.ref 111) r) 49 [some (.ref 100), y] [] A K := by
  have lp51 : ∀ (nf : Nat) (i : Nat) (A' : AH), i ≤ 26 → OffL [104] A A' → (∀ k, A'.1 104 k = if 26 * c ≤ k ∧ k < 26 * c + i then A.1 102 (k - 26 * c) else A.1 104 k) → 26 - i < nf → WP mX13_remembers 0 dM (GG (.ref 111) r) 51 [some (.ref 100), some (.int (nI i))] [] A' K := by
    intro nf
    induction nf with
    | zero => intros; omega
    | succ nf ih =>
      intro i A' hi hO hp hms
      have h20 : A'.1 100 20 = nI c := by rw [(hO 100 (by decide)).1]; exact hH.2.2.2.1
      refine w_iload_n 52 dX13_remembers_51 rfl rfl ?_
      refine w_bipush 54 dX13_remembers_52 rfl (v := nI 26) rfl ?_
      refine w_icgeN 83 57 dX13_remembers_54 rfl rfl (by omega) (by omega) (fun c54 => ?_) (fun c54 => ?_)
      · skip
        refine w_aload_n 84 dX13_remembers_83 rfl rfl ?_
        refine w_dup_r 85 dX13_remembers_84 rfl ?_
        refine w_getiv 88 dX13_remembers_85 rfl faX13_345 rfl rfl rfl h20 ?_
        refine w_iconst 89 dX13_remembers_88 rfl (v := nI 1) rfl ?_
        refine w_iaddN 90 dX13_remembers_89 rfl ?_
        refine w_puti 93 dX13_remembers_90 rfl faX13_345 rfl rfl rfl rfl ?_
        refine wr_v dX13_remembers_93 rfl ?_
        have e : i = 26 := by omega
        subst e
        obtain ⟨g0, g1, g2, g3, g4, g5, g6⟩ := hH
        refine h _ ⟨g0, by omega, g2, by dsimp only; rw [upd2_at], by dsimp only; rw [upd2_off (by decide), (hO 100 (by decide)).1]; exact g4, fun i hi => ?_, fun i hi => (g6 i hi).eq (fun k _ => by dsimp only; rw [upd2_ne (by decide), (hO 105 (by decide)).1])⟩ ((QA.o hO (by decide) (by decide)).f (by decide) _) (by dsimp only; rw [upd2_ne (by decide)]; exact (hO 102 (by decide)).1)
        by_cases q : i = 0
        · subst q
          refine RwM.eq (A := A) (o := 102) (b := 0) (s := s) ⟨hC.2.1.eq hC.2.2.2.1 (fun k _ => by rw [Nat.zero_add]), hC.2.2.2.1, g0⟩ (fun k hk => ?_)
          dsimp only
          rw [upd2_ne (by decide), hp, if_pos ⟨by omega, by omega⟩, show 26 * (c + 1 - 1 - 0) + k - 26 * c = 0 + k by omega]
        · have hpi : pushH s H i = H (i - 1) := if_neg q
          rw [hpi]
          refine (g5 (i - 1) (by omega)).eq (fun k hk => ?_)
          dsimp only
          rw [upd2_ne (by decide), hp, if_neg (by omega), show c + 1 - 1 - i = c - 1 - (i - 1) by omega]
      · skip
        refine w_aload_n 58 dX13_remembers_57 rfl rfl ?_
        refine w_getr 61 dX13_remembers_58 rfl faX13_24 rfl rfl rfl (r := .ref 104) rfl ?_
        refine w_bipush 63 dX13_remembers_61 rfl (v := nI 26) rfl ?_
        refine w_aload_n 64 dX13_remembers_63 rfl rfl ?_
        refine w_getiv 67 dX13_remembers_64 rfl faX13_345 rfl rfl rfl h20 ?_
        refine w_imulN 68 dX13_remembers_67 rfl ?_
        refine w_iload_n 69 dX13_remembers_68 rfl rfl ?_
        refine w_iaddN 70 dX13_remembers_69 rfl ?_
        refine w_aload_n 71 dX13_remembers_70 rfl rfl ?_
        refine w_getr 74 dX13_remembers_71 rfl faX13_17 rfl rfl rfl (r := .ref 102) rfl ?_
        refine w_iload_n 75 dX13_remembers_74 rfl rfl ?_
        refine w_ialdN 76 dX13_remembers_75 rfl rfl rfl (by decide) (by omega) ?_
        refine w_iastN 77 dX13_remembers_76 rfl rfl rfl (by decide) (by omega) ?_
        refine w_inc1 80 dX13_remembers_77 rfl (by decide) rfl (v := nI (_ + 1)) (nI_1 _) ?_
        refine w_goto 51 dX13_remembers_80 rfl ?_
        refine ih (i + 1) _ (by omega) (hO.upd (by decide) _ _) (fun k => ?_) (by omega)
        dsimp only
        by_cases q : k = 26 * c + i
        · subst q
          rw [upd2_at, if_pos ⟨by omega, by omega⟩, show 26 * c + i - 26 * c = i by omega, (hO 102 (by decide)).1]
        · rw [upd2_off q, hp k]
          by_cases z : 26 * c ≤ k ∧ k < 26 * c + i
          · rw [if_pos z, if_pos ⟨z.1, by omega⟩]
          · rw [if_neg z, if_neg (by omega)]
  refine w_iconst 50 dX13_remembers_49 rfl (v := nI 0) rfl ?_
  refine w_ist1 51 dX13_remembers_50 rfl (by decide) rfl ?_
  exact lp51 _ 0 A (Nat.zero_le _) OffL.rf (fun k => by rw [if_neg (by omega)]) (Nat.lt_succ_self _)

set_option maxRecDepth 4000 in
theorem c_X13_remembers {K : Option Value → AH → Prop} {A : AH} {r : Value} {w : WT} {s : Nat → Nat} {H I : Nat → Nat → Nat} {c m : Nat} (hC : MC w s A) (hH : MH w s H I c m A) (h : ∀ A', MH w s (pushH s H) I (kpC c) m A' → QA A A' → A'.1 102 = A.1 102 → K none A') : Ct yX13_remembers mX13_remembers 0 dM (GG (.ref 111) r) [.ref 100] A K := by
  refine Ct.of [some (.ref 100), none] rfl rfl rfl (Nat.le_of_ble_eq_true rfl) ?_
  have hcl := hH.2.1
  have lp11 : ∀ (nf : Nat) (i : Nat) (A' : AH), c = 16 → i ≤ 390 → OffL [104] A A' → (∀ k, A'.1 104 k = if k < i then A.1 104 (k + 26) else A.1 104 k) → 390 - i < nf → WP mX13_remembers 0 dM (GG (.ref 111) r) 11 [some (.ref 100), some (.int (nI i))] [] A' K := by
    intro nf
    induction nf with
    | zero => intros; omega
    | succ nf ih =>
      intro i A' h16 hi hO hp hms
      have hkp : kpC c = 15 + 1 := if_neg (by omega)
      have h20 : A'.1 100 20 = nI c := by rw [(hO 100 (by decide)).1]; exact hH.2.2.2.1
      refine w_iload_n 12 dX13_remembers_11 rfl rfl ?_
      refine w_sipush 15 dX13_remembers_12 rfl (v := nI 390) rfl ?_
      refine w_icgeN 39 18 dX13_remembers_15 rfl rfl (by omega) (by omega) (fun c15 => ?_) (fun c15 => ?_)
      · skip
        refine w_aload_n 40 dX13_remembers_39 rfl rfl ?_
        refine w_dup_r 41 dX13_remembers_40 rfl ?_
        refine w_getiv 44 dX13_remembers_41 rfl faX13_345 rfl rfl rfl h20 ?_
        refine w_iconst 45 dX13_remembers_44 rfl (v := nI 1) rfl ?_
        refine w_isubN 46 dX13_remembers_45 rfl (by omega) ?_
        refine w_puti 49 dX13_remembers_46 rfl faX13_345 rfl rfl rfl rfl ?_
        have e : i = 390 := by omega
        subst e
        have hQA : QA A (upd2 A'.1 100 20 (nI (c - 1)), A'.2) := (QA.o hO (by decide) (by decide)).f (by decide) _
        have h102 : (upd2 A'.1 100 20 (nI (c - 1)), A'.2).1 102 = A.1 102 := by dsimp only; rw [upd2_ne (by decide)]; exact (hO 102 (by decide)).1
        have hC2 : MC w s (upd2 A'.1 100 20 (nI (c - 1)), A'.2) := hC.chg hQA (by rw [h102]; exact hC.2.1) hC.2.2.2.1
        have hH2 : MH w s H I 15 m (upd2 A'.1 100 20 (nI (c - 1)), A'.2) := by
          obtain ⟨g0, g1, g2, g3, g4, g5, g6⟩ := hH
          refine ⟨g0, by omega, g2, by dsimp only; rw [upd2_at, h16], by dsimp only; rw [upd2_off (by decide), (hO 100 (by decide)).1]; exact g4, fun i hi => ?_, fun i hi => (g6 i hi).eq (fun k _ => by dsimp only; rw [upd2_ne (by decide), (hO 105 (by decide)).1])⟩
          refine (g5 i (by omega)).eq (fun k hk => ?_)
          dsimp only
          rw [upd2_ne (by decide), hp, if_pos (by omega), show 26 * (15 - 1 - i) + k + 26 = 26 * (c - 1 - i) + k by omega]
        exact a_X13_remembers hC2 hH2 (by decide) (fun A3 hH3 hQ3 hv3 => h A3 (by rw [hkp]; exact hH3) (hQA.tr hQ3) (hv3.trans h102))
      · skip
        refine w_aload_n 19 dX13_remembers_18 rfl rfl ?_
        refine w_getr 22 dX13_remembers_19 rfl faX13_24 rfl rfl rfl (r := .ref 104) rfl ?_
        refine w_iload_n 23 dX13_remembers_22 rfl rfl ?_
        refine w_aload_n 24 dX13_remembers_23 rfl rfl ?_
        refine w_getr 27 dX13_remembers_24 rfl faX13_24 rfl rfl rfl (r := .ref 104) rfl ?_
        refine w_iload_n 28 dX13_remembers_27 rfl rfl ?_
        refine w_bipush 30 dX13_remembers_28 rfl (v := nI 26) rfl ?_
        refine w_iaddN 31 dX13_remembers_30 rfl ?_
        refine w_ialdN 32 dX13_remembers_31 rfl rfl rfl (by decide) (by omega) ?_
        refine w_iastN 33 dX13_remembers_32 rfl rfl rfl (by decide) (by omega) ?_
        refine w_inc1 36 dX13_remembers_33 rfl (by decide) rfl (v := nI (_ + 1)) (nI_1 _) ?_
        refine w_goto 11 dX13_remembers_36 rfl ?_
        refine ih (i + 1) _ h16 (by omega) (hO.upd (by decide) _ _) (fun k => ?_) (by omega)
        dsimp only
        by_cases q : k = i
        · subst q
          rw [upd2_at, if_pos (by omega), hp, if_neg (by omega)]
        · rw [upd2_off q, hp k]
          by_cases z : k < i
          · rw [if_pos z, if_pos (by omega)]
          · rw [if_neg z, if_neg (by omega)]
  refine w_aload_n 1 dX13_remembers_0 rfl rfl ?_
  refine w_getiv 4 dX13_remembers_1 rfl faX13_345 rfl rfl rfl hH.2.2.2.1 ?_
  refine w_bipush 6 dX13_remembers_4 rfl (v := nI 16) rfl ?_
  refine w_icneN 49 9 dX13_remembers_6 rfl rfl (by omega) (by omega) (fun c6 => ?_) (fun c6 => ?_)
  · skip
    have hkp : kpC c = c + 1 := if_pos (by omega)
    exact a_X13_remembers hC hH (by omega) (fun A3 hH3 hQ3 hv3 => h A3 (by rw [hkp]; exact hH3) hQ3 hv3)
  · skip
    have hkp : kpC c = 15 + 1 := if_neg (by omega)
    refine w_iconst 10 dX13_remembers_9 rfl (v := nI 0) rfl ?_
    refine w_ist1 11 dX13_remembers_10 rfl (by decide) rfl ?_
    exact lp11 _ 0 A (by omega) (Nat.zero_le _) OffL.rf (fun k => by rw [if_neg (by omega)]) (Nat.lt_succ_self _)

