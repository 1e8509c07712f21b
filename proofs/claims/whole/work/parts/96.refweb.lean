/-! ===== the reference: web() ===== -/
theorem line_w0 {g : Nat → Nat} {e : Nat} {w w' : WT} {nm nm' : NT} {p p' : Nat} (h : lineP g e w nm p = .inr (p', w', nm')) : 0 < w'.1 0 := by
  unfold lineP at h
  split at h
  · cases h
  · next j _ =>
    split at h
    · cases h
    · split at h
      · cases h
      · next h3 h4 =>
        split at h
        · cases h
        · next h5 =>
          split at h
          · cases h
          · cases h
            simp only [addW]
            split
            · omega
            · next h6 => exact Nat.pos_of_ne_zero (fun q => h5 ⟨fun z => h6 z.symm, q⟩)
theorem all_w0 {g : Nat → Nat} {e : Nat} : ∀ {k p : Nat} {w w' : WT} {nm : NT}, allP g e k p w nm = .inr w' → 0 < w'.1 0
  | 0, p, w, w', nm, h => by simp only [allP] at h; cases h
  | k + 1, p, w, w', nm, h => by
    simp only [allP] at h
    split at h
    · cases h
    · rename_i p1 w1 n1 hl
      have hw := line_w0 hl
      split at h
      · split at h
        · cases h
        · cases h
          exact hw
      · split at h
        · exact all_w0 h
        · cases h
def Gn (v r : Value) : Nat → Nat → Value := fun o k => if o < 111 then GG v r o k else .null
theorem nl_Gn (v r : Value) : nl 111 (Gn v r) := fun o ho k => by unfold Gn; rw [if_neg (by omega)]
/-- what web() leaves of the reference, whatever was read -/
def FZ (A A' : AH) : Prop := OffL wbL A A' ∧ (∀ k, 15 < k → A'.1 100 k = A.1 100 k) ∧ A'.1 100 6 = nI 0
theorem RepM_empty {A : AH} (h0 : A.1 111 0 = -1) (hz : ∀ o, 111 ≤ o → ∀ k, (o = 111 → k ≠ 0) → A.1 o k = 0) : RepM emptyW A := by
  have z : ∀ o k, 111 ≤ o → (o = 111 → k ≠ 0) → A.1 o k = nI 0 := fun o k h1 h2 => hz o h1 k h2
  refine ⟨⟨?_, ?_, ?_⟩, fun j h1 h2 => ?_, fun t ht => absurd ht (Nat.not_lt_zero t), fun t ht => ?_, fun k hk => absurd hk (Nat.not_lt_zero k), fun k hk => absurd hk (Nat.not_lt_zero k), fun k hk => absurd hk (Nat.not_lt_zero k), fun k hk => absurd hk (Nat.not_lt_zero k), fun k hk => absurd hk (Nat.not_lt_zero k)⟩
  · rw [h0]; rfl
  · exact z 111 1 (by decide) (by decide)
  · exact z 111 9 (by decide) (by decide)
  · exact z 111 (j + 1) (by decide) (by omega)
  · exact z 117 t (by decide) (by omega)
theorem RN_empty {A : AH} (hz : A.1 111 10 = 0) : RN noN A := ⟨hz, fun i hi => absurd hi (Nat.not_lt_zero i), ⟨by decide, fun i hi => absurd hi (Nat.not_lt_zero i)⟩, PI.empty.2.2.2.2, fun i hi => absurd hi (Nat.not_lt_zero i)⟩
set_option maxRecDepth 4000 in
theorem c_X13_refusedV {K : Option Value → AH → Prop} {A : AH} {v r : Value} {x : Nat} (h : ∀ A', QM A A' → A'.1 100 1 = nI x → A'.1 100 2 = -1 → K (some (.int (-1))) A') : Ct yX13_refused mX13_refused 0 dN (Gn v r) [.ref 100, .int (nI x)] A K := by
  refine Ct.of [some (.ref 100), some (.int (nI x))] rfl rfl rfl (Nat.le_of_ble_eq_true rfl) ?_
  refine w_aload_n 1 dX13_refused_0 rfl rfl ?_
  refine w_iload_n 2 dX13_refused_1 rfl rfl ?_
  refine w_puti 5 dX13_refused_2 rfl faX13_49 rfl rfl rfl rfl ?_
  refine w_aload_n 6 dX13_refused_5 rfl rfl ?_
  refine w_iconst 7 dX13_refused_6 rfl (v := (-1)) rfl ?_
  refine w_puti 10 dX13_refused_7 rfl faX13_9 rfl rfl rfl rfl ?_
  refine w_iconst 11 dX13_refused_10 rfl (v := (-1)) rfl ?_
  refine wr_i dX13_refused_11 rfl ?_
  exact h _ ((QM.rf.f (by decide) _).f (by decide) _) (by dsimp only; rw [upd2_off (by decide), upd2_at]) (by dsimp only; rw [upd2_at])

set_option maxRecDepth 4000 in
theorem a_X13_web17 {K : Option Value → AH → Prop} {A : AH} {v r : Value} {x : Int32} (h : ∀ A', QM A A' → A'.1 100 1 = nI 2 → A'.1 100 2 = -1 → K (some (.int (-1))) A') : WP mX13_web 13 dN (Gn v r) 17 [some (.ref 100), some (.int x), none] [] A K := by
  refine w_aload_n 18 dX13_web_17 rfl rfl ?_
  refine w_iconst 19 dX13_web_18 rfl (v := nI 2) rfl ?_
  refine w_inv1 22 dX13_web_19 rfl mlX13_52 rfl rfl (d' := 0) (by decide) (Nat.le_of_ble_eq_true rfl) (c_X13_refusedV (fun A2 hQ2 ht2 hw2 => ?_))
  refine wr_i dX13_web_22 rfl ?_
  exact h A2 hQ2 ht2 hw2

set_option maxRecDepth 4000 in
theorem a_X13_web74 {K : Option Value → AH → Prop} {A : AH} {v : Value} {x : Int32} {pl : Nat} (hw : A.1 100 13 = nI pl) (h : K (some (.int (-1))) (upd2 (upd2 A.1 100 1 (nI 4)) 100 2 (nI pl), A.2)) : WP mX13_web 13 dM (GG v (.ref 111)) 74 [some (.ref 100), some (.int x), none] [] A K := by
  refine w_aload_n 75 dX13_web_74 rfl rfl ?_
  refine w_iconst 76 dX13_web_75 rfl (v := nI 4) rfl ?_
  refine w_puti 79 dX13_web_76 rfl faX13_49 rfl rfl rfl rfl ?_
  refine w_aload_n 80 dX13_web_79 rfl rfl ?_
  refine w_aload_n 81 dX13_web_80 rfl rfl ?_
  refine w_getiv 84 dX13_web_81 rfl faX13_107 rfl rfl rfl (v := nI pl) (by dsimp only; rw [upd2_off (by decide)]; exact hw) ?_
  refine w_puti 87 dX13_web_84 rfl faX13_9 rfl rfl rfl rfl ?_
  refine w_iconst 88 dX13_web_87 rfl (v := (-1)) rfl ?_
  refine wr_i dX13_web_88 rfl ?_
  exact h

set_option maxRecDepth 8000 in
theorem GG_read {v r : Value} : ∀ o, o ∈ dmL (100, 33) → ∀ k, k < 32 → GG v (.ref 111) o k = upd2 (g_X12_init_111 (Gn v r)) 100 4 (.ref 111) o k := by
  intro o ho k hk
  obtain ⟨i, hi, rfl⟩ := List.mem_map.mp ho
  have hi := List.mem_range.mp hi
  rcases i with _ | _ | _ | _ | _ | _ | _ | _ | _ | _ | _ | _ | _ | _ | _ | _ | _ | _ | _ | _ | _ | _ | _ | _ | _ | _ | _ | _ | _ | _ | _ | _ | _ | i
  all_goals first | omega | (rcases k with _ | _ | _ | _ | _ | _ | _ | _ | _ | _ | _ | _ | _ | _ | _ | _ | _ | _ | _ | _ | _ | _ | _ | _ | _ | _ | _ | _ | _ | _ | _ | _ | k <;> first | rfl | omega)
set_option maxRecDepth 8000 in
theorem GG_web {v r : Value} : ∀ o, o ∈ dmL (100, 33) → ∀ k, k < 32 → GG (.ref 111) (.ref 111) o k = upd2 (GG v (.ref 111)) 100 3 (.ref 111) o k := by
  intro o ho k hk
  obtain ⟨i, hi, rfl⟩ := List.mem_map.mp ho
  have hi := List.mem_range.mp hi
  rcases i with _ | _ | _ | _ | _ | _ | _ | _ | _ | _ | _ | _ | _ | _ | _ | _ | _ | _ | _ | _ | _ | _ | _ | _ | _ | _ | _ | _ | _ | _ | _ | _ | _ | i
  all_goals first | omega | (rcases k with _ | _ | _ | _ | _ | _ | _ | _ | _ | _ | _ | _ | _ | _ | _ | _ | _ | _ | _ | _ | _ | _ | _ | _ | _ | _ | _ | _ | _ | _ | _ | _ | k <;> first | rfl | omega)
set_option maxRecDepth 8000 in
theorem wg_web {E : Nat → List (Option Value) → List Value → Nat → Nat → Nat → (Nat → Nat → Value) → AH → Prop} {A : AH} {v r : Value} {x : Int32} {n0 : Nat} {tp : Nat → Int32} (hT : A.1 100 6 = nI n0) (h9 : n0 ≤ 900) (htp : ∀ i, i < n0 → A.1 101 i = tp i) (hB : ∀ i, i < n0 → isB (tp i)) (hz : zA 111 A) (h17 : tB n0 x ≠ 0 → ∀ A', QM A A' → E 17 [some (.ref 100), some (.int x), none] [] 11 0 0 (Gn v r) A') (h74 : ∀ n f pl A', x = nI n → n ≤ n0 → allP (gB tp) n (n + 1) 0 emptyW noN = .inl (f, pl) → OV f pl A' → FZ A A' → E 74 [some (.ref 100), some (.int x), none] [] 33 22 181 (GG v (.ref 111)) A') (h97 : ∀ n w' A', x = nI n → n ≤ n0 → allP (gB tp) n (n + 1) 0 emptyW noN = .inr w' → RepM w' A' → A'.1 100 12 = nI 0 → FZ A A' → E 97 [some (.ref 100), some (.int x), none] [] 33 22 181 (GG (.ref 111) (.ref 111)) A') : WN mX13_web false 13 100 33 22 181 E 11 0 0 (Gn v r) A 0 [some (.ref 100), some (.int x), none] [] := by
  refine wg_aload_n 1 dX13_web_0 rfl rfl ?_
  refine wg_iconst 2 dX13_web_1 rfl (v := nI 0) rfl ?_
  refine wg_puti 5 dX13_web_2 rfl fbX13_46 (by decide) rfl rfl rfl ?_
  refine wg_iload_n 6 dX13_web_5 rfl rfl ?_
  refine wg_iflt 17 9 dX13_web_6 rfl rfl (fun c6 => wg_exit (h17 (by unfold tB; rw [if_neg (fun z => absurd c6 (Int32.not_lt.mpr z.1))]; decide) _ (QM.rf.f (by decide) _))) (fun c6 => ?_)
  refine wg_iload_n 10 dX13_web_9 rfl rfl ?_
  refine wg_aload_n 11 dX13_web_10 rfl rfl ?_
  refine wg_geti (x := nI n0) 14 dX13_web_11 rfl faX13_336 (by decide) rfl rfl (by dsimp only; rw [upd2_off (by decide)]; exact hT) ?_
  refine wg_icle 23 17 dX13_web_14 rfl rfl (fun c14 => ?_) (fun c14 => wg_exit (h17 (by unfold tB; rw [if_neg (fun z => c14 z.2)]; decide) _ (QM.rf.f (by decide) _)))
  obtain ⟨n, hn31, rfl⟩ := nI_of c6
  have hn : n ≤ n0 := (nI_leI hn31 (by omega)).mp c14
  refine wg_aload_n 24 dX13_web_23 rfl rfl ?_
  refine wg_iload_n 25 dX13_web_24 rfl rfl ?_
  refine wg_puti 28 dX13_web_25 rfl fbX13_63 (by decide) rfl rfl rfl ?_
  refine wg_aload_n 29 dX13_web_28 rfl rfl ?_
  refine wg_iconst 30 dX13_web_29 rfl (v := nI 0) rfl ?_
  refine wg_puti 33 dX13_web_30 rfl fbX13_336 (by decide) rfl rfl rfl ?_
  refine wg_aload_n 34 dX13_web_33 rfl rfl ?_
  refine wg_iconst 35 dX13_web_34 rfl (v := nI 0) rfl ?_
  refine wg_puti 38 dX13_web_35 rfl fbX13_81 (by decide) rfl rfl rfl ?_
  refine wg_aload_n 39 dX13_web_38 rfl rfl ?_
  refine wg_iconst 40 dX13_web_39 rfl (v := nI 0) rfl ?_
  refine wg_puti 43 dX13_web_40 rfl fbX13_104 (by decide) rfl rfl rfl ?_
  have ha1 := ((((hz.up (x := 100) (f := 0) (v := nI 0) (by decide)).up (x := 100) (f := 7) (v := nI n) (by decide)).up (x := 100) (f := 6) (v := nI 0) (by decide)).up (x := 100) (f := 8) (v := nI 0) (by decide)).up (x := 100) (f := 12) (v := nI 0) (by decide)
  have hOa : OffL wbL A (upd2 (upd2 (upd2 (upd2 (upd2 A.1 100 0 (nI 0)) 100 7 (nI n)) 100 6 (nI 0)) 100 8 (nI 0)) 100 12 (nI 0), A.2) := ((((OffL.rf.upd (by decide) _ _).upd (by decide) _ _).upd (by decide) _ _).upd (by decide) _ _).upd (by decide) _ _
  have hka : ∀ k, 15 < k → (upd2 (upd2 (upd2 (upd2 (upd2 A.1 100 0 (nI 0)) 100 7 (nI n)) 100 6 (nI 0)) 100 8 (nI 0)) 100 12 (nI 0)) 100 k = A.1 100 k := fun k hk => by rw [upd2_off (by omega), upd2_off (by omega), upd2_off (by omega), upd2_off (by omega), upd2_off (by omega)]
  have h6a : (upd2 (upd2 (upd2 (upd2 (upd2 A.1 100 0 (nI 0)) 100 7 (nI n)) 100 6 (nI 0)) 100 8 (nI 0)) 100 12 (nI 0)) 100 6 = nI 0 := by rw [upd2_off (by decide), upd2_off (by decide), upd2_at]
  have h7a : (upd2 (upd2 (upd2 (upd2 (upd2 A.1 100 0 (nI 0)) 100 7 (nI n)) 100 6 (nI 0)) 100 8 (nI 0)) 100 12 (nI 0)) 100 7 = nI n := by rw [upd2_off (by decide), upd2_off (by decide), upd2_off (by decide), upd2_at]
  have h8a : (upd2 (upd2 (upd2 (upd2 (upd2 A.1 100 0 (nI 0)) 100 7 (nI n)) 100 6 (nI 0)) 100 8 (nI 0)) 100 12 (nI 0)) 100 8 = nI 0 := by rw [upd2_off (by decide), upd2_at]
  have h12a : (upd2 (upd2 (upd2 (upd2 (upd2 A.1 100 0 (nI 0)) 100 7 (nI n)) 100 6 (nI 0)) 100 8 (nI 0)) 100 12 (nI 0)) 100 12 = nI 0 := by rw [upd2_at]
  generalize hAd : ((upd2 (upd2 (upd2 (upd2 (upd2 A.1 100 0 (nI 0)) 100 7 (nI n)) 100 6 (nI 0)) 100 8 (nI 0)) 100 12 (nI 0), A.2) : AH) = A1 at ha1 hOa ⊢
  have hA1 : A1.1 = upd2 (upd2 (upd2 (upd2 (upd2 A.1 100 0 (nI 0)) 100 7 (nI n)) 100 6 (nI 0)) 100 8 (nI 0)) 100 12 (nI 0) := by rw [← hAd]
  rw [← hA1] at hka h6a h7a h8a h12a
  refine wg_aload_n 44 dX13_web_43 rfl rfl ?_
  refine wg_new (x := 111) (n' := 12) (kc' := 1) (ks' := 32) 47 dX13_web_44 rfl nlX13_154 rfl rfl rfl (by decide) (ha1.n (nl_Gn v r) (by decide)) rfl rfl ⟨by decide, by decide⟩ ?_
  refine wg_dup 48 dX13_web_47 rfl ?_
  refine wg_init (n1 := 33) (kc' := 22) (ks' := 181) 51 dX13_web_48 rfl ilX13_339 (i_X12_init_111 ((nl_Gn v r).mono (by decide)) (ha1.mono (by decide))) (by decide) rfl rfl ⟨by decide, by decide⟩ ⟨by decide, by decide⟩ (Nat.le_of_ble_eq_true rfl) ?_
  refine wg_putr 54 dX13_web_51 rfl fbX13_149 (by decide) rfl (fun _ _ _ => rfl) (Or.inl rfl) (fun _ => rfl) (fun _ => rfl) ?_
  refine wg_congG (G' := GG v (.ref 111)) GG_read ?_
  refine wg_aload_n 55 dX13_web_54 rfl rfl ?_
  refine wg_iconst 56 dX13_web_55 rfl (v := nI 0) rfl ?_
  refine wg_puti 59 dX13_web_56 rfl fbX13_78 (by decide) rfl rfl rfl ?_
  have hA2 : ∀ k, k ≠ 9 → (upd2 (upd2 A1.1 111 0 (-1)) 100 9 (nI 0)) 100 k = A1.1 100 k := fun k hk => by rw [upd2_off hk, upd2_ne (by decide)]
  have hT2 : TA n tp (upd2 (upd2 A1.1 111 0 (-1)) 100 9 (nI 0), A1.2) := ⟨(hA2 7 (by decide)).trans h7a, by omega, fun i hi => ⟨by dsimp only; rw [upd2_ne (by decide), upd2_ne (by decide), (hOa 101 (by decide)).1]; exact htp i (by omega), hB i (by omega)⟩⟩
  refine wg_aload_n 60 dX13_web_59 rfl rfl ?_
  refine wg_inv (As := []) 63 dX13_web_60 rfl mlX13_114 (by decide) rfl rfl (d' := 1) (by decide) ⟨by decide, by decide⟩ (by decide) (Nat.le_of_ble_eq_true rfl) (c_X13_goesOn (p := 0) (k := 0) hT2 (Nat.zero_le _) ((hA2 8 (by decide)).trans h8a) (by dsimp only; rw [upd2_at]) (by decide) ((hA2 12 (by decide)).trans h12a) (fun A3 hL3 hF3 => ?_))
  have hz3 : ∀ o, 111 ≤ o → ∀ k, (o = 111 → k ≠ 0) → A3.1 o k = 0 := fun o ho k hk => by
    rw [(hF3.1 o (by simp; omega)).1]
    dsimp only
    rw [upd2_ne (by omega)]
    by_cases q : o = 111
    · subst q; rw [upd2_off (hk rfl)]; exact (ha1 111 (by decide) k).1
    · rw [upd2_ne q]; exact (ha1 o ho k).1
  have hM3 : RepM emptyW A3 := RepM_empty (by rw [(hF3.1 111 (by decide)).1]; dsimp only; rw [upd2_ne (by decide), upd2_at]) hz3
  have hT3 : TA n tp A3 := ⟨(hF3.2 7 (by decide)).trans hT2.1, hT2.2.1, fun i hi => ⟨by rw [(hF3.1 101 (by decide)).1]; exact (hT2.2.2 i hi).1, (hT2.2.2 i hi).2⟩⟩
  refine wg_aload_n 64 dX13_web_63 rfl rfl ?_
  refine wg_inv (As := []) 67 dX13_web_64 rfl mlX13_340 (by decide) rfl rfl (d' := 12) (by decide) ⟨by decide, by decide⟩ (by decide) (Nat.le_of_ble_eq_true rfl) (c_X13_readAll hT3 hL3 hM3 (RN_empty (hz3 111 (by decide) 10 (by decide))) PI.empty (fun A4 hS4 hF4 => ?_))
  have hO4 : OffL wbL A A4 := ((hOa.upd (by decide) 0 (-1)).upd (by decide) 9 (nI 0)).tr ((hF3.1.mono (by decide)).tr hF4.1)
  have hZ4 : FZ A A4 := ⟨hO4, fun k hk => by rw [hF4.2 k (Or.inr hk), hF3.2 k (by omega)]; exact (hA2 k (by omega)).trans (hka k hk), by rw [hF4.2 6 (by decide), hF3.2 6 (by decide)]; exact (hA2 6 (by decide)).trans h6a⟩
  refine wg_aload_n 68 dX13_web_67 rfl rfl ?_
  cases hal : allP (gB tp) n (n + 1) 0 emptyW noN with
  | inl z =>
    obtain ⟨f, pl⟩ := z
    rw [hal] at hS4
    have hfb := fb_all hal
    dsimp only at hfb
    refine wg_geti (x := nI f) 71 dX13_web_68 rfl faX13_104 (by decide) rfl rfl hS4.2.1 ?_
    refine wg_ifle 89 74 dX13_web_71 rfl rfl (fun c71 => absurd ((nI_le0 (by omega)).mp c71) (Nat.ne_of_gt hS4.2.2.2)) (fun c71 => ?_)
    exact wg_exit (h74 n f pl A4 rfl hn hal hS4 hZ4)
  | inr w' =>
    rw [hal] at hS4
    refine wg_geti (x := nI 0) 71 dX13_web_68 rfl faX13_104 (by decide) rfl rfl hS4.1 ?_
    refine wg_ifle 89 74 dX13_web_71 rfl rfl (fun c71 => ?_) (fun c71 => absurd ((nI_le0 (by decide)).mpr rfl) c71)
    refine wg_aload_n 90 dX13_web_89 rfl rfl ?_
    refine wg_aload_n 91 dX13_web_90 rfl rfl ?_
    refine wg_getr (x := 111) 94 dX13_web_91 rfl faX13_149 (by decide) rfl (fun _ _ _ => rfl) rfl ?_
    refine wg_putr 97 dX13_web_94 rfl fbX13_343 (by decide) rfl (fun _ _ _ => rfl) (Or.inl rfl) (fun _ => rfl) (fun _ => rfl) ?_
    refine wg_congG (G' := GG (.ref 111) (.ref 111)) (GG_web (r := r)) ?_
    exact wg_exit (h97 n w' A4 rfl hn hal hS4.2.1 hS4.1 hZ4)
theorem c_X13_web {K : Option Value → Nat → (Nat → Nat → Value) → AH → Prop} {A : AH} {v r : Value} {x : Int32} {n0 : Nat} {tp : Nat → Int32} (hT : A.1 100 6 = nI n0) (h9 : n0 ≤ 900) (htp : ∀ i, i < n0 → A.1 101 i = tp i) (hB : ∀ i, i < n0 → isB (tp i)) (hz : zA 111 A) (h2 : tB n0 x ≠ 0 → ∀ A', QM A A' → A'.1 100 1 = nI 2 → A'.1 100 2 = -1 → K (some (.int (-1))) 11 (Gn v r) A')
    (hf : ∀ n f pl, x = nI n → n ≤ n0 → allP (gB tp) n (n + 1) 0 emptyW noN = .inl (f, pl) → ∀ A', FZ A A' → A'.1 100 1 = nI 4 → A'.1 100 2 = nI pl → A'.1 100 12 = nI f → K (some (.int (-1))) 33 (GG v (.ref 111)) A')
    (hs : ∀ n w', x = nI n → n ≤ n0 → allP (gB tp) n (n + 1) 0 emptyW noN = .inr w' → ∀ A', (∀ s', begOK w' (w'.1 2) s' → MC w' s' A' ∧ ∀ H I, MH w' s' H I 0 0 A') → A'.1 100 6 = nI 0 → A'.1 100 12 = nI 0 → A'.1 100 1 = nI 0 → A'.1 100 2 = -1 → K (some (.int (nI (w'.1 1)))) 33 (GG (.ref 111) (.ref 111)) A') : CtG yX13_web mX13_web 13 22 181 100 33 11 [.ref 100, .int x] (Gn v r) A K := by
  refine CtG.of [some (.ref 100), some (.int x), none] rfl rfl rfl (Nat.le_of_ble_eq_true rfl) ?_
  refine wg_web hT h9 htp hB hz (fun ht A' hQ => ⟨by decide, by decide, ?_⟩) (fun n f pl A' hx hn hal hO hZ => ⟨by decide, by decide, ?_⟩) (fun n w' A' hx hn hal hM h12 hZ => ⟨by decide, by decide, ?_⟩)
  · exact a_X13_web17 (fun A2 hQ2 h1 h2' => h2 ht A2 (hQ.tr hQ2) h1 h2')
  · refine a_X13_web74 hO.2.2.1 (hf n f pl hx hn hal _ ⟨(hZ.1.upd (by decide) _ _).upd (by decide) _ _, fun k hk => ?_, ?_⟩ ?_ ?_ ?_)
    · dsimp only; rw [upd2_off (by omega), upd2_off (by omega)]; exact hZ.2.1 k hk
    · dsimp only; rw [upd2_off (by decide), upd2_off (by decide)]; exact hZ.2.2
    · dsimp only; rw [upd2_off (by decide), upd2_at]
    · dsimp only; rw [upd2_at]
    · dsimp only; rw [upd2_off (by decide), upd2_off (by decide)]; exact hO.2.1
  · obtain ⟨⟨nm, hPI⟩, h1⟩ := all_PI PI.empty hal
    subst hx
    refine a_X13_web (w := w') hM hPI (fun A5 A9 hv hO5 hk5 h20 h21 hQ9 ht9 hw9 => hs n w' rfl hn hal A9 (fun s' hb => ?_) ?_ ?_ ht9 hw9)
    · have hM9 : RepM w' A9 := (hM.cong (fun y a b => (hO5 y (by simp; omega)).1)).q hQ9
      refine ⟨⟨hM9, VR_beg hPI hb (fun k hk => by rw [(hQ9.1 102 (by decide)).1]; exact hv k hk), ⟨nm, hPI⟩, beg_ok hPI hb, h1, all_w0 hal⟩, fun H I => ⟨by rw [hb.2.1]; exact Nat.le_refl _, by decide, by decide, (hQ9.2 20 (by decide)).trans h20, (hQ9.2 21 (by decide)).trans h21, fun i hi => absurd hi (Nat.not_lt_zero i), fun i hi => absurd hi (Nat.not_lt_zero i)⟩⟩
    · rw [hQ9.2 6 (by decide), hk5 6 (by decide) (by decide)]; exact hZ.2.2
    · rw [hQ9.2 12 (by decide), hk5 12 (by decide) (by decide)]; exact h12
