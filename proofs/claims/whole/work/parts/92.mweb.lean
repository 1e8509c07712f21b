/-! ===== the reference: a web begins ===== -/
set_option maxRecDepth 4000 in
theorem a_X13_web {K : Option Value → AH → Prop} {A : AH} {r : Value} {w : WT} {nm : NT} {n : Nat} (hM : RepM w A) (hP : PI w nm) (h : ∀ A' A9, (∀ k, k < 26 → A'.1 102 k = if k < 8 then -1 else if k = 24 then nI (w.1 2) else nI 0) → OffL [100, 102] A A' → (∀ k, k ≠ 20 → k ≠ 21 → A'.1 100 k = A.1 100 k) → A'.1 100 20 = nI 0 → A'.1 100 21 = nI 0 → QM A' A9 → A9.1 100 1 = nI 0 → A9.1 100 2 = -1 → K (some (.int (nI (w.1 1)))) A9) : WP mX13_web 13 dM (GG (.ref 111) r) 97 [some (.ref 100), some (.int (nI n)), none] [] A K := by
  have lp120 : ∀ (nf : Nat) (i : Nat) (A' : AH), i ≤ 8 → OffL [102] A A' → (∀ k, k < 26 → A'.1 102 k = if k < i then -1 else nI 0) → 8 - i < nf → WP mX13_web 13 dM (GG (.ref 111) r) 120 [some (.ref 100), some (.int (nI n)), some (.int (nI i))] [] A' K := by
    intro nf
    induction nf with
    | zero => intros; omega
    | succ nf ih =>
      intro i A' hi hO hz hms
      have hM2 : RepM w A' := hM.cong (fun x a b => (hO x (by simp; omega)).1)
      refine w_iload_n 121 dX13_web_120 rfl rfl ?_
      refine w_bipush 123 dX13_web_121 rfl (v := nI 8) rfl ?_
      refine w_icgeN 141 126 dX13_web_123 rfl rfl (by omega) (by omega) (fun c123 => ?_) (fun c123 => ?_)
      · skip
        refine w_aload_n 142 dX13_web_141 rfl rfl ?_
        refine w_getr 145 dX13_web_142 rfl faX13_17 rfl rfl rfl (r := .ref 102) rfl ?_
        refine w_bipush 147 dX13_web_145 rfl (v := nI 24) rfl ?_
        refine w_aload_n 148 dX13_web_147 rfl rfl ?_
        refine w_getr 151 dX13_web_148 rfl faX13_343 rfl rfl rfl (r := .ref 111) rfl ?_
        refine w_getiv 154 dX13_web_151 rfl faX13_241 rfl rfl rfl (hM2.2.1 2 (by decide) (by decide)) ?_
        refine w_iastN 155 dX13_web_154 rfl rfl rfl (by decide) (by omega) ?_
        refine w_aload_n 156 dX13_web_155 rfl rfl ?_
        refine w_iconst 157 dX13_web_156 rfl (v := nI 0) rfl ?_
        refine w_puti 160 dX13_web_157 rfl faX13_345 rfl rfl rfl rfl ?_
        refine w_aload_n 161 dX13_web_160 rfl rfl ?_
        refine w_iconst 162 dX13_web_161 rfl (v := nI 0) rfl ?_
        refine w_puti 165 dX13_web_162 rfl faX13_348 rfl rfl rfl rfl ?_
        refine w_aload_n 166 dX13_web_165 rfl rfl ?_
        refine w_aload_n 167 dX13_web_166 rfl rfl ?_
        refine w_getr 170 dX13_web_167 rfl faX13_343 rfl rfl rfl (r := .ref 111) rfl ?_
        refine w_getiv 173 dX13_web_170 rfl faX13_194 rfl rfl rfl (v := nI (w.1 1)) (by dsimp only; rw [upd2_ne (by decide), upd2_ne (by decide), upd2_ne (by decide)]; exact hM2.2.1 1 (by decide) (by decide)) ?_
        refine w_inv1 176 dX13_web_173 rfl mlX13_56 rfl rfl (d' := 0) (by decide) (Nat.le_of_ble_eq_true rfl) (c_X13_good (fun A9 hQ9 ht9 hw9 => ?_))
        refine wr_i dX13_web_176 rfl ?_
        have e : i = 8 := by omega
        subst e
        exact h _ A9 (fun k hk => by
          dsimp only
          rw [upd2_ne (by decide), upd2_ne (by decide)]
          by_cases q : k = 24
          · subst q; rw [upd2_at, if_neg (by decide), if_pos rfl]
          · rw [upd2_off q, hz k hk, if_neg (c := k = 24) q]) (((((hO.mono (by decide) : OffL [100, 102] A A').upd (by decide) _ _).upd (by decide) _ _).upd (by decide) _ _)) (fun k h1 h2 => by dsimp only; rw [upd2_off h2, upd2_off h1, upd2_ne (by decide), (hO 100 (by decide)).1]) (by dsimp only; rw [upd2_off (by decide), upd2_at]) (by dsimp only; rw [upd2_at]) hQ9 ht9 hw9
      · skip
        refine w_aload_n 127 dX13_web_126 rfl rfl ?_
        refine w_getr 130 dX13_web_127 rfl faX13_17 rfl rfl rfl (r := .ref 102) rfl ?_
        refine w_iconst 131 dX13_web_130 rfl (v := nI 0) rfl ?_
        refine w_iload_n 132 dX13_web_131 rfl rfl ?_
        refine w_iaddN 133 dX13_web_132 rfl ?_
        refine w_top (show nI (0 + i) = nI i by rw [Nat.zero_add]) ?_
        refine w_iconst 134 dX13_web_133 rfl (v := (-1)) rfl ?_
        refine w_iastN 135 dX13_web_134 rfl rfl rfl (by decide) (by omega) ?_
        refine w_inc2 138 dX13_web_135 rfl (by decide) rfl (v := nI (_ + 1)) (nI_1 _) ?_
        refine w_goto 120 dX13_web_138 rfl ?_
        refine ih (i + 1) _ (by omega) (hO.upd (by decide) _ _) (fun k hk => ?_) (by omega)
        dsimp only
        by_cases q : k = i
        · subst q; rw [upd2_at, if_pos (by omega)]
        · rw [upd2_off q, hz k hk]
          by_cases z : k < i
          · rw [if_pos z, if_pos (by omega)]
          · rw [if_neg z, if_neg (by omega)]
  have lp99 : ∀ (nf : Nat) (i : Nat) (A' : AH), i ≤ 26 → OffL [102] A A' → (∀ k, k < i → A'.1 102 k = nI 0) → 26 - i < nf → WP mX13_web 13 dM (GG (.ref 111) r) 99 [some (.ref 100), some (.int (nI n)), some (.int (nI i))] [] A' K := by
    intro nf
    induction nf with
    | zero => intros; omega
    | succ nf ih =>
      intro i A' hi hO hz hms
      refine w_iload_n 100 dX13_web_99 rfl rfl ?_
      refine w_bipush 102 dX13_web_100 rfl (v := nI 26) rfl ?_
      refine w_icgeN 118 105 dX13_web_102 rfl rfl (by omega) (by omega) (fun c102 => ?_) (fun c102 => ?_)
      · skip
        refine w_iconst 119 dX13_web_118 rfl (v := nI 0) rfl ?_
        refine w_ist2 120 dX13_web_119 rfl (by decide) rfl ?_
        have e : i = 26 := by omega
        subst e
        exact lp120 _ 0 A' (Nat.zero_le _) hO (fun k hk => by rw [if_neg (by omega)]; exact hz k hk) (Nat.lt_succ_self _)
      · skip
        refine w_aload_n 106 dX13_web_105 rfl rfl ?_
        refine w_getr 109 dX13_web_106 rfl faX13_17 rfl rfl rfl (r := .ref 102) rfl ?_
        refine w_iload_n 110 dX13_web_109 rfl rfl ?_
        refine w_iconst 111 dX13_web_110 rfl (v := nI 0) rfl ?_
        refine w_iastN 112 dX13_web_111 rfl rfl rfl (by decide) (by omega) ?_
        refine w_inc2 115 dX13_web_112 rfl (by decide) rfl (v := nI (_ + 1)) (nI_1 _) ?_
        refine w_goto 99 dX13_web_115 rfl ?_
        refine ih (i + 1) _ (by omega) (hO.upd (by decide) _ _) (fun k hk => ?_) (by omega)
        dsimp only
        by_cases q : k = i
        · subst q; rw [upd2_at]
        · rw [upd2_off q]; exact hz k (by omega)
  refine w_iconst 98 dX13_web_97 rfl (v := nI 0) rfl ?_
  refine w_ist2 99 dX13_web_98 rfl (by decide) rfl ?_
  exact lp99 _ 0 A (Nat.zero_le _) OffL.rf (fun k hk => absurd hk (Nat.not_lt_zero k)) (Nat.lt_succ_self _)

theorem VR_beg {w : WT} {nm : NT} {s : Nat → Nat} {v : Nat → Int32} (hP : PI w nm) (hb : begOK w (w.1 2) s) (hv : ∀ k, k < 26 → v k = if k < 8 then -1 else if k = 24 then nI (w.1 2) else nI 0) : VR w s v := by
  obtain ⟨h0, h1, h2, h3⟩ := hb
  have hr := hP.1 2 (by decide)
  have hrv : roomN 2 = 7 := rfl
  refine ⟨?_, ?_, ?_, fun t ht => ?_⟩
  · rw [hv 24 (by decide), h1]; rfl
  · rw [hv 25 (by decide), h0]; rfl
  · rw [h2]; exact Nat.two_pow_pos _
  · have ht2 : t < w.1 2 := by omega
    obtain ⟨g1, g2⟩ := h3 t ht2
    have z : ∀ c, cz s t c = s (3 + t * 6 + c) := fun c => by unfold cz; rw [if_pos ht]
    refine ⟨?_, ?_, Or.inl ⟨?_, ht2, fun c hc => by rw [z]; exact g1 c hc⟩⟩
    · rw [hv (8 + t) (by omega), if_neg (by omega), if_neg (by omega), z, g2]
    · rw [hv (16 + t) (by omega), if_neg (by omega), if_neg (by omega), h2]; simp; rfl
    · rw [hv t (by omega), if_pos (by omega)]
