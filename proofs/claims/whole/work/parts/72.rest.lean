/-! ===== the reference: led, size, trouble, feed ===== -/
theorem okS.y {s : Nat → Nat} (h : okS s) : okY s := ⟨by have := h.1; omega, h.2⟩
def cnB (s : Nat → Nat) (t : Nat) : Bool := decide (stg s t 0 = 0)
theorem ledF_cnt (s : Nat → Nat) (x : Int32) : ∀ t, ledF s x t + nI (cntTo (cnB s) t) = x
  | 0 => by show x + nI 0 = x; rw [show nI 0 = 0 from rfl, Int32.add_zero]
  | t + 1 => by
    have ih := ledF_cnt s x t
    simp only [ledF, cntTo]
    by_cases q : stg s t 0 = 0
    · have hb : cnB s t = true := decide_eq_true q
      rw [if_pos q, if_pos hb, ← nI_1, Int32.add_comm _ 1, ← Int32.add_assoc, Int32.sub_add_cancel]
      exact ih
    · have hb : ¬ cnB s t = true := fun z => q (of_decide_eq_true z)
      rw [if_neg q, if_neg hb]
      exact ih
theorem ledF_iff (s : Nat → Nat) (x : Int32) (t : Nat) : ledF s x t = 0 ↔ nI (cntTo (cnB s) t) = x := by
  have h := ledF_cnt s x t
  constructor
  · intro e
    rw [e, Int32.zero_add] at h
    exact h
  · intro e
    rw [e] at h
    have h2 : ledF s x t + x - x = x - x := by rw [h]
    rw [Int32.add_sub_cancel, Int32.sub_self] at h2
    exact h2
def qSize (w : WT) (s : Nat → Nat) (c m n : Nat) (x : Int32) : Int32 := if x = nI 12 then nI n else if nI 0 ≤ x ∧ x ≤ nI 11 then rSize w s c m n x else -1
def nSize (n : Nat) (x : Int32) : Int32 := if x = nI 12 then nI n else if nI 0 ≤ x ∧ x ≤ nI 11 then nI 0 else -1
theorem size_ne {x : Int32} (h12 : ¬ x = nI 12) (q : ¬ (nI 0 ≤ x ∧ x ≤ nI 11)) (k : Nat) (hk : k ≤ 12) : ¬ x = nI k := fun e => by
  subst e
  by_cases z : k = 12
  · exact h12 (by rw [z])
  · exact q ⟨(nI_leI (by decide) (by omega)).mpr (Nat.zero_le _), (nI_leI (by omega) (by decide)).mpr (by omega)⟩
theorem qSize_r (w : WT) (s : Nat → Nat) (c m n : Nat) (x : Int32) : qSize w s c m n x = rSize w s c m n x := by
  unfold qSize
  by_cases h12 : x = nI 12
  · rw [if_pos h12, h12]; rfl
  · rw [if_neg h12]
    by_cases q : nI 0 ≤ x ∧ x ≤ nI 11
    · rw [if_pos q]
    · rw [if_neg q]
      have hne := size_ne h12 q
      unfold rSize
      rw [if_neg (hne 0 (by decide)), if_neg (hne 1 (by decide)), if_neg (hne 2 (by decide)), if_neg (hne 3 (by decide)), if_neg (hne 4 (by decide)), if_neg (hne 5 (by decide)), if_neg (hne 6 (by decide)), if_neg (hne 7 (by decide)), if_neg (hne 8 (by decide)), if_neg (hne 9 (by decide)), if_neg (hne 10 (by decide)), if_neg (hne 11 (by decide)), if_neg (hne 12 (by decide))]
theorem nI_subN {a b : Nat} (h : b ≤ a) : nI a - nI b = nI (a - b) := by
  rw [show a = (a - b) + b by omega, ← nI_add, Int32.add_sub_cancel, Nat.add_sub_cancel]
set_option maxRecDepth 4000 in
theorem yc_X13_lays {K : Option Value → AH → Prop} {A : AH} {r : Value} {w : WT} {s : Nat → Nat} {n : Nat} (hC : MC w s A) (hn : n ≤ 60) (h : ∀ A', RY (s 1) (e1W w s) (e2W w s) (esW w s n) A' → QM A A' → (∀ k, k ≠ 25 → A'.1 100 k = A.1 100 k) → K none A') : Ct yX13_lays mX13_lays 3 dM (GG (.ref 111) r) [.ref 100, .int (nI n)] A K := by
  refine Ct.of [some (.ref 100), some (.int (nI n))] rfl rfl rfl (Nat.le_of_ble_eq_true rfl) ?_
  have hr := hC.rooms
  refine w_aload_n 1 dX13_lays_0 rfl rfl ?_
  refine w_inv0 4 dX13_lays_1 rfl mlX13_376 rfl rfl (d' := 0) (by decide) (Nat.le_of_ble_eq_true rfl) (c_X13_works (fun A1 hx1 hO1 => ?_))
  have hQ1 : QM A A1 := ⟨hO1.mono (by decide), fun k _ => by rw [(hO1 100 (by decide)).1]⟩
  have hX1 : XY w s A1 := ⟨hC.2.1.eq hC.2.2.2.1 (fun k hk => by rw [hx1]; exact if_pos hk), hC.2.2.2.1.y⟩
  refine w_aload_n 5 dX13_lays_4 rfl rfl ?_
  refine w_iload_n 6 dX13_lays_5 rfl rfl ?_
  refine w_inv1 9 dX13_lays_6 rfl mlX13_379 rfl rfl (d' := 2) (by decide) (Nat.le_of_ble_eq_true rfl) (yc_X13_laysWorked (hC.1.q hQ1) hX1 ⟨hr.2.2.1, hr.2.2.2.2.2.1⟩ hn (fun A2 hY2 hX2 hQ2 hx2 => ?_))
  refine wr_v dX13_lays_9 rfl ?_
  exact h A2 hY2 (hQ1.tr hQ2) (fun k hk => by rw [hx2.2 k hk, (hO1 100 (by decide)).1])

set_option maxRecDepth 4000 in
theorem c_X13_led {K : Option Value → AH → Prop} {A : AH} {r : Value} {w : WT} {s : Nat → Nat} {x : Int32} (hC : MC w s A) (h : ∀ t A', fst1 (ledAt s x) (s 1) = some t → QM A A' → A'.1 100 1 = A.1 100 1 → A'.1 100 2 = A.1 100 2 → A'.1 100 0 = nI 0 → K (some (.int (nI t))) A') (hn : fst1 (ledAt s x) (s 1) = none → ∀ A', QM A A' → A'.1 100 1 = A.1 100 1 → A'.1 100 2 = A.1 100 2 → A'.1 100 0 = nI 1 → K (some (.int (nI 0))) A') : Ct yX13_led mX13_led 4 dM (GG (.ref 111) r) [.ref 100, .int x] A K := by
  refine Ct.of [some (.ref 100), some (.int x), none, none] rfl rfl rfl (Nat.le_of_ble_eq_true rfl) ?_
  have hs8 := hC.2.2.2.1.2.1
  have lp21 : ∀ (nf : Nat) (i : Nat) (A3 : AH), i ≤ s 1 → fst1 (ledAt s x) i = none → RY (s 1) (e1W w s) (e2W w s) (esW w s 0) A3 → QM A A3 → A3.1 100 1 = A.1 100 1 → A3.1 100 2 = A.1 100 2 → A3.1 100 0 = nI 0 → s 1 - i < nf → WP mX13_led 4 dM (GG (.ref 111) r) 21 [some (.ref 100), some (.int x), some (.int (nI (cntTo (cnB s) i))), some (.int (nI i))] [] A3 K := by
    intro nf
    induction nf with
    | zero => intros; omega
    | succ nf ih =>
      intro i A3 hi hf hY hQ h1 h2 h0 hms
      have hC3 := hC.q hQ
      refine w_aload_n 22 dX13_led_21 rfl rfl ?_
      refine w_getr 25 dX13_led_22 rfl faX13_343 rfl rfl rfl (r := .ref 111) rfl ?_
      refine w_nR 28 dX13_led_25 rfl ?_
      refine w_iload_n 29 dX13_led_28 rfl rfl ?_
      refine w_aload_n 30 dX13_led_29 rfl rfl ?_
      refine w_getr 33 dX13_led_30 rfl faX13_17 rfl rfl rfl (r := .ref 102) rfl ?_
      refine w_bipush 35 dX13_led_33 rfl (v := nI 24) rfl ?_
      refine w_ialdv 36 dX13_led_35 rfl rfl rfl (by decide) (by omega) hC3.2.1.1 ?_
      refine w_icgeN 67 39 dX13_led_36 rfl rfl (by omega) (by omega) (fun c36 => ?_) (fun c36 => ?_)
      · skip
        refine w_aload_n 68 dX13_led_67 rfl rfl ?_
        refine w_iconst 69 dX13_led_68 rfl (v := nI 1) rfl ?_
        refine w_puti 72 dX13_led_69 rfl faX13_46 rfl rfl rfl rfl ?_
        refine w_iconst 73 dX13_led_72 rfl (v := nI 0) rfl ?_
        refine wr_i dX13_led_73 rfl ?_
        have e : i = s 1 := by omega
        subst e
        exact hn hf _ (hQ.f (by decide) _) (by dsimp only; rw [upd2_off (by decide)]; exact h1) (by dsimp only; rw [upd2_off (by decide)]; exact h2) (by dsimp only; rw [upd2_at])
      · skip
        refine w_aload_n 40 dX13_led_39 rfl rfl ?_
        refine w_getr 43 dX13_led_40 rfl faX13_36 rfl rfl rfl (r := .ref 108) rfl ?_
        refine w_iload_n 44 dX13_led_43 rfl rfl ?_
        refine w_ialdv 45 dX13_led_44 rfl rfl rfl (by decide) (by omega) (v := nI (stg s i 0)) (by rw [(hY.2.2 i c36).2.2.1]; unfold esW; rw [if_pos (by omega), if_pos c36]) ?_
        refine w_ifleN 51 48 dX13_led_45 rfl rfl (by have := stg_le hC.2.2.2.1 i 0; omega) (fun c45 => ?_) (fun c45 => ?_)
        · skip
          refine w_iload_n 52 dX13_led_51 rfl rfl ?_
          refine w_iload_n 53 dX13_led_52 rfl rfl ?_
          refine w_icne 58 56 dX13_led_53 rfl rfl (fun c53 => ?_) (fun c53 => ?_)
          · skip
            refine w_inc2 61 dX13_led_58 rfl (by decide) rfl (v := nI (_ + 1)) (nI_1 _) ?_
            refine w_inc3 64 dX13_led_61 rfl (by decide) rfl (v := nI (_ + 1)) (nI_1 _) ?_
            refine w_goto 21 dX13_led_64 rfl ?_
            have e1 : ledAt s x i = false := by unfold ledAt; rw [decide_eq_false (p := ledF s x i = 0) (fun z => c53 ((ledF_iff s x i).mp z)), Bool.and_false]
            refine wp_eq ?_ rfl rfl (ih (i + 1) A3 (by omega) (by simp [fst1, hf, e1]) hY hQ h1 h2 h0 (by omega))
            simp [cntTo, cnB, show stg s i 0 = 0 by omega]
          · skip
            refine w_iload_n 57 dX13_led_56 rfl rfl ?_
            refine wr_i dX13_led_57 rfl ?_
            have e1 : ledAt s x i = true := by unfold ledAt; rw [decide_eq_true (show stg s i 0 = 0 by omega), decide_eq_true ((ledF_iff s x i).mpr c53)]; rfl
            exact h i A3 (fst1_some hf e1 c36) hQ h1 h2 h0
        · skip
          refine w_goto 61 dX13_led_48 rfl ?_
          refine w_inc3 64 dX13_led_61 rfl (by decide) rfl (v := nI (_ + 1)) (nI_1 _) ?_
          refine w_goto 21 dX13_led_64 rfl ?_
          have e1 : ledAt s x i = false := by simp [ledAt, show ¬ stg s i 0 = 0 by omega]
          refine wp_eq ?_ rfl rfl (ih (i + 1) A3 (by omega) (by simp [fst1, hf, e1]) hY hQ h1 h2 h0 (by omega))
          simp [cntTo, cnB, show ¬ stg s i 0 = 0 by omega]
  refine w_aload_n 1 dX13_led_0 rfl rfl ?_
  refine w_iconst 2 dX13_led_1 rfl (v := nI 0) rfl ?_
  refine w_puti 5 dX13_led_2 rfl faX13_46 rfl rfl rfl rfl ?_
  have hQ1 : QM A (upd2 A.1 100 0 (nI 0), A.2) := QM.rf.f (by decide) _
  have hC1 := hC.q hQ1
  refine w_iconst 6 dX13_led_5 rfl (v := nI 0) rfl ?_
  refine w_ist2 7 dX13_led_6 rfl (by decide) rfl ?_
  refine w_aload_n 8 dX13_led_7 rfl rfl ?_
  refine w_getr 11 dX13_led_8 rfl faX13_343 rfl rfl rfl (r := .ref 111) rfl ?_
  refine w_nR 14 dX13_led_11 rfl ?_
  refine w_aload_n 15 dX13_led_14 rfl rfl ?_
  refine w_iconst 16 dX13_led_15 rfl (v := nI 0) rfl ?_
  refine w_inv1 19 dX13_led_16 rfl mlX13_398 rfl rfl (d' := 3) (by decide) (Nat.le_of_ble_eq_true rfl) (yc_X13_lays hC1 (by decide) (fun A3 hY hQ3 hk3 => ?_))
  refine w_iconst 20 dX13_led_19 rfl (v := nI 0) rfl ?_
  refine w_ist3 21 dX13_led_20 rfl (by decide) rfl ?_
  exact lp21 _ 0 A3 (Nat.zero_le _) rfl hY (hQ1.tr hQ3) (by rw [hk3 1 (by decide)]; dsimp only; rw [upd2_off (by decide)]) (by rw [hk3 2 (by decide)]; dsimp only; rw [upd2_off (by decide)]) (by rw [hk3 0 (by decide)]; dsimp only; rw [upd2_at]) (Nat.lt_succ_self _)

set_option maxRecDepth 4000 in
theorem c_X13_size {K : Option Value → AH → Prop} {A : AH} {r : Value} {w : WT} {s : Nat → Nat} {H I : Nat → Nat → Nat} {c m : Nat} {n : Nat} {x : Int32} (hC : MC w s A) (hH : MH w s H I c m A) (hn : A.1 100 6 = nI n) (h : K (some (.int (qSize w s c m n x))) (upd2 A.1 100 0 (nI 0), A.2)) : Ct yX13_size mX13_size 1 dM (GG (.ref 111) r) [.ref 100, .int x] A K := by
  refine Ct.of [some (.ref 100), some (.int x)] rfl rfl rfl (Nat.le_of_ble_eq_true rfl) ?_
  refine w_aload_n 1 dX13_size_0 rfl rfl ?_
  refine w_iconst 2 dX13_size_1 rfl (v := nI 0) rfl ?_
  refine w_puti 5 dX13_size_2 rfl faX13_46 rfl rfl rfl rfl ?_
  have hQ1 : QM A (upd2 A.1 100 0 (nI 0), A.2) := QM.rf.f (by decide) _
  have hC1 := hC.q hQ1
  have hH1 := hH.q hQ1
  refine w_iload_n 6 dX13_size_5 rfl rfl ?_
  refine w_bipush 8 dX13_size_6 rfl (v := nI 12) rfl ?_
  refine w_icne 16 11 dX13_size_8 rfl rfl (fun c8 => ?_) (fun c8 => ?_)
  · skip
    refine w_iload_n 17 dX13_size_16 rfl rfl ?_
    refine w_iconst 18 dX13_size_17 rfl (v := nI 0) rfl ?_
    refine w_bipush 20 dX13_size_18 rfl (v := nI 11) rfl ?_
    refine w_invs3 23 dX13_size_20 rfl slX13_121 (d' := 0) (by decide) (Nat.le_of_ble_eq_true rfl) (c_X13_in ?_)
    refine w_ifneB 28 26 dX13_size_23 rfl rfl (fun c23 => ?_) (fun c23 => ?_)
    · skip
      refine w_aload_n 29 dX13_size_28 rfl rfl ?_
      refine w_getr 32 dX13_size_29 rfl faX13_343 rfl rfl rfl (r := .ref 111) rfl ?_
      refine w_nnR 37 dX13_size_32 rfl ?_
      have hq := of_decide_eq_true c23
      have hqr : qSize w s c m n x = rSize w s c m n x := by unfold qSize; rw [if_neg c8, if_pos hq]
      rw [hqr] at h
      obtain ⟨k, hk, rfl⟩ := nI_of (Int32.not_lt.mpr (show (0 : Int32) ≤ x from hq.1))
      have hk11 : k ≤ 11 := (nI_leI hk (by decide)).mp hq.2
      clear hqr hq c8 c23
      refine w_iload_n 38 dX13_size_37 rfl rfl ?_
      rcases k with _ | _ | _ | _ | _ | _ | _ | _ | _ | _ | _ | _ | k
      rotate_left 12
      · omega
      · skip
        skip
        refine w_tabIn 96 dX13_size_38 (by decide) (by decide) rfl rfl ?_
        refine w_aload_n 97 dX13_size_96 rfl rfl ?_
        refine w_getr 100 dX13_size_97 rfl faX13_343 rfl rfl rfl (r := .ref 111) rfl ?_
        refine w_getiv 103 dX13_size_100 rfl faX13_153 rfl rfl rfl (slipsM hC1) ?_
        refine wr_i dX13_size_103 rfl ?_
        exact h
      · skip
        skip
        refine w_tabIn 104 dX13_size_38 (by decide) (by decide) rfl rfl ?_
        refine w_aload_n 105 dX13_size_104 rfl rfl ?_
        refine w_getr 108 dX13_size_105 rfl faX13_343 rfl rfl rfl (r := .ref 111) rfl ?_
        refine w_getiv 111 dX13_size_108 rfl faX13_228 rfl rfl rfl hC1.1.1.2.1 ?_
        refine wr_i dX13_size_111 rfl ?_
        exact h
      · skip
        skip
        refine w_tabIn 112 dX13_size_38 (by decide) (by decide) rfl rfl ?_
        refine w_aload_n 113 dX13_size_112 rfl rfl ?_
        refine w_getr 116 dX13_size_113 rfl faX13_343 rfl rfl rfl (r := .ref 111) rfl ?_
        refine w_getiv 119 dX13_size_116 rfl faX13_194 rfl rfl rfl (hC1.1.2.1 1 (by decide) (by decide)) ?_
        refine wr_i dX13_size_119 rfl ?_
        exact h
      · skip
        skip
        refine w_tabIn 120 dX13_size_38 (by decide) (by decide) rfl rfl ?_
        refine w_aload_n 121 dX13_size_120 rfl rfl ?_
        refine w_getr 124 dX13_size_121 rfl faX13_17 rfl rfl rfl (r := .ref 102) rfl ?_
        refine w_bipush 126 dX13_size_124 rfl (v := nI 24) rfl ?_
        refine w_ialdv 127 dX13_size_126 rfl rfl rfl (by decide) (by omega) hC1.2.1.1 ?_
        refine wr_i dX13_size_127 rfl ?_
        exact h
      · skip
        skip
        refine w_tabIn 128 dX13_size_38 (by decide) (by decide) rfl rfl ?_
        refine w_aload_n 129 dX13_size_128 rfl rfl ?_
        refine w_getr 132 dX13_size_129 rfl faX13_343 rfl rfl rfl (r := .ref 111) rfl ?_
        refine w_getiv 135 dX13_size_132 rfl faX13_271 rfl rfl rfl (hC1.1.2.1 3 (by decide) (by decide)) ?_
        refine wr_i dX13_size_135 rfl ?_
        exact h
      · skip
        skip
        refine w_tabIn 136 dX13_size_38 (by decide) (by decide) rfl rfl ?_
        refine w_aload_n 137 dX13_size_136 rfl rfl ?_
        refine w_getr 140 dX13_size_137 rfl faX13_343 rfl rfl rfl (r := .ref 111) rfl ?_
        refine w_getiv 143 dX13_size_140 rfl faX13_287 rfl rfl rfl (hC1.1.2.1 4 (by decide) (by decide)) ?_
        refine wr_i dX13_size_143 rfl ?_
        exact h
      · skip
        skip
        refine w_tabIn 144 dX13_size_38 (by decide) (by decide) rfl rfl ?_
        refine w_aload_n 145 dX13_size_144 rfl rfl ?_
        refine w_getr 148 dX13_size_145 rfl faX13_343 rfl rfl rfl (r := .ref 111) rfl ?_
        refine w_getiv 151 dX13_size_148 rfl faX13_298 rfl rfl rfl (hC1.1.2.1 5 (by decide) (by decide)) ?_
        refine wr_i dX13_size_151 rfl ?_
        exact h
      · skip
        skip
        refine w_tabIn 152 dX13_size_38 (by decide) (by decide) rfl rfl ?_
        refine w_aload_n 153 dX13_size_152 rfl rfl ?_
        refine w_getr 156 dX13_size_153 rfl faX13_343 rfl rfl rfl (r := .ref 111) rfl ?_
        refine w_getiv 159 dX13_size_156 rfl faX13_313 rfl rfl rfl (hC1.1.2.1 6 (by decide) (by decide)) ?_
        refine wr_i dX13_size_159 rfl ?_
        exact h
      · skip
        skip
        refine w_tabIn 160 dX13_size_38 (by decide) (by decide) rfl rfl ?_
        refine w_aload_n 161 dX13_size_160 rfl rfl ?_
        refine w_getr 164 dX13_size_161 rfl faX13_343 rfl rfl rfl (r := .ref 111) rfl ?_
        refine w_getiv 167 dX13_size_164 rfl faX13_321 rfl rfl rfl (hC1.1.2.1 7 (by decide) (by decide)) ?_
        refine wr_i dX13_size_167 rfl ?_
        exact h
      · skip
        skip
        refine w_tabIn 168 dX13_size_38 (by decide) (by decide) rfl rfl ?_
        refine w_aload_n 169 dX13_size_168 rfl rfl ?_
        refine w_getr 172 dX13_size_169 rfl faX13_17 rfl rfl rfl (r := .ref 102) rfl ?_
        refine w_bipush 174 dX13_size_172 rfl (v := nI 25) rfl ?_
        refine w_ialdv 175 dX13_size_174 rfl rfl rfl (by decide) (by omega) hC1.2.1.2.1 ?_
        refine wr_i dX13_size_175 rfl ?_
        exact h
      · skip
        skip
        refine w_tabIn 176 dX13_size_38 (by decide) (by decide) rfl rfl ?_
        refine w_aload_n 177 dX13_size_176 rfl rfl ?_
        refine w_getiv 180 dX13_size_177 rfl faX13_345 rfl rfl rfl hH1.2.2.2.1 ?_
        refine wr_i dX13_size_180 rfl ?_
        exact h
      · skip
        skip
        refine w_tabOut 181 dX13_size_38 (by decide) rfl ?_
        refine w_aload_n 182 dX13_size_181 rfl rfl ?_
        refine w_getiv 185 dX13_size_182 rfl faX13_348 rfl rfl rfl hH1.2.2.2.2.1 ?_
        refine wr_i dX13_size_185 rfl ?_
        exact h
    · skip
      refine w_iconst 27 dX13_size_26 rfl (v := (-1)) rfl ?_
      refine wr_i dX13_size_27 rfl ?_
      exact kq h (by unfold qSize; rw [if_neg c8, if_neg (of_decide_eq_false c23)])
  · skip
    refine w_aload_n 12 dX13_size_11 rfl rfl ?_
    refine w_getiv 15 dX13_size_12 rfl faX13_336 rfl rfl rfl (v := nI n) (by dsimp only; rw [upd2_off (by decide)]; exact hn) ?_
    refine wr_i dX13_size_15 rfl ?_
    exact kq h (by unfold qSize; rw [if_pos c8])

set_option maxRecDepth 4000 in
theorem c_X13_trouble {K : Option Value → AH → Prop} {A : AH} {r : Value} {v : Int32} (hv : A.1 100 1 = v) (h : K (some (.int v)) (upd2 A.1 100 0 (nI 0), A.2)) : Ct yX13_trouble mX13_trouble 0 dM (GG (.ref 111) r) [.ref 100] A K := by
  refine Ct.of [some (.ref 100)] rfl rfl rfl (Nat.le_of_ble_eq_true rfl) ?_
  refine w_aload_n 1 dX13_trouble_0 rfl rfl ?_
  refine w_iconst 2 dX13_trouble_1 rfl (v := nI 0) rfl ?_
  refine w_puti 5 dX13_trouble_2 rfl faX13_46 rfl rfl rfl rfl ?_
  refine w_aload_n 6 dX13_trouble_5 rfl rfl ?_
  refine w_getiv 9 dX13_trouble_6 rfl faX13_49 rfl rfl rfl (v := v) (by dsimp only; rw [upd2_off (by decide)]; exact hv) ?_
  refine wr_i dX13_trouble_9 rfl ?_
  exact h

set_option maxRecDepth 4000 in
theorem c_X13_fault {K : Option Value → AH → Prop} {A : AH} {r : Value} {v : Int32} (hv : A.1 100 12 = v) (h : K (some (.int v)) (upd2 A.1 100 0 (nI 0), A.2)) : Ct yX13_fault mX13_fault 0 dM (GG (.ref 111) r) [.ref 100] A K := by
  refine Ct.of [some (.ref 100)] rfl rfl rfl (Nat.le_of_ble_eq_true rfl) ?_
  refine w_aload_n 1 dX13_fault_0 rfl rfl ?_
  refine w_iconst 2 dX13_fault_1 rfl (v := nI 0) rfl ?_
  refine w_puti 5 dX13_fault_2 rfl faX13_46 rfl rfl rfl rfl ?_
  refine w_aload_n 6 dX13_fault_5 rfl rfl ?_
  refine w_getiv 9 dX13_fault_6 rfl faX13_104 rfl rfl rfl (v := v) (by dsimp only; rw [upd2_off (by decide)]; exact hv) ?_
  refine wr_i dX13_fault_9 rfl ?_
  exact h

set_option maxRecDepth 4000 in
theorem c_X13_where {K : Option Value → AH → Prop} {A : AH} {r : Value} {v : Int32} (hv : A.1 100 2 = v) (h : K (some (.int v)) (upd2 A.1 100 0 (nI 0), A.2)) : Ct yX13_where mX13_where 0 dM (GG (.ref 111) r) [.ref 100] A K := by
  refine Ct.of [some (.ref 100)] rfl rfl rfl (Nat.le_of_ble_eq_true rfl) ?_
  refine w_aload_n 1 dX13_where_0 rfl rfl ?_
  refine w_iconst 2 dX13_where_1 rfl (v := nI 0) rfl ?_
  refine w_puti 5 dX13_where_2 rfl faX13_46 rfl rfl rfl rfl ?_
  refine w_aload_n 6 dX13_where_5 rfl rfl ?_
  refine w_getiv 9 dX13_where_6 rfl faX13_9 rfl rfl rfl (v := v) (by dsimp only; rw [upd2_off (by decide)]; exact hv) ?_
  refine wr_i dX13_where_9 rfl ?_
  exact h

set_option maxRecDepth 4000 in
theorem c_X13_thrown {K : Option Value → AH → Prop} {A : AH} {r : Value} {v : Int32} (hv : A.1 100 0 = v) (h : K (some (.int v)) A) : Ct yX13_thrown mX13_thrown 0 dM (GG (.ref 111) r) [.ref 100] A K := by
  refine Ct.of [some (.ref 100)] rfl rfl rfl (Nat.le_of_ble_eq_true rfl) ?_
  refine w_aload_n 1 dX13_thrown_0 rfl rfl ?_
  refine w_getiv 4 dX13_thrown_1 rfl faX13_46 rfl rfl rfl hv ?_
  refine wr_i dX13_thrown_4 rfl ?_
  exact h

set_option maxRecDepth 4000 in
theorem c_X13_feed {K : Option Value → AH → Prop} {A : AH} {r : Value} {n : Nat} {tp : Nat → Int32} {a b c d e : Int32} (hT : A.1 100 6 = nI n) (h9 : n ≤ 900) (htp : ∀ i, i < n → A.1 101 i = tp i) (h0 : ¬ n + 20 ≤ 900 → K (some (.int (-1))) (upd2 A.1 100 0 (nI 0), A.2)) (h : n + 20 ≤ 900 → ∀ A', A'.1 100 6 = nI (n + 20) → (∀ j, j < n + 20 → A'.1 101 j = fdT n tp a b c d e j) → OffL [100, 101] A A' → (∀ k, k ≠ 0 → k ≠ 6 → A'.1 100 k = A.1 100 k) → K (some (.int (nI (n + 20)))) A') : Ct yX13_feed mX13_feed 0 dM (GG (.ref 111) r) [.ref 100, .int a, .int b, .int c, .int d, .int e] A K := by
  refine Ct.of [some (.ref 100), some (.int a), some (.int b), some (.int c), some (.int d), some (.int e), none, none] rfl rfl rfl (Nat.le_of_ble_eq_true rfl) ?_
  have lp23 : ∀ (nf : Nat) (i : Nat) (A' : AH) (y : Option Value), n + 20 ≤ 900 → i ≤ 20 → A'.1 100 6 = nI (n + i) → (∀ j, j < n + i → A'.1 101 j = fdT n tp a b c d e j) → OffL [100, 101] A A' → (∀ k, k ≠ 0 → k ≠ 6 → A'.1 100 k = A.1 100 k) → 20 - i < nf → WP mX13_feed 0 dM (GG (.ref 111) r) 23 [some (.ref 100), some (.int a), some (.int b), some (.int c), some (.int d), some (.int e), some (.int (nI i)), y] [] A' K := by
    intro nf
    induction nf with
    | zero => intros; omega
    | succ nf ih =>
      intro i A' y hle hi h6 htp2 hO hk hms
      refine w_iload 25 dX13_feed_23 rfl rfl ?_
      refine w_bipush 27 dX13_feed_25 rfl (v := nI 20) rfl ?_
      refine w_icgeN 117 30 dX13_feed_27 rfl rfl (by omega) (by omega) (fun c27 => ?_) (fun c27 => ?_)
      · skip
        refine w_aload_n 118 dX13_feed_117 rfl rfl ?_
        have e9 : i = 20 := by omega
        subst e9
        refine w_getiv 121 dX13_feed_118 rfl faX13_336 rfl rfl rfl h6 ?_
        refine wr_i dX13_feed_121 rfl ?_
        exact h hle A' h6 htp2 hO hk
      · skip
        refine w_iload 32 dX13_feed_30 rfl rfl ?_
        refine w_iconst 33 dX13_feed_32 rfl (v := nI 4) rfl ?_
        refine w_icgeN 40 36 dX13_feed_33 rfl rfl (by omega) (by omega) (fun c33 => ?_) (fun c33 => ?_)
        · skip
          refine w_iload 42 dX13_feed_40 rfl rfl ?_
          refine w_bipush 44 dX13_feed_42 rfl (v := nI 8) rfl ?_
          refine w_icgeN 51 47 dX13_feed_44 rfl rfl (by omega) (by omega) (fun c44 => ?_) (fun c44 => ?_)
          · skip
            refine w_iload 53 dX13_feed_51 rfl rfl ?_
            refine w_bipush 55 dX13_feed_53 rfl (v := nI 12) rfl ?_
            refine w_icgeN 62 58 dX13_feed_55 rfl rfl (by omega) (by omega) (fun c55 => ?_) (fun c55 => ?_)
            · skip
              refine w_iload 64 dX13_feed_62 rfl rfl ?_
              refine w_bipush 66 dX13_feed_64 rfl (v := nI 16) rfl ?_
              refine w_icgeN 74 69 dX13_feed_66 rfl rfl (by omega) (by omega) (fun c66 => ?_) (fun c66 => ?_)
              · skip
                refine w_iload 76 dX13_feed_74 rfl rfl ?_
                refine w_ist7 78 dX13_feed_76 rfl (by decide) rfl ?_
                refine w_aload_n 79 dX13_feed_78 rfl rfl ?_
                refine w_getr 82 dX13_feed_79 rfl faX13_13 rfl rfl rfl (r := .ref 101) rfl ?_
                refine w_aload_n 83 dX13_feed_82 rfl rfl ?_
                refine w_getiv 86 dX13_feed_83 rfl faX13_336 rfl rfl rfl h6 ?_
                refine w_iload 88 dX13_feed_86 rfl rfl ?_
                refine w_bipush 90 dX13_feed_88 rfl (v := nI 24) rfl ?_
                refine w_bipush 92 dX13_feed_90 rfl (v := nI 8) rfl ?_
                refine w_iload 94 dX13_feed_92 rfl rfl ?_
                refine w_iconst 95 dX13_feed_94 rfl (v := nI 4) rfl ?_
                refine w_iremN 96 dX13_feed_95 rfl (by omega) (by omega) (by omega) ?_
                refine w_imulN 97 dX13_feed_96 rfl ?_
                refine w_isub 98 dX13_feed_97 rfl ?_
                refine w_ishr 99 dX13_feed_98 rfl ?_
                refine w_i2b 100 dX13_feed_99 rfl ?_
                refine w_bastN 101 dX13_feed_100 rfl rfl rfl (by decide) (by omega) ?_
                refine w_aload_n 102 dX13_feed_101 rfl rfl ?_
                refine w_dup_r 103 dX13_feed_102 rfl ?_
                refine w_getiv 106 dX13_feed_103 rfl faX13_336 rfl rfl rfl (v := nI (n + i)) (by dsimp only; rw [upd2_ne (by decide)]; exact h6) ?_
                refine w_iconst 107 dX13_feed_106 rfl (v := nI 1) rfl ?_
                refine w_iaddN 108 dX13_feed_107 rfl ?_
                refine w_puti 111 dX13_feed_108 rfl faX13_336 rfl rfl rfl rfl ?_
                refine w_inc6 114 dX13_feed_111 rfl (by decide) rfl (v := nI (_ + 1)) (nI_1 _) ?_
                refine w_goto 23 dX13_feed_114 rfl ?_
                refine ih (i + 1) _ _ hle (by omega) (by dsimp only; rw [upd2_at, Nat.add_assoc]) (fun j hj => ?_) ((hO.upd (by decide) _ _).upd (by decide) _ _) (fun k h0 h6 => by dsimp only; rw [upd2_off h6, upd2_ne (by decide)]; exact hk k h0 h6) (by omega)
                dsimp only
                rw [upd2_ne (by decide)]
                by_cases q : j = n + i
                · subst q
                  rw [upd2_at, fdT, if_neg (by omega), show n + i - n = i by omega]
                  have hfa : fdA a b c d e i = e := by simp [fdA, show ¬ i < 4 by omega, show ¬ i < 8 by omega, show ¬ i < 12 by omega, show ¬ i < 16 by omega]
                  rw [hfa]
                  have h4 := Nat.mod_lt i (show 0 < 4 by decide)
                  have hsub : nI 24 - nI (8 * (i % 4)) = nI (24 - 8 * (i % 4)) := nI_subN (by omega)
                  rw [hsub]
                  rfl
                · rw [upd2_off q]
                  exact htp2 j (by omega)
              · skip
                refine w_iload 71 dX13_feed_69 rfl rfl ?_
                refine w_goto 76 dX13_feed_71 rfl ?_
                refine w_ist7 78 dX13_feed_76 rfl (by decide) rfl ?_
                refine w_aload_n 79 dX13_feed_78 rfl rfl ?_
                refine w_getr 82 dX13_feed_79 rfl faX13_13 rfl rfl rfl (r := .ref 101) rfl ?_
                refine w_aload_n 83 dX13_feed_82 rfl rfl ?_
                refine w_getiv 86 dX13_feed_83 rfl faX13_336 rfl rfl rfl h6 ?_
                refine w_iload 88 dX13_feed_86 rfl rfl ?_
                refine w_bipush 90 dX13_feed_88 rfl (v := nI 24) rfl ?_
                refine w_bipush 92 dX13_feed_90 rfl (v := nI 8) rfl ?_
                refine w_iload 94 dX13_feed_92 rfl rfl ?_
                refine w_iconst 95 dX13_feed_94 rfl (v := nI 4) rfl ?_
                refine w_iremN 96 dX13_feed_95 rfl (by omega) (by omega) (by omega) ?_
                refine w_imulN 97 dX13_feed_96 rfl ?_
                refine w_isub 98 dX13_feed_97 rfl ?_
                refine w_ishr 99 dX13_feed_98 rfl ?_
                refine w_i2b 100 dX13_feed_99 rfl ?_
                refine w_bastN 101 dX13_feed_100 rfl rfl rfl (by decide) (by omega) ?_
                refine w_aload_n 102 dX13_feed_101 rfl rfl ?_
                refine w_dup_r 103 dX13_feed_102 rfl ?_
                refine w_getiv 106 dX13_feed_103 rfl faX13_336 rfl rfl rfl (v := nI (n + i)) (by dsimp only; rw [upd2_ne (by decide)]; exact h6) ?_
                refine w_iconst 107 dX13_feed_106 rfl (v := nI 1) rfl ?_
                refine w_iaddN 108 dX13_feed_107 rfl ?_
                refine w_puti 111 dX13_feed_108 rfl faX13_336 rfl rfl rfl rfl ?_
                refine w_inc6 114 dX13_feed_111 rfl (by decide) rfl (v := nI (_ + 1)) (nI_1 _) ?_
                refine w_goto 23 dX13_feed_114 rfl ?_
                refine ih (i + 1) _ _ hle (by omega) (by dsimp only; rw [upd2_at, Nat.add_assoc]) (fun j hj => ?_) ((hO.upd (by decide) _ _).upd (by decide) _ _) (fun k h0 h6 => by dsimp only; rw [upd2_off h6, upd2_ne (by decide)]; exact hk k h0 h6) (by omega)
                dsimp only
                rw [upd2_ne (by decide)]
                by_cases q : j = n + i
                · subst q
                  rw [upd2_at, fdT, if_neg (by omega), show n + i - n = i by omega]
                  have hfa : fdA a b c d e i = d := by simp [fdA, show ¬ i < 4 by omega, show ¬ i < 8 by omega, show ¬ i < 12 by omega, show i < 16 by omega]
                  rw [hfa]
                  have h4 := Nat.mod_lt i (show 0 < 4 by decide)
                  have hsub : nI 24 - nI (8 * (i % 4)) = nI (24 - 8 * (i % 4)) := nI_subN (by omega)
                  rw [hsub]
                  rfl
                · rw [upd2_off q]
                  exact htp2 j (by omega)
            · skip
              refine w_iload_n 59 dX13_feed_58 rfl rfl ?_
              refine w_goto 76 dX13_feed_59 rfl ?_
              refine w_ist7 78 dX13_feed_76 rfl (by decide) rfl ?_
              refine w_aload_n 79 dX13_feed_78 rfl rfl ?_
              refine w_getr 82 dX13_feed_79 rfl faX13_13 rfl rfl rfl (r := .ref 101) rfl ?_
              refine w_aload_n 83 dX13_feed_82 rfl rfl ?_
              refine w_getiv 86 dX13_feed_83 rfl faX13_336 rfl rfl rfl h6 ?_
              refine w_iload 88 dX13_feed_86 rfl rfl ?_
              refine w_bipush 90 dX13_feed_88 rfl (v := nI 24) rfl ?_
              refine w_bipush 92 dX13_feed_90 rfl (v := nI 8) rfl ?_
              refine w_iload 94 dX13_feed_92 rfl rfl ?_
              refine w_iconst 95 dX13_feed_94 rfl (v := nI 4) rfl ?_
              refine w_iremN 96 dX13_feed_95 rfl (by omega) (by omega) (by omega) ?_
              refine w_imulN 97 dX13_feed_96 rfl ?_
              refine w_isub 98 dX13_feed_97 rfl ?_
              refine w_ishr 99 dX13_feed_98 rfl ?_
              refine w_i2b 100 dX13_feed_99 rfl ?_
              refine w_bastN 101 dX13_feed_100 rfl rfl rfl (by decide) (by omega) ?_
              refine w_aload_n 102 dX13_feed_101 rfl rfl ?_
              refine w_dup_r 103 dX13_feed_102 rfl ?_
              refine w_getiv 106 dX13_feed_103 rfl faX13_336 rfl rfl rfl (v := nI (n + i)) (by dsimp only; rw [upd2_ne (by decide)]; exact h6) ?_
              refine w_iconst 107 dX13_feed_106 rfl (v := nI 1) rfl ?_
              refine w_iaddN 108 dX13_feed_107 rfl ?_
              refine w_puti 111 dX13_feed_108 rfl faX13_336 rfl rfl rfl rfl ?_
              refine w_inc6 114 dX13_feed_111 rfl (by decide) rfl (v := nI (_ + 1)) (nI_1 _) ?_
              refine w_goto 23 dX13_feed_114 rfl ?_
              refine ih (i + 1) _ _ hle (by omega) (by dsimp only; rw [upd2_at, Nat.add_assoc]) (fun j hj => ?_) ((hO.upd (by decide) _ _).upd (by decide) _ _) (fun k h0 h6 => by dsimp only; rw [upd2_off h6, upd2_ne (by decide)]; exact hk k h0 h6) (by omega)
              dsimp only
              rw [upd2_ne (by decide)]
              by_cases q : j = n + i
              · subst q
                rw [upd2_at, fdT, if_neg (by omega), show n + i - n = i by omega]
                have hfa : fdA a b c d e i = c := by simp [fdA, show ¬ i < 4 by omega, show ¬ i < 8 by omega, show i < 12 by omega]
                rw [hfa]
                have h4 := Nat.mod_lt i (show 0 < 4 by decide)
                have hsub : nI 24 - nI (8 * (i % 4)) = nI (24 - 8 * (i % 4)) := nI_subN (by omega)
                rw [hsub]
                rfl
              · rw [upd2_off q]
                exact htp2 j (by omega)
          · skip
            refine w_iload_n 48 dX13_feed_47 rfl rfl ?_
            refine w_goto 76 dX13_feed_48 rfl ?_
            refine w_ist7 78 dX13_feed_76 rfl (by decide) rfl ?_
            refine w_aload_n 79 dX13_feed_78 rfl rfl ?_
            refine w_getr 82 dX13_feed_79 rfl faX13_13 rfl rfl rfl (r := .ref 101) rfl ?_
            refine w_aload_n 83 dX13_feed_82 rfl rfl ?_
            refine w_getiv 86 dX13_feed_83 rfl faX13_336 rfl rfl rfl h6 ?_
            refine w_iload 88 dX13_feed_86 rfl rfl ?_
            refine w_bipush 90 dX13_feed_88 rfl (v := nI 24) rfl ?_
            refine w_bipush 92 dX13_feed_90 rfl (v := nI 8) rfl ?_
            refine w_iload 94 dX13_feed_92 rfl rfl ?_
            refine w_iconst 95 dX13_feed_94 rfl (v := nI 4) rfl ?_
            refine w_iremN 96 dX13_feed_95 rfl (by omega) (by omega) (by omega) ?_
            refine w_imulN 97 dX13_feed_96 rfl ?_
            refine w_isub 98 dX13_feed_97 rfl ?_
            refine w_ishr 99 dX13_feed_98 rfl ?_
            refine w_i2b 100 dX13_feed_99 rfl ?_
            refine w_bastN 101 dX13_feed_100 rfl rfl rfl (by decide) (by omega) ?_
            refine w_aload_n 102 dX13_feed_101 rfl rfl ?_
            refine w_dup_r 103 dX13_feed_102 rfl ?_
            refine w_getiv 106 dX13_feed_103 rfl faX13_336 rfl rfl rfl (v := nI (n + i)) (by dsimp only; rw [upd2_ne (by decide)]; exact h6) ?_
            refine w_iconst 107 dX13_feed_106 rfl (v := nI 1) rfl ?_
            refine w_iaddN 108 dX13_feed_107 rfl ?_
            refine w_puti 111 dX13_feed_108 rfl faX13_336 rfl rfl rfl rfl ?_
            refine w_inc6 114 dX13_feed_111 rfl (by decide) rfl (v := nI (_ + 1)) (nI_1 _) ?_
            refine w_goto 23 dX13_feed_114 rfl ?_
            refine ih (i + 1) _ _ hle (by omega) (by dsimp only; rw [upd2_at, Nat.add_assoc]) (fun j hj => ?_) ((hO.upd (by decide) _ _).upd (by decide) _ _) (fun k h0 h6 => by dsimp only; rw [upd2_off h6, upd2_ne (by decide)]; exact hk k h0 h6) (by omega)
            dsimp only
            rw [upd2_ne (by decide)]
            by_cases q : j = n + i
            · subst q
              rw [upd2_at, fdT, if_neg (by omega), show n + i - n = i by omega]
              have hfa : fdA a b c d e i = b := by simp [fdA, show ¬ i < 4 by omega, show i < 8 by omega]
              rw [hfa]
              have h4 := Nat.mod_lt i (show 0 < 4 by decide)
              have hsub : nI 24 - nI (8 * (i % 4)) = nI (24 - 8 * (i % 4)) := nI_subN (by omega)
              rw [hsub]
              rfl
            · rw [upd2_off q]
              exact htp2 j (by omega)
        · skip
          refine w_iload_n 37 dX13_feed_36 rfl rfl ?_
          refine w_goto 76 dX13_feed_37 rfl ?_
          refine w_ist7 78 dX13_feed_76 rfl (by decide) rfl ?_
          refine w_aload_n 79 dX13_feed_78 rfl rfl ?_
          refine w_getr 82 dX13_feed_79 rfl faX13_13 rfl rfl rfl (r := .ref 101) rfl ?_
          refine w_aload_n 83 dX13_feed_82 rfl rfl ?_
          refine w_getiv 86 dX13_feed_83 rfl faX13_336 rfl rfl rfl h6 ?_
          refine w_iload 88 dX13_feed_86 rfl rfl ?_
          refine w_bipush 90 dX13_feed_88 rfl (v := nI 24) rfl ?_
          refine w_bipush 92 dX13_feed_90 rfl (v := nI 8) rfl ?_
          refine w_iload 94 dX13_feed_92 rfl rfl ?_
          refine w_iconst 95 dX13_feed_94 rfl (v := nI 4) rfl ?_
          refine w_iremN 96 dX13_feed_95 rfl (by omega) (by omega) (by omega) ?_
          refine w_imulN 97 dX13_feed_96 rfl ?_
          refine w_isub 98 dX13_feed_97 rfl ?_
          refine w_ishr 99 dX13_feed_98 rfl ?_
          refine w_i2b 100 dX13_feed_99 rfl ?_
          refine w_bastN 101 dX13_feed_100 rfl rfl rfl (by decide) (by omega) ?_
          refine w_aload_n 102 dX13_feed_101 rfl rfl ?_
          refine w_dup_r 103 dX13_feed_102 rfl ?_
          refine w_getiv 106 dX13_feed_103 rfl faX13_336 rfl rfl rfl (v := nI (n + i)) (by dsimp only; rw [upd2_ne (by decide)]; exact h6) ?_
          refine w_iconst 107 dX13_feed_106 rfl (v := nI 1) rfl ?_
          refine w_iaddN 108 dX13_feed_107 rfl ?_
          refine w_puti 111 dX13_feed_108 rfl faX13_336 rfl rfl rfl rfl ?_
          refine w_inc6 114 dX13_feed_111 rfl (by decide) rfl (v := nI (_ + 1)) (nI_1 _) ?_
          refine w_goto 23 dX13_feed_114 rfl ?_
          refine ih (i + 1) _ _ hle (by omega) (by dsimp only; rw [upd2_at, Nat.add_assoc]) (fun j hj => ?_) ((hO.upd (by decide) _ _).upd (by decide) _ _) (fun k h0 h6 => by dsimp only; rw [upd2_off h6, upd2_ne (by decide)]; exact hk k h0 h6) (by omega)
          dsimp only
          rw [upd2_ne (by decide)]
          by_cases q : j = n + i
          · subst q
            rw [upd2_at, fdT, if_neg (by omega), show n + i - n = i by omega]
            have hfa : fdA a b c d e i = a := by simp [fdA, show i < 4 by omega]
            rw [hfa]
            have h4 := Nat.mod_lt i (show 0 < 4 by decide)
            have hsub : nI 24 - nI (8 * (i % 4)) = nI (24 - 8 * (i % 4)) := nI_subN (by omega)
            rw [hsub]
            rfl
          · rw [upd2_off q]
            exact htp2 j (by omega)
  refine w_aload_n 1 dX13_feed_0 rfl rfl ?_
  refine w_iconst 2 dX13_feed_1 rfl (v := nI 0) rfl ?_
  refine w_puti 5 dX13_feed_2 rfl faX13_46 rfl rfl rfl rfl ?_
  refine w_aload_n 6 dX13_feed_5 rfl rfl ?_
  refine w_getiv 9 dX13_feed_6 rfl faX13_336 rfl rfl rfl (v := nI n) (by dsimp only; rw [upd2_off (by decide)]; exact hT) ?_
  refine w_bipush 11 dX13_feed_9 rfl (v := nI 20) rfl ?_
  refine w_iaddN 12 dX13_feed_11 rfl ?_
  refine w_sipush 15 dX13_feed_12 rfl (v := nI 900) rfl ?_
  refine w_icleN 20 18 dX13_feed_15 rfl rfl (by omega) (by omega) (fun c15 => ?_) (fun c15 => ?_)
  · skip
    have hle : n + 20 ≤ 900 := by omega
    refine w_iconst 21 dX13_feed_20 rfl (v := nI 0) rfl ?_
    refine w_ist6 23 dX13_feed_21 rfl (by decide) rfl ?_
    exact lp23 _ 0 _ none hle (Nat.zero_le _) (by dsimp only; rw [upd2_off (by decide)]; exact hT) (fun j hj => by dsimp only; rw [upd2_ne (by decide), fdT, if_pos (by omega)]; exact htp j (by omega)) (OffL.rf.upd (by decide) _ _) (fun k h0 _ => by dsimp only; rw [upd2_off h0]) (Nat.lt_succ_self _)
  · skip
    have hle : ¬ n + 20 ≤ 900 := by omega
    refine w_iconst 19 dX13_feed_18 rfl (v := (-1)) rfl ?_
    refine wr_i dX13_feed_19 rfl ?_
    exact h0 hle

set_option maxRecDepth 4000 in
theorem c_X13_troubleN {K : Option Value → AH → Prop} {A : AH} {r : Value} {v : Int32} (hv : A.1 100 1 = v) (h : K (some (.int v)) (upd2 A.1 100 0 (nI 0), A.2)) : Ct yX13_trouble mX13_trouble 0 dN (GG .null r) [.ref 100] A K := by
  refine Ct.of [some (.ref 100)] rfl rfl rfl (Nat.le_of_ble_eq_true rfl) ?_
  refine w_aload_n 1 dX13_trouble_0 rfl rfl ?_
  refine w_iconst 2 dX13_trouble_1 rfl (v := nI 0) rfl ?_
  refine w_puti 5 dX13_trouble_2 rfl faX13_46 rfl rfl rfl rfl ?_
  refine w_aload_n 6 dX13_trouble_5 rfl rfl ?_
  refine w_getiv 9 dX13_trouble_6 rfl faX13_49 rfl rfl rfl (v := v) (by dsimp only; rw [upd2_off (by decide)]; exact hv) ?_
  refine wr_i dX13_trouble_9 rfl ?_
  exact h

set_option maxRecDepth 4000 in
theorem c_X13_faultN {K : Option Value → AH → Prop} {A : AH} {r : Value} {v : Int32} (hv : A.1 100 12 = v) (h : K (some (.int v)) (upd2 A.1 100 0 (nI 0), A.2)) : Ct yX13_fault mX13_fault 0 dN (GG .null r) [.ref 100] A K := by
  refine Ct.of [some (.ref 100)] rfl rfl rfl (Nat.le_of_ble_eq_true rfl) ?_
  refine w_aload_n 1 dX13_fault_0 rfl rfl ?_
  refine w_iconst 2 dX13_fault_1 rfl (v := nI 0) rfl ?_
  refine w_puti 5 dX13_fault_2 rfl faX13_46 rfl rfl rfl rfl ?_
  refine w_aload_n 6 dX13_fault_5 rfl rfl ?_
  refine w_getiv 9 dX13_fault_6 rfl faX13_104 rfl rfl rfl (v := v) (by dsimp only; rw [upd2_off (by decide)]; exact hv) ?_
  refine wr_i dX13_fault_9 rfl ?_
  exact h

set_option maxRecDepth 4000 in
theorem c_X13_whereN {K : Option Value → AH → Prop} {A : AH} {r : Value} {v : Int32} (hv : A.1 100 2 = v) (h : K (some (.int v)) (upd2 A.1 100 0 (nI 0), A.2)) : Ct yX13_where mX13_where 0 dN (GG .null r) [.ref 100] A K := by
  refine Ct.of [some (.ref 100)] rfl rfl rfl (Nat.le_of_ble_eq_true rfl) ?_
  refine w_aload_n 1 dX13_where_0 rfl rfl ?_
  refine w_iconst 2 dX13_where_1 rfl (v := nI 0) rfl ?_
  refine w_puti 5 dX13_where_2 rfl faX13_46 rfl rfl rfl rfl ?_
  refine w_aload_n 6 dX13_where_5 rfl rfl ?_
  refine w_getiv 9 dX13_where_6 rfl faX13_9 rfl rfl rfl (v := v) (by dsimp only; rw [upd2_off (by decide)]; exact hv) ?_
  refine wr_i dX13_where_9 rfl ?_
  exact h

set_option maxRecDepth 4000 in
theorem c_X13_thrownN {K : Option Value → AH → Prop} {A : AH} {r : Value} {v : Int32} (hv : A.1 100 0 = v) (h : K (some (.int v)) A) : Ct yX13_thrown mX13_thrown 0 dN (GG .null r) [.ref 100] A K := by
  refine Ct.of [some (.ref 100)] rfl rfl rfl (Nat.le_of_ble_eq_true rfl) ?_
  refine w_aload_n 1 dX13_thrown_0 rfl rfl ?_
  refine w_getiv 4 dX13_thrown_1 rfl faX13_46 rfl rfl rfl hv ?_
  refine wr_i dX13_thrown_4 rfl ?_
  exact h

set_option maxRecDepth 4000 in
theorem c_X13_feedN {K : Option Value → AH → Prop} {A : AH} {r : Value} {n : Nat} {tp : Nat → Int32} {a b c d e : Int32} (hT : A.1 100 6 = nI n) (h9 : n ≤ 900) (htp : ∀ i, i < n → A.1 101 i = tp i) (h0 : ¬ n + 20 ≤ 900 → K (some (.int (-1))) (upd2 A.1 100 0 (nI 0), A.2)) (h : n + 20 ≤ 900 → ∀ A', A'.1 100 6 = nI (n + 20) → (∀ j, j < n + 20 → A'.1 101 j = fdT n tp a b c d e j) → OffL [100, 101] A A' → (∀ k, k ≠ 0 → k ≠ 6 → A'.1 100 k = A.1 100 k) → K (some (.int (nI (n + 20)))) A') : Ct yX13_feed mX13_feed 0 dN (GG .null r) [.ref 100, .int a, .int b, .int c, .int d, .int e] A K := by
  refine Ct.of [some (.ref 100), some (.int a), some (.int b), some (.int c), some (.int d), some (.int e), none, none] rfl rfl rfl (Nat.le_of_ble_eq_true rfl) ?_
  have lp23 : ∀ (nf : Nat) (i : Nat) (A' : AH) (y : Option Value), n + 20 ≤ 900 → i ≤ 20 → A'.1 100 6 = nI (n + i) → (∀ j, j < n + i → A'.1 101 j = fdT n tp a b c d e j) → OffL [100, 101] A A' → (∀ k, k ≠ 0 → k ≠ 6 → A'.1 100 k = A.1 100 k) → 20 - i < nf → WP mX13_feed 0 dN (GG .null r) 23 [some (.ref 100), some (.int a), some (.int b), some (.int c), some (.int d), some (.int e), some (.int (nI i)), y] [] A' K := by
    intro nf
    induction nf with
    | zero => intros; omega
    | succ nf ih =>
      intro i A' y hle hi h6 htp2 hO hk hms
      refine w_iload 25 dX13_feed_23 rfl rfl ?_
      refine w_bipush 27 dX13_feed_25 rfl (v := nI 20) rfl ?_
      refine w_icgeN 117 30 dX13_feed_27 rfl rfl (by omega) (by omega) (fun c27 => ?_) (fun c27 => ?_)
      · skip
        refine w_aload_n 118 dX13_feed_117 rfl rfl ?_
        have e9 : i = 20 := by omega
        subst e9
        refine w_getiv 121 dX13_feed_118 rfl faX13_336 rfl rfl rfl h6 ?_
        refine wr_i dX13_feed_121 rfl ?_
        exact h hle A' h6 htp2 hO hk
      · skip
        refine w_iload 32 dX13_feed_30 rfl rfl ?_
        refine w_iconst 33 dX13_feed_32 rfl (v := nI 4) rfl ?_
        refine w_icgeN 40 36 dX13_feed_33 rfl rfl (by omega) (by omega) (fun c33 => ?_) (fun c33 => ?_)
        · skip
          refine w_iload 42 dX13_feed_40 rfl rfl ?_
          refine w_bipush 44 dX13_feed_42 rfl (v := nI 8) rfl ?_
          refine w_icgeN 51 47 dX13_feed_44 rfl rfl (by omega) (by omega) (fun c44 => ?_) (fun c44 => ?_)
          · skip
            refine w_iload 53 dX13_feed_51 rfl rfl ?_
            refine w_bipush 55 dX13_feed_53 rfl (v := nI 12) rfl ?_
            refine w_icgeN 62 58 dX13_feed_55 rfl rfl (by omega) (by omega) (fun c55 => ?_) (fun c55 => ?_)
            · skip
              refine w_iload 64 dX13_feed_62 rfl rfl ?_
              refine w_bipush 66 dX13_feed_64 rfl (v := nI 16) rfl ?_
              refine w_icgeN 74 69 dX13_feed_66 rfl rfl (by omega) (by omega) (fun c66 => ?_) (fun c66 => ?_)
              · skip
                refine w_iload 76 dX13_feed_74 rfl rfl ?_
                refine w_ist7 78 dX13_feed_76 rfl (by decide) rfl ?_
                refine w_aload_n 79 dX13_feed_78 rfl rfl ?_
                refine w_getr 82 dX13_feed_79 rfl faX13_13 rfl rfl rfl (r := .ref 101) rfl ?_
                refine w_aload_n 83 dX13_feed_82 rfl rfl ?_
                refine w_getiv 86 dX13_feed_83 rfl faX13_336 rfl rfl rfl h6 ?_
                refine w_iload 88 dX13_feed_86 rfl rfl ?_
                refine w_bipush 90 dX13_feed_88 rfl (v := nI 24) rfl ?_
                refine w_bipush 92 dX13_feed_90 rfl (v := nI 8) rfl ?_
                refine w_iload 94 dX13_feed_92 rfl rfl ?_
                refine w_iconst 95 dX13_feed_94 rfl (v := nI 4) rfl ?_
                refine w_iremN 96 dX13_feed_95 rfl (by omega) (by omega) (by omega) ?_
                refine w_imulN 97 dX13_feed_96 rfl ?_
                refine w_isub 98 dX13_feed_97 rfl ?_
                refine w_ishr 99 dX13_feed_98 rfl ?_
                refine w_i2b 100 dX13_feed_99 rfl ?_
                refine w_bastN 101 dX13_feed_100 rfl rfl rfl (by decide) (by omega) ?_
                refine w_aload_n 102 dX13_feed_101 rfl rfl ?_
                refine w_dup_r 103 dX13_feed_102 rfl ?_
                refine w_getiv 106 dX13_feed_103 rfl faX13_336 rfl rfl rfl (v := nI (n + i)) (by dsimp only; rw [upd2_ne (by decide)]; exact h6) ?_
                refine w_iconst 107 dX13_feed_106 rfl (v := nI 1) rfl ?_
                refine w_iaddN 108 dX13_feed_107 rfl ?_
                refine w_puti 111 dX13_feed_108 rfl faX13_336 rfl rfl rfl rfl ?_
                refine w_inc6 114 dX13_feed_111 rfl (by decide) rfl (v := nI (_ + 1)) (nI_1 _) ?_
                refine w_goto 23 dX13_feed_114 rfl ?_
                refine ih (i + 1) _ _ hle (by omega) (by dsimp only; rw [upd2_at, Nat.add_assoc]) (fun j hj => ?_) ((hO.upd (by decide) _ _).upd (by decide) _ _) (fun k h0 h6 => by dsimp only; rw [upd2_off h6, upd2_ne (by decide)]; exact hk k h0 h6) (by omega)
                dsimp only
                rw [upd2_ne (by decide)]
                by_cases q : j = n + i
                · subst q
                  rw [upd2_at, fdT, if_neg (by omega), show n + i - n = i by omega]
                  have hfa : fdA a b c d e i = e := by simp [fdA, show ¬ i < 4 by omega, show ¬ i < 8 by omega, show ¬ i < 12 by omega, show ¬ i < 16 by omega]
                  rw [hfa]
                  have h4 := Nat.mod_lt i (show 0 < 4 by decide)
                  have hsub : nI 24 - nI (8 * (i % 4)) = nI (24 - 8 * (i % 4)) := nI_subN (by omega)
                  rw [hsub]
                  rfl
                · rw [upd2_off q]
                  exact htp2 j (by omega)
              · skip
                refine w_iload 71 dX13_feed_69 rfl rfl ?_
                refine w_goto 76 dX13_feed_71 rfl ?_
                refine w_ist7 78 dX13_feed_76 rfl (by decide) rfl ?_
                refine w_aload_n 79 dX13_feed_78 rfl rfl ?_
                refine w_getr 82 dX13_feed_79 rfl faX13_13 rfl rfl rfl (r := .ref 101) rfl ?_
                refine w_aload_n 83 dX13_feed_82 rfl rfl ?_
                refine w_getiv 86 dX13_feed_83 rfl faX13_336 rfl rfl rfl h6 ?_
                refine w_iload 88 dX13_feed_86 rfl rfl ?_
                refine w_bipush 90 dX13_feed_88 rfl (v := nI 24) rfl ?_
                refine w_bipush 92 dX13_feed_90 rfl (v := nI 8) rfl ?_
                refine w_iload 94 dX13_feed_92 rfl rfl ?_
                refine w_iconst 95 dX13_feed_94 rfl (v := nI 4) rfl ?_
                refine w_iremN 96 dX13_feed_95 rfl (by omega) (by omega) (by omega) ?_
                refine w_imulN 97 dX13_feed_96 rfl ?_
                refine w_isub 98 dX13_feed_97 rfl ?_
                refine w_ishr 99 dX13_feed_98 rfl ?_
                refine w_i2b 100 dX13_feed_99 rfl ?_
                refine w_bastN 101 dX13_feed_100 rfl rfl rfl (by decide) (by omega) ?_
                refine w_aload_n 102 dX13_feed_101 rfl rfl ?_
                refine w_dup_r 103 dX13_feed_102 rfl ?_
                refine w_getiv 106 dX13_feed_103 rfl faX13_336 rfl rfl rfl (v := nI (n + i)) (by dsimp only; rw [upd2_ne (by decide)]; exact h6) ?_
                refine w_iconst 107 dX13_feed_106 rfl (v := nI 1) rfl ?_
                refine w_iaddN 108 dX13_feed_107 rfl ?_
                refine w_puti 111 dX13_feed_108 rfl faX13_336 rfl rfl rfl rfl ?_
                refine w_inc6 114 dX13_feed_111 rfl (by decide) rfl (v := nI (_ + 1)) (nI_1 _) ?_
                refine w_goto 23 dX13_feed_114 rfl ?_
                refine ih (i + 1) _ _ hle (by omega) (by dsimp only; rw [upd2_at, Nat.add_assoc]) (fun j hj => ?_) ((hO.upd (by decide) _ _).upd (by decide) _ _) (fun k h0 h6 => by dsimp only; rw [upd2_off h6, upd2_ne (by decide)]; exact hk k h0 h6) (by omega)
                dsimp only
                rw [upd2_ne (by decide)]
                by_cases q : j = n + i
                · subst q
                  rw [upd2_at, fdT, if_neg (by omega), show n + i - n = i by omega]
                  have hfa : fdA a b c d e i = d := by simp [fdA, show ¬ i < 4 by omega, show ¬ i < 8 by omega, show ¬ i < 12 by omega, show i < 16 by omega]
                  rw [hfa]
                  have h4 := Nat.mod_lt i (show 0 < 4 by decide)
                  have hsub : nI 24 - nI (8 * (i % 4)) = nI (24 - 8 * (i % 4)) := nI_subN (by omega)
                  rw [hsub]
                  rfl
                · rw [upd2_off q]
                  exact htp2 j (by omega)
            · skip
              refine w_iload_n 59 dX13_feed_58 rfl rfl ?_
              refine w_goto 76 dX13_feed_59 rfl ?_
              refine w_ist7 78 dX13_feed_76 rfl (by decide) rfl ?_
              refine w_aload_n 79 dX13_feed_78 rfl rfl ?_
              refine w_getr 82 dX13_feed_79 rfl faX13_13 rfl rfl rfl (r := .ref 101) rfl ?_
              refine w_aload_n 83 dX13_feed_82 rfl rfl ?_
              refine w_getiv 86 dX13_feed_83 rfl faX13_336 rfl rfl rfl h6 ?_
              refine w_iload 88 dX13_feed_86 rfl rfl ?_
              refine w_bipush 90 dX13_feed_88 rfl (v := nI 24) rfl ?_
              refine w_bipush 92 dX13_feed_90 rfl (v := nI 8) rfl ?_
              refine w_iload 94 dX13_feed_92 rfl rfl ?_
              refine w_iconst 95 dX13_feed_94 rfl (v := nI 4) rfl ?_
              refine w_iremN 96 dX13_feed_95 rfl (by omega) (by omega) (by omega) ?_
              refine w_imulN 97 dX13_feed_96 rfl ?_
              refine w_isub 98 dX13_feed_97 rfl ?_
              refine w_ishr 99 dX13_feed_98 rfl ?_
              refine w_i2b 100 dX13_feed_99 rfl ?_
              refine w_bastN 101 dX13_feed_100 rfl rfl rfl (by decide) (by omega) ?_
              refine w_aload_n 102 dX13_feed_101 rfl rfl ?_
              refine w_dup_r 103 dX13_feed_102 rfl ?_
              refine w_getiv 106 dX13_feed_103 rfl faX13_336 rfl rfl rfl (v := nI (n + i)) (by dsimp only; rw [upd2_ne (by decide)]; exact h6) ?_
              refine w_iconst 107 dX13_feed_106 rfl (v := nI 1) rfl ?_
              refine w_iaddN 108 dX13_feed_107 rfl ?_
              refine w_puti 111 dX13_feed_108 rfl faX13_336 rfl rfl rfl rfl ?_
              refine w_inc6 114 dX13_feed_111 rfl (by decide) rfl (v := nI (_ + 1)) (nI_1 _) ?_
              refine w_goto 23 dX13_feed_114 rfl ?_
              refine ih (i + 1) _ _ hle (by omega) (by dsimp only; rw [upd2_at, Nat.add_assoc]) (fun j hj => ?_) ((hO.upd (by decide) _ _).upd (by decide) _ _) (fun k h0 h6 => by dsimp only; rw [upd2_off h6, upd2_ne (by decide)]; exact hk k h0 h6) (by omega)
              dsimp only
              rw [upd2_ne (by decide)]
              by_cases q : j = n + i
              · subst q
                rw [upd2_at, fdT, if_neg (by omega), show n + i - n = i by omega]
                have hfa : fdA a b c d e i = c := by simp [fdA, show ¬ i < 4 by omega, show ¬ i < 8 by omega, show i < 12 by omega]
                rw [hfa]
                have h4 := Nat.mod_lt i (show 0 < 4 by decide)
                have hsub : nI 24 - nI (8 * (i % 4)) = nI (24 - 8 * (i % 4)) := nI_subN (by omega)
                rw [hsub]
                rfl
              · rw [upd2_off q]
                exact htp2 j (by omega)
          · skip
            refine w_iload_n 48 dX13_feed_47 rfl rfl ?_
            refine w_goto 76 dX13_feed_48 rfl ?_
            refine w_ist7 78 dX13_feed_76 rfl (by decide) rfl ?_
            refine w_aload_n 79 dX13_feed_78 rfl rfl ?_
            refine w_getr 82 dX13_feed_79 rfl faX13_13 rfl rfl rfl (r := .ref 101) rfl ?_
            refine w_aload_n 83 dX13_feed_82 rfl rfl ?_
            refine w_getiv 86 dX13_feed_83 rfl faX13_336 rfl rfl rfl h6 ?_
            refine w_iload 88 dX13_feed_86 rfl rfl ?_
            refine w_bipush 90 dX13_feed_88 rfl (v := nI 24) rfl ?_
            refine w_bipush 92 dX13_feed_90 rfl (v := nI 8) rfl ?_
            refine w_iload 94 dX13_feed_92 rfl rfl ?_
            refine w_iconst 95 dX13_feed_94 rfl (v := nI 4) rfl ?_
            refine w_iremN 96 dX13_feed_95 rfl (by omega) (by omega) (by omega) ?_
            refine w_imulN 97 dX13_feed_96 rfl ?_
            refine w_isub 98 dX13_feed_97 rfl ?_
            refine w_ishr 99 dX13_feed_98 rfl ?_
            refine w_i2b 100 dX13_feed_99 rfl ?_
            refine w_bastN 101 dX13_feed_100 rfl rfl rfl (by decide) (by omega) ?_
            refine w_aload_n 102 dX13_feed_101 rfl rfl ?_
            refine w_dup_r 103 dX13_feed_102 rfl ?_
            refine w_getiv 106 dX13_feed_103 rfl faX13_336 rfl rfl rfl (v := nI (n + i)) (by dsimp only; rw [upd2_ne (by decide)]; exact h6) ?_
            refine w_iconst 107 dX13_feed_106 rfl (v := nI 1) rfl ?_
            refine w_iaddN 108 dX13_feed_107 rfl ?_
            refine w_puti 111 dX13_feed_108 rfl faX13_336 rfl rfl rfl rfl ?_
            refine w_inc6 114 dX13_feed_111 rfl (by decide) rfl (v := nI (_ + 1)) (nI_1 _) ?_
            refine w_goto 23 dX13_feed_114 rfl ?_
            refine ih (i + 1) _ _ hle (by omega) (by dsimp only; rw [upd2_at, Nat.add_assoc]) (fun j hj => ?_) ((hO.upd (by decide) _ _).upd (by decide) _ _) (fun k h0 h6 => by dsimp only; rw [upd2_off h6, upd2_ne (by decide)]; exact hk k h0 h6) (by omega)
            dsimp only
            rw [upd2_ne (by decide)]
            by_cases q : j = n + i
            · subst q
              rw [upd2_at, fdT, if_neg (by omega), show n + i - n = i by omega]
              have hfa : fdA a b c d e i = b := by simp [fdA, show ¬ i < 4 by omega, show i < 8 by omega]
              rw [hfa]
              have h4 := Nat.mod_lt i (show 0 < 4 by decide)
              have hsub : nI 24 - nI (8 * (i % 4)) = nI (24 - 8 * (i % 4)) := nI_subN (by omega)
              rw [hsub]
              rfl
            · rw [upd2_off q]
              exact htp2 j (by omega)
        · skip
          refine w_iload_n 37 dX13_feed_36 rfl rfl ?_
          refine w_goto 76 dX13_feed_37 rfl ?_
          refine w_ist7 78 dX13_feed_76 rfl (by decide) rfl ?_
          refine w_aload_n 79 dX13_feed_78 rfl rfl ?_
          refine w_getr 82 dX13_feed_79 rfl faX13_13 rfl rfl rfl (r := .ref 101) rfl ?_
          refine w_aload_n 83 dX13_feed_82 rfl rfl ?_
          refine w_getiv 86 dX13_feed_83 rfl faX13_336 rfl rfl rfl h6 ?_
          refine w_iload 88 dX13_feed_86 rfl rfl ?_
          refine w_bipush 90 dX13_feed_88 rfl (v := nI 24) rfl ?_
          refine w_bipush 92 dX13_feed_90 rfl (v := nI 8) rfl ?_
          refine w_iload 94 dX13_feed_92 rfl rfl ?_
          refine w_iconst 95 dX13_feed_94 rfl (v := nI 4) rfl ?_
          refine w_iremN 96 dX13_feed_95 rfl (by omega) (by omega) (by omega) ?_
          refine w_imulN 97 dX13_feed_96 rfl ?_
          refine w_isub 98 dX13_feed_97 rfl ?_
          refine w_ishr 99 dX13_feed_98 rfl ?_
          refine w_i2b 100 dX13_feed_99 rfl ?_
          refine w_bastN 101 dX13_feed_100 rfl rfl rfl (by decide) (by omega) ?_
          refine w_aload_n 102 dX13_feed_101 rfl rfl ?_
          refine w_dup_r 103 dX13_feed_102 rfl ?_
          refine w_getiv 106 dX13_feed_103 rfl faX13_336 rfl rfl rfl (v := nI (n + i)) (by dsimp only; rw [upd2_ne (by decide)]; exact h6) ?_
          refine w_iconst 107 dX13_feed_106 rfl (v := nI 1) rfl ?_
          refine w_iaddN 108 dX13_feed_107 rfl ?_
          refine w_puti 111 dX13_feed_108 rfl faX13_336 rfl rfl rfl rfl ?_
          refine w_inc6 114 dX13_feed_111 rfl (by decide) rfl (v := nI (_ + 1)) (nI_1 _) ?_
          refine w_goto 23 dX13_feed_114 rfl ?_
          refine ih (i + 1) _ _ hle (by omega) (by dsimp only; rw [upd2_at, Nat.add_assoc]) (fun j hj => ?_) ((hO.upd (by decide) _ _).upd (by decide) _ _) (fun k h0 h6 => by dsimp only; rw [upd2_off h6, upd2_ne (by decide)]; exact hk k h0 h6) (by omega)
          dsimp only
          rw [upd2_ne (by decide)]
          by_cases q : j = n + i
          · subst q
            rw [upd2_at, fdT, if_neg (by omega), show n + i - n = i by omega]
            have hfa : fdA a b c d e i = a := by simp [fdA, show i < 4 by omega]
            rw [hfa]
            have h4 := Nat.mod_lt i (show 0 < 4 by decide)
            have hsub : nI 24 - nI (8 * (i % 4)) = nI (24 - 8 * (i % 4)) := nI_subN (by omega)
            rw [hsub]
            rfl
          · rw [upd2_off q]
            exact htp2 j (by omega)
  refine w_aload_n 1 dX13_feed_0 rfl rfl ?_
  refine w_iconst 2 dX13_feed_1 rfl (v := nI 0) rfl ?_
  refine w_puti 5 dX13_feed_2 rfl faX13_46 rfl rfl rfl rfl ?_
  refine w_aload_n 6 dX13_feed_5 rfl rfl ?_
  refine w_getiv 9 dX13_feed_6 rfl faX13_336 rfl rfl rfl (v := nI n) (by dsimp only; rw [upd2_off (by decide)]; exact hT) ?_
  refine w_bipush 11 dX13_feed_9 rfl (v := nI 20) rfl ?_
  refine w_iaddN 12 dX13_feed_11 rfl ?_
  refine w_sipush 15 dX13_feed_12 rfl (v := nI 900) rfl ?_
  refine w_icleN 20 18 dX13_feed_15 rfl rfl (by omega) (by omega) (fun c15 => ?_) (fun c15 => ?_)
  · skip
    have hle : n + 20 ≤ 900 := by omega
    refine w_iconst 21 dX13_feed_20 rfl (v := nI 0) rfl ?_
    refine w_ist6 23 dX13_feed_21 rfl (by decide) rfl ?_
    exact lp23 _ 0 _ none hle (Nat.zero_le _) (by dsimp only; rw [upd2_off (by decide)]; exact hT) (fun j hj => by dsimp only; rw [upd2_ne (by decide), fdT, if_pos (by omega)]; exact htp j (by omega)) (OffL.rf.upd (by decide) _ _) (fun k h0 _ => by dsimp only; rw [upd2_off h0]) (Nat.lt_succ_self _)
  · skip
    have hle : ¬ n + 20 ≤ 900 := by omega
    refine w_iconst 19 dX13_feed_18 rfl (v := (-1)) rfl ?_
    refine wr_i dX13_feed_19 rfl ?_
    exact h0 hle

set_option maxRecDepth 4000 in
theorem n_X13_led {K : Option Value → AH → Prop} {A : AH} {r : Value} {x : Int32} (hn : ∀ A', QM A A' → A'.1 100 1 = A.1 100 1 → A'.1 100 2 = A.1 100 2 → A'.1 100 0 = nI 1 → K (some (.int (nI 0))) A') : Ct yX13_led mX13_led 4 dN (GG .null r) [.ref 100, .int x] A K := by
  refine Ct.of [some (.ref 100), some (.int x), none, none] rfl rfl rfl (Nat.le_of_ble_eq_true rfl) ?_
  refine w_aload_n 1 dX13_led_0 rfl rfl ?_
  refine w_iconst 2 dX13_led_1 rfl (v := nI 0) rfl ?_
  refine w_puti 5 dX13_led_2 rfl faX13_46 rfl rfl rfl rfl ?_
  refine w_iconst 6 dX13_led_5 rfl (v := nI 0) rfl ?_
  refine w_ist2 7 dX13_led_6 rfl (by decide) rfl ?_
  refine w_aload_n 8 dX13_led_7 rfl rfl ?_
  refine w_getr 11 dX13_led_8 rfl faX13_343 rfl rfl rfl (r := .null) rfl ?_
  refine w_nN 19 dX13_led_11 rfl ?_
  refine w_iconst 20 dX13_led_19 rfl (v := nI 0) rfl ?_
  refine w_ist3 21 dX13_led_20 rfl (by decide) rfl ?_
  refine w_aload_n 22 dX13_led_21 rfl rfl ?_
  refine w_getr 25 dX13_led_22 rfl faX13_343 rfl rfl rfl (r := .null) rfl ?_
  refine w_nN 67 dX13_led_25 rfl ?_
  refine w_aload_n 68 dX13_led_67 rfl rfl ?_
  refine w_iconst 69 dX13_led_68 rfl (v := nI 1) rfl ?_
  refine w_puti 72 dX13_led_69 rfl faX13_46 rfl rfl rfl rfl ?_
  refine w_iconst 73 dX13_led_72 rfl (v := nI 0) rfl ?_
  refine wr_i dX13_led_73 rfl ?_
  exact hn _ ((QM.rf.f (by decide) _).f (by decide) _) (by dsimp only; rw [upd2_off (by decide), upd2_off (by decide)]) (by dsimp only; rw [upd2_off (by decide), upd2_off (by decide)]) (by dsimp only; rw [upd2_at])

set_option maxRecDepth 4000 in
theorem n_X13_size {K : Option Value → AH → Prop} {A : AH} {r : Value} {n : Nat} {x : Int32} (hn : A.1 100 6 = nI n) (h : K (some (.int (nSize n x))) (upd2 A.1 100 0 (nI 0), A.2)) : Ct yX13_size mX13_size 1 dN (GG .null r) [.ref 100, .int x] A K := by
  refine Ct.of [some (.ref 100), some (.int x)] rfl rfl rfl (Nat.le_of_ble_eq_true rfl) ?_
  refine w_aload_n 1 dX13_size_0 rfl rfl ?_
  refine w_iconst 2 dX13_size_1 rfl (v := nI 0) rfl ?_
  refine w_puti 5 dX13_size_2 rfl faX13_46 rfl rfl rfl rfl ?_
  refine w_iload_n 6 dX13_size_5 rfl rfl ?_
  refine w_bipush 8 dX13_size_6 rfl (v := nI 12) rfl ?_
  refine w_icne 16 11 dX13_size_8 rfl rfl (fun c8 => ?_) (fun c8 => ?_)
  · skip
    refine w_iload_n 17 dX13_size_16 rfl rfl ?_
    refine w_iconst 18 dX13_size_17 rfl (v := nI 0) rfl ?_
    refine w_bipush 20 dX13_size_18 rfl (v := nI 11) rfl ?_
    refine w_invs3 23 dX13_size_20 rfl slX13_121 (d' := 0) (by decide) (Nat.le_of_ble_eq_true rfl) (c_X13_in ?_)
    refine w_ifneB 28 26 dX13_size_23 rfl rfl (fun c23 => ?_) (fun c23 => ?_)
    · skip
      refine w_aload_n 29 dX13_size_28 rfl rfl ?_
      refine w_getr 32 dX13_size_29 rfl faX13_343 rfl rfl rfl (r := .null) rfl ?_
      refine w_nnN 35 dX13_size_32 rfl ?_
      refine w_iconst 36 dX13_size_35 rfl (v := nI 0) rfl ?_
      refine wr_i dX13_size_36 rfl ?_
      exact kq h (by unfold nSize; rw [if_neg c8, if_pos (of_decide_eq_true c23)])
    · skip
      refine w_iconst 27 dX13_size_26 rfl (v := (-1)) rfl ?_
      refine wr_i dX13_size_27 rfl ?_
      exact kq h (by unfold nSize; rw [if_neg c8, if_neg (of_decide_eq_false c23)])
  · skip
    refine w_aload_n 12 dX13_size_11 rfl rfl ?_
    refine w_getiv 15 dX13_size_12 rfl faX13_336 rfl rfl rfl (v := nI n) (by dsimp only; rw [upd2_off (by decide)]; exact hn) ?_
    refine wr_i dX13_size_15 rfl ?_
    exact kq h (by unfold nSize; rw [if_pos c8])

set_option maxRecDepth 4000 in
theorem n_X13_year {K : Option Value → AH → Prop} {A : AH} {r : Value}  (h : ∀ A', QM A A' → A'.1 100 1 = nI 1 → A'.1 100 2 = -1 → K (some (.int (-1))) A') : Ct yX13_year mX13_year 4 dN (GG .null r) [.ref 100] A K := by
  refine Ct.of [some (.ref 100), none] rfl rfl rfl (Nat.le_of_ble_eq_true rfl) ?_
  refine w_aload_n 1 dX13_year_0 rfl rfl ?_
  refine w_iconst 2 dX13_year_1 rfl (v := nI 0) rfl ?_
  refine w_puti 5 dX13_year_2 rfl faX13_46 rfl rfl rfl rfl ?_
  refine w_aload_n 6 dX13_year_5 rfl rfl ?_
  refine w_getr 9 dX13_year_6 rfl faX13_343 rfl rfl rfl (r := .null) rfl ?_
  refine w_nnN 12 dX13_year_9 rfl ?_
  refine w_aload_n 13 dX13_year_12 rfl rfl ?_
  refine w_iconst 14 dX13_year_13 rfl (v := nI 1) rfl ?_
  refine w_inv1 17 dX13_year_14 rfl mlX13_52 rfl rfl (d' := 0) (by decide) (Nat.le_of_ble_eq_true rfl) (c_X13_refusedN (fun A2 hQ2 ht2 hw2 => ?_))
  refine wr_i dX13_year_17 rfl ?_
  exact h A2 ((QM.rf.f (by decide) _).tr hQ2) ht2 hw2

set_option maxRecDepth 4000 in
theorem n_X13_image {K : Option Value → AH → Prop} {A : AH} {r : Value}  (h : ∀ A', QM A A' → A'.1 100 1 = nI 1 → A'.1 100 2 = -1 → K (some (.int (-1))) A') : Ct yX13_image mX13_image 1 dN (GG .null r) [.ref 100] A K := by
  refine Ct.of [some (.ref 100), none] rfl rfl rfl (Nat.le_of_ble_eq_true rfl) ?_
  refine w_aload_n 1 dX13_image_0 rfl rfl ?_
  refine w_iconst 2 dX13_image_1 rfl (v := nI 0) rfl ?_
  refine w_puti 5 dX13_image_2 rfl faX13_46 rfl rfl rfl rfl ?_
  refine w_aload_n 6 dX13_image_5 rfl rfl ?_
  refine w_getr 9 dX13_image_6 rfl faX13_343 rfl rfl rfl (r := .null) rfl ?_
  refine w_nnN 12 dX13_image_9 rfl ?_
  refine w_aload_n 13 dX13_image_12 rfl rfl ?_
  refine w_iconst 14 dX13_image_13 rfl (v := nI 1) rfl ?_
  refine w_inv1 17 dX13_image_14 rfl mlX13_52 rfl rfl (d' := 0) (by decide) (Nat.le_of_ble_eq_true rfl) (c_X13_refusedN (fun A2 hQ2 ht2 hw2 => ?_))
  refine wr_i dX13_image_17 rfl ?_
  exact h A2 ((QM.rf.f (by decide) _).tr hQ2) ht2 hw2

set_option maxRecDepth 4000 in
theorem n_X13_spin {K : Option Value → AH → Prop} {A : AH} {r : Value} {k : Int32} (h : ∀ A', QM A A' → A'.1 100 1 = nI 1 → A'.1 100 2 = -1 → K (some (.int (-1))) A') : Ct yX13_spin mX13_spin 1 dN (GG .null r) [.ref 100, .int k] A K := by
  refine Ct.of [some (.ref 100), some (.int k), none] rfl rfl rfl (Nat.le_of_ble_eq_true rfl) ?_
  refine w_aload_n 1 dX13_spin_0 rfl rfl ?_
  refine w_iconst 2 dX13_spin_1 rfl (v := nI 0) rfl ?_
  refine w_puti 5 dX13_spin_2 rfl faX13_46 rfl rfl rfl rfl ?_
  refine w_aload_n 6 dX13_spin_5 rfl rfl ?_
  refine w_getr 9 dX13_spin_6 rfl faX13_343 rfl rfl rfl (r := .null) rfl ?_
  refine w_nN 27 dX13_spin_9 rfl ?_
  refine w_aload_n 28 dX13_spin_27 rfl rfl ?_
  refine w_iconst 29 dX13_spin_28 rfl (v := nI 1) rfl ?_
  refine w_inv1 32 dX13_spin_29 rfl mlX13_52 rfl rfl (d' := 0) (by decide) (Nat.le_of_ble_eq_true rfl) (c_X13_refusedN (fun A2 hQ2 ht2 hw2 => ?_))
  refine wr_i dX13_spin_32 rfl ?_
  exact h A2 ((QM.rf.f (by decide) _).tr hQ2) ht2 hw2

set_option maxRecDepth 4000 in
theorem n_X13_darn {K : Option Value → AH → Prop} {A : AH} {r : Value} {t : Int32} (h : ∀ A', QM A A' → A'.1 100 1 = nI 1 → A'.1 100 2 = -1 → K (some (.int (-1))) A') : Ct yX13_darn mX13_darn 2 dN (GG .null r) [.ref 100, .int t] A K := by
  refine Ct.of [some (.ref 100), some (.int t)] rfl rfl rfl (Nat.le_of_ble_eq_true rfl) ?_
  refine w_aload_n 1 dX13_darn_0 rfl rfl ?_
  refine w_iconst 2 dX13_darn_1 rfl (v := nI 0) rfl ?_
  refine w_puti 5 dX13_darn_2 rfl faX13_46 rfl rfl rfl rfl ?_
  refine w_aload_n 6 dX13_darn_5 rfl rfl ?_
  refine w_iload_n 7 dX13_darn_6 rfl rfl ?_
  refine w_inv1 10 dX13_darn_7 rfl mlX13_392 rfl rfl (d' := 0) (by decide) (Nat.le_of_ble_eq_true rfl) (c_X13_isThreadN ?_)
  refine w_ifneB 19 13 dX13_darn_10 rfl rfl (fun cc => by cases cc) (fun _ => ?_)
  refine w_aload_n 14 dX13_darn_13 rfl rfl ?_
  refine w_iconst 15 dX13_darn_14 rfl (v := nI 1) rfl ?_
  refine w_inv1 18 dX13_darn_15 rfl mlX13_52 rfl rfl (d' := 0) (by decide) (Nat.le_of_ble_eq_true rfl) (c_X13_refusedN (fun A2 hQ2 ht2 hw2 => ?_))
  refine wr_i dX13_darn_18 rfl ?_
  exact h A2 ((QM.rf.f (by decide) _).tr hQ2) ht2 hw2

set_option maxRecDepth 4000 in
theorem n_X13_snap {K : Option Value → AH → Prop} {A : AH} {r : Value} {t : Int32} (h : ∀ A', QM A A' → A'.1 100 1 = nI 1 → A'.1 100 2 = -1 → K (some (.int (nI 0))) A') : Ct yX13_snap mX13_snap 2 dN (GG .null r) [.ref 100, .int t] A K := by
  refine Ct.of [some (.ref 100), some (.int t)] rfl rfl rfl (Nat.le_of_ble_eq_true rfl) ?_
  refine w_aload_n 1 dX13_snap_0 rfl rfl ?_
  refine w_iconst 2 dX13_snap_1 rfl (v := nI 0) rfl ?_
  refine w_puti 5 dX13_snap_2 rfl faX13_46 rfl rfl rfl rfl ?_
  refine w_aload_n 6 dX13_snap_5 rfl rfl ?_
  refine w_iload_n 7 dX13_snap_6 rfl rfl ?_
  refine w_inv1 10 dX13_snap_7 rfl mlX13_392 rfl rfl (d' := 0) (by decide) (Nat.le_of_ble_eq_true rfl) (c_X13_isThreadN ?_)
  refine w_ifneB 19 13 dX13_snap_10 rfl rfl (fun cc => by cases cc) (fun _ => ?_)
  refine w_aload_n 14 dX13_snap_13 rfl rfl ?_
  refine w_iconst 15 dX13_snap_14 rfl (v := nI 1) rfl ?_
  refine w_inv1 18 dX13_snap_15 rfl mlX13_523 rfl rfl (d' := 1) (by decide) (Nat.le_of_ble_eq_true rfl) (c_X13_deniedN (fun A2 hQ2 ht2 hw2 => ?_))
  refine wr_z dX13_snap_18 rfl (by first | rfl | exact nb_b2i _) ?_
  exact h A2 ((QM.rf.f (by decide) _).tr hQ2) ht2 hw2

set_option maxRecDepth 4000 in
theorem n_X13_back {K : Option Value → AH → Prop} {A : AH} {r : Value} {x : Int32} (h : ∀ A', QM A A' → A'.1 100 1 = nI 1 → A'.1 100 2 = -1 → K (some (.int (nI 0))) A') : Ct yX13_back mX13_back 2 dN (GG .null r) [.ref 100, .int x] A K := by
  refine Ct.of [some (.ref 100), some (.int x), none] rfl rfl rfl (Nat.le_of_ble_eq_true rfl) ?_
  refine w_aload_n 1 dX13_back_0 rfl rfl ?_
  refine w_iconst 2 dX13_back_1 rfl (v := nI 0) rfl ?_
  refine w_puti 5 dX13_back_2 rfl faX13_46 rfl rfl rfl rfl ?_
  refine w_aload_n 6 dX13_back_5 rfl rfl ?_
  refine w_getr 9 dX13_back_6 rfl faX13_343 rfl rfl rfl (r := .null) rfl ?_
  refine w_nN 24 dX13_back_9 rfl ?_
  refine w_aload_n 25 dX13_back_24 rfl rfl ?_
  refine w_iconst 26 dX13_back_25 rfl (v := nI 1) rfl ?_
  refine w_inv1 29 dX13_back_26 rfl mlX13_523 rfl rfl (d' := 1) (by decide) (Nat.le_of_ble_eq_true rfl) (c_X13_deniedN (fun A2 hQ2 ht2 hw2 => ?_))
  refine wr_z dX13_back_29 rfl (by first | rfl | exact nb_b2i _) ?_
  exact h A2 ((QM.rf.f (by decide) _).tr hQ2) ht2 hw2

set_option maxRecDepth 4000 in
theorem n_X13_undo {K : Option Value → AH → Prop} {A : AH} {r : Value}  (h : ∀ A', QM A A' → A'.1 100 1 = nI 6 → A'.1 100 2 = -1 → K (some (.int (nI 0))) A') : Ct yX13_undo mX13_undo 2 dN (GG .null r) [.ref 100] A K := by
  refine Ct.of [some (.ref 100), none] rfl rfl rfl (Nat.le_of_ble_eq_true rfl) ?_
  refine w_aload_n 1 dX13_undo_0 rfl rfl ?_
  refine w_iconst 2 dX13_undo_1 rfl (v := nI 0) rfl ?_
  refine w_puti 5 dX13_undo_2 rfl faX13_46 rfl rfl rfl rfl ?_
  refine w_aload_n 6 dX13_undo_5 rfl rfl ?_
  refine w_getr 9 dX13_undo_6 rfl faX13_343 rfl rfl rfl (r := .null) rfl ?_
  refine w_nN 19 dX13_undo_9 rfl ?_
  refine w_aload_n 20 dX13_undo_19 rfl rfl ?_
  refine w_bipush 22 dX13_undo_20 rfl (v := nI 6) rfl ?_
  refine w_inv1 25 dX13_undo_22 rfl mlX13_523 rfl rfl (d' := 1) (by decide) (Nat.le_of_ble_eq_true rfl) (c_X13_deniedN (fun A2 hQ2 ht2 hw2 => ?_))
  refine wr_z dX13_undo_25 rfl (by first | rfl | exact nb_b2i _) ?_
  exact h A2 ((QM.rf.f (by decide) _).tr hQ2) ht2 hw2

