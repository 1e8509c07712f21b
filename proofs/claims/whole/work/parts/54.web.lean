/-! ===== a web that was read ===== -/
theorem PI.okT {w : WT} {nm : NT} (h : PI w nm) : okT w := by
  have hr := h.rooms
  have hE : ∀ J i, J < 8 → i < w.1 J → eOK (w.1 1) (w.1 2) J (w.2 J i) := fun J i hJ hi => (h.2.2.1 J i hJ hi).1
  have ho : ∀ k, tbz w 5 k 0 < 7 ∧ tbz w 5 k 1 < 7 ∧ tbz w 5 k 2 ≤ 99 ∧ tbz w 5 k 3 ≤ 99 := fun k => by
    unfold tbz
    split
    · have := hE 5 k (by decide) (by assumption)
      simp only [eOK] at this
      omega
    · omega
  have hz : ∀ c, c < 2 → tbz w 0 0 c ≤ 100 := fun c hc => by
    unfold tbz
    split
    · have := hE 0 0 (by decide) (by assumption)
      simp only [eOK] at this
      rcases c with _ | _ | c
      · exact this.1
      · exact this.2
      · omega
    · omega
  refine ⟨h.smW, h.clOK, ⟨hr.2.1, fun k => ⟨(ho k).1, (ho k).2.1, (ho k).2.2.1⟩⟩, ⟨h.smW, hz 0 (by decide), hr.2.2.2.2.2.2.1, hr.2.2.2.2.2.2.2⟩, ⟨hr.2.2.1, hr.2.2.2.1, hr.2.2.2.2.1, hr.2.2.2.2.2.1⟩, fun k hk => ?_, fun k => (ho k).2.2.2, hz 1 (by decide)⟩
  have := hE 4 k (by decide) hk
  simp only [eOK] at this
  omega
theorem beg_ok {w : WT} {nm : NT} {s : Nat → Nat} (h : PI w nm) (hb : begOK w (w.1 2) s) : okS s := by
  have hr := h.rooms
  obtain ⟨h0, h1, h2, h3⟩ := hb
  refine ⟨by omega, by omega, by omega, fun t ht => ?_⟩
  rw [h1] at ht
  obtain ⟨a, b⟩ := h3 t ht
  have := (h.2.2.1 2 t (by decide) ht).1
  simp only [eOK] at this
  have a0 := a 0 (by decide)
  rw [Nat.add_zero] at a0
  rw [a0, a 1 (by decide), a 2 (by decide), a 3 (by decide), a 4 (by decide), b]
  omega
set_option maxRecDepth 4000 in
theorem c_X11_web {K : Option Value → AH → Prop} {A : AH} {w : WT} {s : Nat → Nat} {H I : Nat → Nat → Nat} {nx c m f n0 : Nat} {pl : Int32} {tp : Nat → Int32} {x : Int32} (hC : CI w s A) (hP : RepP H I nx c m A) (hR : RdI f pl n0 tp A) (hB : ∀ i, i < n0 → isB (tp i)) (h2 : tB n0 x ≠ 0 → ∀ A', Qk A A' → A'.1 0 8 = nI 2 → K (some (.int (-1))) A') (hf : ∀ n f' pl', x = nI n → n ≤ n0 → allP (gB tp) n (n + 1) 0 emptyW noN = .inl (f', pl') → ∀ A', A'.1 0 8 = nI 4 → FL f' pl' A' → A'.1 7 1 = nI 0 → OffL (0 :: rdL) A A' → K (some (.int (-1))) A') (hs : ∀ n w' s', x = nI n → n ≤ n0 → allP (gB tp) n (n + 1) 0 emptyW noN = .inr w' → begOK w' (w'.1 2) s' → ∀ A', CI w' s' A' → RepP H I nx 0 0 A' → RdI 0 (-1) 0 tp A' → LR w' A' → A'.1 0 8 = nI 0 → K (some (.int (nI (w'.1 1)))) A') : Ct yX11_web mX11_web 10 dC gC [.ref 0, .int x] A K := by
  refine Ct.of [some (.ref 0), some (.int x)] rfl rfl rfl (Nat.le_of_ble_eq_true rfl) ?_
  refine w_aload_n 1 dX11_web_0 rfl rfl ?_
  refine w_iload_n 2 dX11_web_1 rfl rfl ?_
  refine w_iconst 3 dX11_web_2 rfl (v := nI 0) rfl ?_
  refine w_aload_n 4 dX11_web_3 rfl rfl ?_
  refine w_getr 7 dX11_web_4 rfl faX11_10 rfl rfl rfl (r := .ref 1) rfl ?_
  refine w_getr 10 dX11_web_7 rfl faX11_65 rfl rfl rfl (r := .ref 7) rfl ?_
  refine w_getiv 13 dX11_web_10 rfl faX11_79 rfl rfl rfl hR.2.2.1 ?_
  refine w_invs3 16 dX11_web_13 rfl slX11_83 (d' := 0) (by decide) (Nat.le_of_ble_eq_true rfl) (c_X11_withinN ?_)
  refine w_inv1 19 dX11_web_16 rfl mlX11_87 rfl rfl (d' := 0) (by decide) (Nat.le_of_ble_eq_true rfl) (c_X11_refused (Nat.lt_of_le_of_lt (tB_le _ _) (by decide)) ?_)
  refine w_ifeqB 24 22 dX11_web_19 rfl rfl (fun c19 => ?_) (fun c19 => ?_)
  · skip
    have hz : tB n0 x = 0 := Decidable.not_not.mp (of_decide_eq_false c19)
    have h900 := hR.2.2.2.1
    obtain ⟨n, rfl, hn⟩ := tB_of (by omega) hz
    refine w_aload_n 25 dX11_web_24 rfl rfl ?_
    refine w_getr 28 dX11_web_25 rfl faX11_10 rfl rfl rfl (r := .ref 1) rfl ?_
    refine w_iload_n 29 dX11_web_28 rfl rfl ?_
    refine w_inv1 32 dX11_web_29 rfl mlX11_91 rfl rfl (d' := 9) (by decide) (Nat.le_of_ble_eq_true rfl) (c_X5_read (tp := tp) (c := n0) (by dsimp only; rw [upd2_ne (by decide)]; exact hR.2.2.1) h900 hn (fun i hi => by dsimp only; rw [upd2_ne (by decide)]; exact hR.2.2.2.2 i hi) hB (fun f' pl' hal A2 hF hO2 => ?_) (fun w' hal A2 hT2 h02 hO2 => ?_))
    · skip
      have hfb := fb_all hal
      dsimp only at hfb
      refine w_aload_n 33 dX11_web_32 rfl rfl ?_
      refine w_getr 36 dX11_web_33 rfl faX11_10 rfl rfl rfl (r := .ref 1) rfl ?_
      refine w_getr 39 dX11_web_36 rfl faX11_65 rfl rfl rfl (r := .ref 7) rfl ?_
      refine w_iconst 40 dX11_web_39 rfl (v := nI 0) rfl ?_
      refine w_puti 43 dX11_web_40 rfl faX11_79 rfl rfl rfl rfl ?_
      refine w_aload_n 44 dX11_web_43 rfl rfl ?_
      refine w_aload_n 45 dX11_web_44 rfl rfl ?_
      refine w_getr 48 dX11_web_45 rfl faX11_10 rfl rfl rfl (r := .ref 1) rfl ?_
      refine w_getiv 51 dX11_web_48 rfl faX11_94 rfl rfl rfl (v := nI f') (by dsimp only; rw [upd2_ne (by decide)]; exact hF.1) ?_
      refine w_ifneN 58 54 dX11_web_51 rfl rfl (by omega) (fun c51 => ?_) (fun c51 => (by omega))
      refine w_iconst 59 dX11_web_58 rfl (v := nI 4) rfl ?_
      refine w_inv1 62 dX11_web_59 rfl mlX11_87 rfl rfl (d' := 0) (by decide) (Nat.le_of_ble_eq_true rfl) (c_X11_refused (by decide) ?_)
      refine w_ifeqB 67 65 dX11_web_62 rfl rfl (fun c62 => (by cases c62)) (fun c62 => ?_)
      refine w_iconst 66 dX11_web_65 rfl (v := (-1)) rfl ?_
      refine wr_i dX11_web_66 rfl ?_
      refine hf n f' pl' rfl hn hal _ (by dsimp only; rw [upd2_at]) ⟨?_, ?_⟩ ?_ ?_
      · dsimp only; rw [upd2_ne (by decide), upd2_ne (by decide)]; exact hF.1
      · dsimp only; rw [upd2_ne (by decide), upd2_ne (by decide)]; exact hF.2
      · dsimp only; rw [upd2_ne (by decide), upd2_at]
      · exact (((OffL.rf.upd (by decide) _ _).tr (hO2.mono (by decide))).upd (by decide) _ _).upd (by decide) _ _
    · skip
      obtain ⟨⟨nm, hPI⟩, h1⟩ := all_PI PI.empty hal
      have hok := hPI.okT
      refine w_aload_n 33 dX11_web_32 rfl rfl ?_
      refine w_getr 36 dX11_web_33 rfl faX11_10 rfl rfl rfl (r := .ref 1) rfl ?_
      refine w_getr 39 dX11_web_36 rfl faX11_65 rfl rfl rfl (r := .ref 7) rfl ?_
      refine w_iconst 40 dX11_web_39 rfl (v := nI 0) rfl ?_
      refine w_puti 43 dX11_web_40 rfl faX11_79 rfl rfl rfl rfl ?_
      refine w_aload_n 44 dX11_web_43 rfl rfl ?_
      refine w_aload_n 45 dX11_web_44 rfl rfl ?_
      refine w_getr 48 dX11_web_45 rfl faX11_10 rfl rfl rfl (r := .ref 1) rfl ?_
      refine w_getiv 51 dX11_web_48 rfl faX11_94 rfl rfl rfl (v := nI 0) (by dsimp only; rw [upd2_ne (by decide)]; exact h02.1) ?_
      refine w_ifneN 58 54 dX11_web_51 rfl rfl (by omega) (fun c51 => (by exact absurd rfl c51)) (fun c51 => ?_)
      refine w_iconst 55 dX11_web_54 rfl (v := nI 0) rfl ?_
      refine w_goto 59 dX11_web_55 rfl ?_
      refine w_inv1 62 dX11_web_59 rfl mlX11_87 rfl rfl (d' := 0) (by decide) (Nat.le_of_ble_eq_true rfl) (c_X11_refused (by decide) ?_)
      refine w_ifeqB 67 65 dX11_web_62 rfl rfl (fun c62 => ?_) (fun c62 => (by cases c62))
      refine w_aload_n 68 dX11_web_67 rfl rfl ?_
      refine w_getr 71 dX11_web_68 rfl faX11_19 rfl rfl rfl (r := .ref 26) rfl ?_
      refine w_aload_n 72 dX11_web_71 rfl rfl ?_
      refine w_getr 75 dX11_web_72 rfl faX11_10 rfl rfl rfl (r := .ref 1) rfl ?_
      refine w_getr 78 dX11_web_75 rfl faX11_97 rfl rfl rfl (r := .ref 9) rfl ?_
      refine w_inv1 81 dX11_web_78 rfl mlX11_100 rfl rfl (d' := 2) (by decide) (Nat.le_of_ble_eq_true rfl) (c_X10_copyFrom (w := w') (hT2.cong (fun y a b => by dsimp only; rw [upd2_ne (by omega), upd2_ne (by omega)])) (fun A5 hT5 hO5 => ?_))
      refine w_aload_n 82 dX11_web_81 rfl rfl ?_
      refine w_getr 85 dX11_web_82 rfl faX11_26 rfl rfl rfl (r := .ref 43) rfl ?_
      refine w_aload_n 86 dX11_web_85 rfl rfl ?_
      refine w_getr 89 dX11_web_86 rfl faX11_19 rfl rfl rfl (r := .ref 26) rfl ?_
      refine w_inv1 92 dX11_web_89 rfl mlX11_104 rfl rfl (d' := 3) (by decide) (Nat.le_of_ble_eq_true rfl) (c_X7_begin (s := s) (w := w') (hC.2.2.1.cong (by rw [(hO5 44 (by omega)).1]; dsimp only; rw [upd2_ne (by decide), upd2_ne (by decide), (hO2 44 (by decide)).1]; dsimp only; rw [upd2_ne (by decide)])) hT5 hok.2.2.2.2.1.1 (fun A6 s' hS6 hO6 hbg => ?_))
      refine w_aload_n 93 dX11_web_92 rfl rfl ?_
      refine w_getr 96 dX11_web_93 rfl faX11_33 rfl rfl rfl (r := .ref 45) rfl ?_
      refine w_inv0 99 dX11_web_96 rfl mlX11_107 rfl rfl (d' := 0) (by decide) (Nat.le_of_ble_eq_true rfl) (c_X4_forget ?_)
      refine w_aload_n 100 dX11_web_99 rfl rfl ?_
      refine w_getr 103 dX11_web_100 rfl faX11_47 rfl rfl rfl (r := .ref 56) rfl ?_
      refine w_aload_n 104 dX11_web_103 rfl rfl ?_
      refine w_getr 107 dX11_web_104 rfl faX11_19 rfl rfl rfl (r := .ref 26) rfl ?_
      refine w_inv1 110 dX11_web_107 rfl mlX11_110 rfl rfl (d' := 5) (by decide) (Nat.le_of_ble_eq_true rfl) (c_X2_weigh (w := w') (hT5.cong (fun y a b => by dsimp only; rw [upd2_ne (by omega), upd2_ne (by omega), hO6.2 y (by omega)])) hok.2.2.2.1 (fun A8 hL8 hO8 => ?_))
      have hT8 : RepT w' 26 A8 := hT5.cong (fun y a b => by rw [(hO8 y (by simp; omega)).1]; dsimp only; rw [upd2_ne (by omega), upd2_ne (by omega), hO6.2 y (by omega)])
      refine w_aload_n 111 dX11_web_110 rfl rfl ?_
      refine w_getr 114 dX11_web_111 rfl faX11_19 rfl rfl rfl (r := .ref 26) rfl ?_
      refine w_iconst 115 dX11_web_114 rfl (v := nI 1) rfl ?_
      refine w_inv1 118 dX11_web_115 rfl mlX11_113 rfl rfl (d' := 1) (by decide) (Nat.le_of_ble_eq_true rfl) (c_X10_howMany_26 hT8 (by decide) ?_)
      refine wr_i dX11_web_118 rfl ?_
      have k8 : ∀ y, y ≠ 56 → y ≠ 57 → y ≠ 45 → y ≠ 44 → (y < 27 ∨ 43 ≤ y) → A8.1 y = (upd2 (upd2 A2.1 7 1 (nI 0)) 0 8 (nI 0)) y := fun y a b c d e => by
        rw [(hO8 y (by simp; omega)).1]
        dsimp only
        rw [upd2_ne c, upd2_ne c, hO6.2 y d, (hO5 y e).1]
      have k2 : ∀ y, y ∉ rdL → y ≠ 0 → A2.1 y = A.1 y := fun y a b => by rw [(hO2 y a).1]; dsimp only; rw [upd2_ne b]
      refine kq (hs n w' s' rfl hn hal hbg A8 ⟨hT8, hok, ?_, beg_ok hPI hbg, ?_, ?_⟩ ⟨hP.1, by decide, by decide, ?_, ?_, ?_, fun i k hi => absurd hi (Nat.not_lt_zero i), fun i k hi => absurd hi (Nat.not_lt_zero i)⟩ ⟨?_, ?_, ?_, by decide, fun i hi => absurd hi (Nat.not_lt_zero i)⟩ ?_ ?_) rfl
      · intro k hk
        rw [(hO8 44 (by decide)).1]
        dsimp only
        rw [upd2_ne (by decide), upd2_ne (by decide)]
        exact hS6 k hk
      · rw [k8 52 (by decide) (by decide) (by decide) (by decide) (by omega), upd2_ne (by decide), upd2_ne (by decide), k2 52 (by decide) (by decide)]; exact hC.2.2.2.2.1
      · rw [k8 53 (by decide) (by decide) (by decide) (by decide) (by omega), upd2_ne (by decide), upd2_ne (by decide), k2 53 (by decide) (by decide)]; exact hC.2.2.2.2.2
      · rw [(hO8 45 (by decide)).1]
        dsimp only
        rw [upd2_off (by decide), upd2_off (by decide), hO6.2 45 (by decide), (hO5 45 (by omega)).1]
        dsimp only
        rw [upd2_ne (by decide), upd2_ne (by decide), k2 45 (by decide) (by decide)]
        exact hP.2.2.2.1
      · rw [(hO8 45 (by decide)).1]
        dsimp only
        rw [upd2_off (by decide), upd2_at]
      · rw [(hO8 45 (by decide)).1]
        dsimp only
        rw [upd2_at]
      · rw [k8 1 (by decide) (by decide) (by decide) (by decide) (by omega), upd2_ne (by decide), upd2_ne (by decide)]; exact h02.1
      · rw [k8 1 (by decide) (by decide) (by decide) (by decide) (by omega), upd2_ne (by decide), upd2_ne (by decide)]; exact h02.2
      · rw [k8 7 (by decide) (by decide) (by decide) (by decide) (by omega), upd2_ne (by decide), upd2_at]
      · unfold LR LN
        rw [if_pos h1]
        exact hL8
      · rw [k8 0 (by decide) (by decide) (by decide) (by decide) (by omega), upd2_at]
  · skip
    refine w_iconst 23 dX11_web_22 rfl (v := (-1)) rfl ?_
    refine wr_i dX11_web_23 rfl ?_
    have e2 : tB n0 x = 2 := by
      have := of_decide_eq_true c19
      unfold tB at this ⊢
      split
      · rw [if_pos (by assumption)] at this; exact absurd rfl this
      · rfl
    exact h2 (of_decide_eq_true c19) _ (hC.ref _) (by dsimp only; rw [upd2_at, e2])

set_option maxRecDepth 4000 in
theorem a_X11_led {K : Option Value → AH → Prop} {A : AH} {w : WT} {s : Nat → Nat} {x : Int32} (hC : CI w s A) (h : ∀ t, t < s 1 → fst1 (ledAt s x) (s 1) = some t → K (some (.int (nI t))) A) (hk : fst1 (ledAt s x) (s 1) = none → WP mX11_led 3 dC gC 42 [some (.ref 0), some (.int x), some (.int (ledF s x (s 1))), some (.int (nI (s 1)))] [] A K) : WP mX11_led 3 dC gC 0 [some (.ref 0), some (.int x), none, none] [] A K := by
  have lp4 : ∀ (nf : Nat) (i : Nat), i ≤ s 1 → fst1 (ledAt s x) i = none → s 1 - i < nf → WP mX11_led 3 dC gC 4 [some (.ref 0), some (.int x), some (.int (ledF s x i)), some (.int (nI i))] [] A K := by
    intro nf
    induction nf with
    | zero => intros; omega
    | succ nf ih =>
      intro i hi hq hms
      have hs8 := hC.2.2.2.1.2.1
      refine w_iload_n 5 dX11_led_4 rfl rfl ?_
      refine w_aload_n 6 dX11_led_5 rfl rfl ?_
      refine w_getr 9 dX11_led_6 rfl faX11_26 rfl rfl rfl (r := .ref 43) rfl ?_
      refine w_inv0 12 dX11_led_9 rfl mlX11_164 rfl rfl (d' := 0) (by decide) (Nat.le_of_ble_eq_true rfl) (c_X7_threads hC.2.2.1 ?_)
      refine w_icgeN 42 15 dX11_led_12 rfl rfl (by omega) (by omega) (fun c12 => ?_) (fun c12 => ?_)
      · skip
        have e1 : i = s 1 := by omega
        subst e1
        exact hk hq
      · skip
        refine w_aload_n 16 dX11_led_15 rfl rfl ?_
        refine w_getr 19 dX11_led_16 rfl faX11_26 rfl rfl rfl (r := .ref 43) rfl ?_
        refine w_iload_n 20 dX11_led_19 rfl rfl ?_
        refine w_iconst 21 dX11_led_20 rfl (v := nI 0) rfl ?_
        refine w_inv2 24 dX11_led_21 rfl mlX11_130 rfl rfl (d' := 2) (by decide) (Nat.le_of_ble_eq_true rfl) (c_X7_strength hC.2.2.1 hC.2.2.2.1 (by omega) (by decide) ?_)
        refine w_ifneN 36 27 dX11_led_24 rfl rfl (by have := stg_le hC.2.2.2.1 i 0; omega) (fun c24 => ?_) (fun c24 => ?_)
        · skip
          refine w_inc3 39 dX11_led_36 rfl (by decide) rfl (v := nI (_ + 1)) (nI_1 _) ?_
          refine w_goto 4 dX11_led_39 rfl ?_
          refine wp_eq ?_ rfl rfl (ih (i + 1) (by omega) (by simp [fst1, hq, ledAt, c24]) (by omega))
          simp [ledF, c24]
        · skip
          refine w_iload_n 28 dX11_led_27 rfl rfl ?_
          refine w_ifne 33 31 dX11_led_28 rfl rfl (fun c28 => ?_) (fun c28 => ?_)
          · skip
            refine w_inc2 36 dX11_led_33 rfl (by decide) rfl (v := _ + (-1)) rfl ?_
            refine w_inc3 39 dX11_led_36 rfl (by decide) rfl (v := nI (_ + 1)) (nI_1 _) ?_
            refine w_goto 4 dX11_led_39 rfl ?_
            refine wp_eq ?_ rfl rfl (ih (i + 1) (by omega) (by simp [fst1, hq, ledAt, c28]) (by omega))
            have e9 : ledF s x i + (-1) = ledF s x i - 1 := by rw [Int32.sub_eq_add_neg]
            simp only [ledF, c24, if_pos, e9]
          · skip
            refine w_iload_n 32 dX11_led_31 rfl rfl ?_
            refine wr_i dX11_led_32 rfl ?_
            exact h i c12 (fst1_some hq (by unfold ledAt; rw [decide_eq_true c24, decide_eq_true c28]; rfl) c12)
  refine w_iload_n 1 dX11_led_0 rfl rfl ?_
  refine w_ist2 2 dX11_led_1 rfl (by decide) rfl ?_
  refine w_iconst 3 dX11_led_2 rfl (v := nI 0) rfl ?_
  refine w_ist3 4 dX11_led_3 rfl (by decide) rfl ?_
  exact lp4 _ 0 (Nat.zero_le _) rfl (Nat.lt_succ_self _)

