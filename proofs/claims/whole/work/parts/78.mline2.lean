/-! ===== the reference reads: offers, nails, unsure ones ===== -/
theorem lb0_inr {g : Nat → Nat} {n j p : Nat} {w : WT} {F : Nat × List Nat → PR} {z : Nat × List Nat} (h : bindP (lb0 g n w j p) F = .inr z) : lb0 g n w j p = .inr (tkE g n p, []) := by
  unfold lb0 at h ⊢
  split at h
  · cases h
  · rename_i q
    rw [if_neg q]
    split at h
    · cases h
    · rename_i q2
      rw [if_neg q2]; rfl
theorem num_lt {w : WT} {nm : NT} (hP : PI w nm) {c j k : Nat} (hj : j = 1 ∨ j = 2) (h : nNum nm c j = some k) : k < w.1 j := by
  unfold nNum at h
  cases q : fst1 (fun i => decide (nm.2.1 i = c) && decide (nm.2.2.1 i = j)) nm.1 with
  | none => rw [q] at h; cases h
  | some i =>
    rw [q] at h
    have h2 : nm.2.2.2 i = k := by simpa using h
    obtain ⟨h3, h4⟩ := fst1_lt q
    rw [Bool.and_eq_true] at h4
    have h5 := of_decide_eq_true h4.2
    have h6 := hP.2.2.2.1 i h3
    rcases hj with rfl | rfl <;> omega
theorem nk_lt {w : WT} {nm : NT} (hP : PI w nm) {g : Nat → Nat} {n j k : Nat} (hj : j = 1 ∨ j = 2) {x : PR} {z : Nat × List Nat} (hl : Ln x k) (h : bindP x (sNk g n nm j) = .inr z) : z.2.getD k 0 < w.1 j := by
  cases x with
  | inl q => cases h
  | inr y =>
    cases q : isNm g n y.1 with
    | false => rw [nk_1 (x := .inr y) q] at h; cases h
    | true =>
      cases q2 : nNum nm (tkC g n y.1) j with
      | none => rw [nk_2 q q2] at h; cases h
      | some i =>
        rw [nk_0 q q2] at h
        cases h
        have := hl y.1 y.2 rfl
        subst this
        dsimp only
        rw [getD_last]
        exact num_lt hP hj q2
set_option maxRecDepth 4000 in
theorem c_X13_readOffer {K : Option Value → AH → Prop} {A : AH} {v : Value} {n p : Nat} {tp : Nat → Int32} {w : WT} {nm : NT} (hT : TA n tp A) (hA : LA (gB tp) n p A) (hM : RepM w A) (hN : RN nm A) (hP : PI w nm) (hj : lnS (gB tp) n p = some 5) (h : ∀ A', LSx (gB tp) n (lineP (gB tp) n w nm p) A' → FW A A' → K none A') : Ct yX13_readOffer mX13_readOffer 10 dM (GG v (.ref 111)) [.ref 100] A K := by
  refine Ct.of [some (.ref 100), none, none, none, none] rfl rfl rfl (Nat.le_of_ble_eq_true rfl) ?_
  have hk1 := kind1 hj
  have hr1 := hP.1 1 (by decide)
  have hr2 := hP.1 2 (by decide)
  have hrj := hP.1 5 (by decide)
  have hrn : roomN 5 = 5 := rfl
  have hb1 := hM.2.1 5 (by decide) (by decide)
  have hlp := line_of hP hj (by decide) (by decide)
  refine w_aload_n 1 dX13_readOffer_0 rfl rfl ?_
  refine w_aload_n 2 dX13_readOffer_1 rfl rfl ?_
  refine w_getr 5 dX13_readOffer_2 rfl faX13_149 rfl rfl rfl (r := .ref 111) rfl ?_
  refine w_getiv 8 dX13_readOffer_5 rfl faX13_298 rfl rfl rfl hb1 ?_
  refine w_iconst 9 dX13_readOffer_8 rfl (v := nI 5) rfl ?_
  refine w_inv2 12 dX13_readOffer_9 rfl mlX13_230 rfl rfl (d' := 2) (by decide) (Nat.le_of_ble_eq_true rfl) (c_X13_lineBegins (x := .inr (p, [])) (w := w) (b := roomN 5) hT hA (fun y e => by cases e; rw [hk1]; decide) (hM.sl hP) (by omega) (by decide) (fun A1 hS1 hF1 => ?_))
  refine w_aload_n 13 dX13_readOffer_12 rfl rfl ?_
  refine w_inv0 16 dX13_readOffer_13 rfl mlX13_251 rfl rfl (d' := 9) (by decide) (Nat.le_of_ble_eq_true rfl) (c_X13_readNails (x := (lb0 (gB tp) n w 5 p)) (k := 0) (hT.fp hF1) hS1 Ln_0 (hN.fp hF1) (fun A2 u1 hS2 hV2 hW2 hF2 => ?_))
  have hF12 := hF1.q.tr hF2
  refine w_ist1 17 dX13_readOffer_16 rfl (by decide) rfl ?_
  refine w_aload_n 18 dX13_readOffer_17 rfl rfl ?_
  refine w_getiv 21 dX13_readOffer_18 rfl faX13_185 rfl rfl rfl (v := A2.1 100 15) rfl ?_
  refine w_ist2 22 dX13_readOffer_21 rfl (by decide) rfl ?_
  refine w_aload_n 23 dX13_readOffer_22 rfl rfl ?_
  refine w_ldcS 25 dX13_readOffer_23 rfl srX13_254 ?_
  refine w_iconst 26 dX13_readOffer_25 rfl (v := nI 1) rfl ?_
  refine w_bipush 28 dX13_readOffer_26 rfl (v := nI 99) rfl ?_
  refine w_inv3 31 dX13_readOffer_28 rfl mlX13_222 rfl rfl (d' := 6) (by decide) (Nat.le_of_ble_eq_true rfl) (c_X13_readPart (x := bindP (bindP (lb0 (gB tp) n w 5 p) (sNm (gB tp) n nm 1)) (sNmC (gB tp) n nm 1 badU)) (k := 0 + 1 + 1) (j := 14) (hT.fq hF12) hS2 ((Ln_0.bd (ap_nm _ _ _ _)).bd (ap_nmc _ _ _ _ _)) (by decide) (by decide) (by decide) (fun A3 u3 hS3 hV3 hF3 => ?_))
  have hF13 := hF12.tr hF3.q
  refine w_ist3 32 dX13_readOffer_31 rfl (by decide) rfl ?_
  refine w_aload_n 33 dX13_readOffer_32 rfl rfl ?_
  refine w_ldcwS 36 dX13_readOffer_33 rfl srX13_301 ?_
  refine w_iconst 37 dX13_readOffer_36 rfl (v := nI 0) rfl ?_
  refine w_bipush 39 dX13_readOffer_37 rfl (v := nI 99) rfl ?_
  refine w_inv3 42 dX13_readOffer_39 rfl mlX13_222 rfl rfl (d' := 6) (by decide) (Nat.le_of_ble_eq_true rfl) (c_X13_readPart (x := bindP (bindP (bindP (bindP (lb0 (gB tp) n w 5 p) (sNm (gB tp) n nm 1)) (sNmC (gB tp) n nm 1 badU)) (sWd (gB tp) n 14)) (sWh (gB tp) n 1 99)) (k := 0 + 1 + 1 + 0 + 1) (j := 16) (hT.fq hF13) hS3 ((((Ln_0.bd (ap_nm _ _ _ _)).bd (ap_nmc _ _ _ _ _)).bd (ap_wd _ _ _)).bd (ap_wh _ _ _ _)) (by decide) (by decide) (by decide) (fun A4 u4 hS4 hV4 hF4 => ?_))
  have hF14 := hF13.tr hF4.q
  refine w_ist4 44 dX13_readOffer_42 rfl (by decide) rfl ?_
  refine w_aload_n 45 dX13_readOffer_44 rfl rfl ?_
  have hsx := sx_le (g := gB tp) (n := n) (x := bindP (bindP (bindP (bindP (bindP (bindP (lb0 (gB tp) n w 5 p) (sNm (gB tp) n nm 1)) (sNmC (gB tp) n nm 1 badU)) (sWd (gB tp) n 14)) (sWh (gB tp) n 1 99)) (sWd (gB tp) n 16)) (sWh (gB tp) n 0 99))
  have hch : lineP (gB tp) n w nm p = ofP (gB tp) n w nm 5 p (bindP (bindP (bindP (bindP (bindP (bindP (lb0 (gB tp) n w 5 p) (sNm (gB tp) n nm 1)) (sNmC (gB tp) n nm 1 badU)) (sWd (gB tp) n 14)) (sWh (gB tp) n 1 99)) (sWd (gB tp) n 16)) (sWh (gB tp) n 0 99)) := by
    rw [hlp]
    rw [bindP_as, bindP_as, bindP_as, bindP_as, bindP_as]
    refine congrArg _ ?_
    unfold lb0
    split
    · rfl
    · split <;> rfl
  refine w_getiv 48 dX13_readOffer_45 rfl faX13_78 rfl rfl rfl (hS4).srt ?_
  refine w_iconst 49 dX13_readOffer_48 rfl (v := nI 5) rfl ?_
  refine w_icneN 53 52 dX13_readOffer_49 rfl rfl (by omega) (by omega) (fun c49 => ?_) (fun c49 => ?_)
  · skip
    obtain ⟨z, hz⟩ := sx_n5 (by omega : ¬ sx (gB tp) n (bindP (bindP (bindP (bindP (bindP (bindP (lb0 (gB tp) n w 5 p) (sNm (gB tp) n nm 1)) (sNmC (gB tp) n nm 1 badU)) (sWd (gB tp) n 14)) (sWh (gB tp) n 1 99)) (sWd (gB tp) n 16)) (sWh (gB tp) n 0 99)) = 5)
    have hLA := SR.la hS4 hz
    rw [hz] at hch
    have hroom := line_room hj hch
    have hb3 : A4.1 111 6 = nI (w.1 5) := by rw [(hF14.1 111 (by decide)).1]; exact hb1
    refine w_aload_n 54 dX13_readOffer_53 rfl rfl ?_
    refine w_getr 57 dX13_readOffer_54 rfl faX13_149 rfl rfl rfl (r := .ref 111) rfl ?_
    refine w_getr 60 dX13_readOffer_57 rfl faX13_303 rfl rfl rfl (r := .ref 121) rfl ?_
    refine w_aload_n 61 dX13_readOffer_60 rfl rfl ?_
    refine w_getr 64 dX13_readOffer_61 rfl faX13_149 rfl rfl rfl (r := .ref 111) rfl ?_
    refine w_getiv 67 dX13_readOffer_64 rfl faX13_298 rfl rfl rfl hb3 ?_
    refine w_iload_n 68 dX13_readOffer_67 rfl rfl ?_
    refine w_iastN 69 dX13_readOffer_68 rfl rfl rfl (by decide) (by omega) ?_
    refine w_aload_n 70 dX13_readOffer_69 rfl rfl ?_
    refine w_getr 73 dX13_readOffer_70 rfl faX13_149 rfl rfl rfl (r := .ref 111) rfl ?_
    refine w_getr 76 dX13_readOffer_73 rfl faX13_306 rfl rfl rfl (r := .ref 122) rfl ?_
    refine w_aload_n 77 dX13_readOffer_76 rfl rfl ?_
    refine w_getr 80 dX13_readOffer_77 rfl faX13_149 rfl rfl rfl (r := .ref 111) rfl ?_
    refine w_getiv 83 dX13_readOffer_80 rfl faX13_298 rfl rfl rfl (v := nI (w.1 5)) (by dsimp only; rw [upd2_ne (by decide)]; exact hb3) ?_
    refine w_iload_n 84 dX13_readOffer_83 rfl rfl ?_
    refine w_iastN 85 dX13_readOffer_84 rfl rfl rfl (by decide) (by omega) ?_
    refine w_aload_n 86 dX13_readOffer_85 rfl rfl ?_
    refine w_getr 89 dX13_readOffer_86 rfl faX13_149 rfl rfl rfl (r := .ref 111) rfl ?_
    refine w_getr 92 dX13_readOffer_89 rfl faX13_309 rfl rfl rfl (r := .ref 123) rfl ?_
    refine w_aload_n 93 dX13_readOffer_92 rfl rfl ?_
    refine w_getr 96 dX13_readOffer_93 rfl faX13_149 rfl rfl rfl (r := .ref 111) rfl ?_
    refine w_getiv 99 dX13_readOffer_96 rfl faX13_298 rfl rfl rfl (v := nI (w.1 5)) (by dsimp only; rw [upd2_ne (by decide), upd2_ne (by decide)]; exact hb3) ?_
    refine w_iload_n 100 dX13_readOffer_99 rfl rfl ?_
    refine w_iastN 101 dX13_readOffer_100 rfl rfl rfl (by decide) (by omega) ?_
    refine w_aload_n 102 dX13_readOffer_101 rfl rfl ?_
    refine w_getr 105 dX13_readOffer_102 rfl faX13_149 rfl rfl rfl (r := .ref 111) rfl ?_
    refine w_getr 108 dX13_readOffer_105 rfl faX13_311 rfl rfl rfl (r := .ref 124) rfl ?_
    refine w_aload_n 109 dX13_readOffer_108 rfl rfl ?_
    refine w_getr 112 dX13_readOffer_109 rfl faX13_149 rfl rfl rfl (r := .ref 111) rfl ?_
    refine w_getiv 115 dX13_readOffer_112 rfl faX13_298 rfl rfl rfl (v := nI (w.1 5)) (by dsimp only; rw [upd2_ne (by decide), upd2_ne (by decide), upd2_ne (by decide)]; exact hb3) ?_
    refine w_iload 117 dX13_readOffer_115 rfl rfl ?_
    refine w_iastN 118 dX13_readOffer_117 rfl rfl rfl (by decide) (by omega) ?_
    refine w_aload_n 119 dX13_readOffer_118 rfl rfl ?_
    refine w_getr 122 dX13_readOffer_119 rfl faX13_149 rfl rfl rfl (r := .ref 111) rfl ?_
    refine w_dup_r 123 dX13_readOffer_122 rfl ?_
    refine w_getiv 126 dX13_readOffer_123 rfl faX13_298 rfl rfl rfl (v := nI (w.1 5)) (by dsimp only; rw [upd2_ne (by decide), upd2_ne (by decide), upd2_ne (by decide), upd2_ne (by decide)]; exact hb3) ?_
    refine w_iconst 127 dX13_readOffer_126 rfl (v := nI 1) rfl ?_
    refine w_iaddN 128 dX13_readOffer_127 rfl ?_
    refine w_puti 131 dX13_readOffer_128 rfl faX13_298 rfl rfl rfl rfl ?_
    refine wr_v dX13_readOffer_131 rfl ?_
    obtain ⟨a1, a2, a3⟩ := PV.bd (PV.bd (PV.bd (PV.bd hV2 (ap_wd _ _ _)) (ap_wh _ _ _ _)) (ap_wd _ _ _)) (ap_wh _ _ _ _) z.1 z.2 hz
    obtain ⟨b1, b2, b3⟩ := PV.bd (PV.bd (PV.bd (PV.bd hW2 (ap_wd _ _ _)) (ap_wh _ _ _ _)) (ap_wd _ _ _)) (ap_wh _ _ _ _) z.1 z.2 hz
    obtain ⟨d1, d2, d3⟩ := PV.bd (PV.bd hV3 (ap_wd _ _ _)) (ap_wh _ _ _ _) z.1 z.2 hz
    obtain ⟨f1, f2, f3⟩ := hV4 z.1 z.2 hz
    have hO : OffL [111, 121, 122, 123, 124] A4 (upd2 (upd2 (upd2 (upd2 (upd2 A4.1 121 (w.1 5) u1) 122 (w.1 5) (A2.1 100 15)) 123 (w.1 5) u3) 124 (w.1 5) u4) 111 6 (nI (w.1 5 + 1)), A4.2) := ((((OffL.rf.upd (by decide) _ _).upd (by decide) _ _).upd (by decide) _ _).upd (by decide) _ _).upd (by decide) _ _
    have hM9 : RepM (addW w 5 (fun k => z.2.getD k 0)) (upd2 (upd2 (upd2 (upd2 (upd2 A4.1 121 (w.1 5) u1) 122 (w.1 5) (A2.1 100 15)) 123 (w.1 5) u3) 124 (w.1 5) u4) 111 6 (nI (w.1 5 + 1)), A4.2) := RepM.a5 (hM.fq hF14) (fun k hk _ => by dsimp only; rw [upd2_off hk, upd2_ne (by decide), upd2_ne (by decide), upd2_ne (by decide), upd2_ne (by decide)]) (by dsimp only; rw [upd2_at]) (fun x _ _ e1 e2 e3 e4 => by exact (hO x (by simp; omega)).1) (fun i => by simp only [upd2, a3]; simp) (fun i => by simp only [upd2, b3]; simp) (fun i => by simp only [upd2, d3]; simp) (fun i => by simp only [upd2, f3]; simp)
    refine h _ ?_ (hF14.w.tr (FW.o hO (by decide) (by decide)))
    rw [hch]
    exact ⟨hLA.o (hO 100 (by decide)).1 (hO 100 (by decide)).2, hM9, (hN.fq hF14).o (by dsimp only; rw [upd2_off (by decide), upd2_ne (by decide), upd2_ne (by decide), upd2_ne (by decide), upd2_ne (by decide)]) (hO 130 (by decide)).2 (hO 131 (by decide)).1 (hO 132 (by decide)).1⟩
  · skip
    obtain ⟨z, hz⟩ := sx_5 (by omega : sx (gB tp) n (bindP (bindP (bindP (bindP (bindP (bindP (lb0 (gB tp) n w 5 p) (sNm (gB tp) n nm 1)) (sNmC (gB tp) n nm 1 badU)) (sWd (gB tp) n 14)) (sWh (gB tp) n 1 99)) (sWd (gB tp) n 16)) (sWh (gB tp) n 0 99)) = 5)
    refine wr_v dX13_readOffer_52 rfl ?_
    have h9 := hS4
    rw [hz] at h9 hch
    exact h _ (by rw [hch]; exact h9) (hF14.w)

set_option maxRecDepth 4000 in
theorem c_X13_readNail {K : Option Value → AH → Prop} {A : AH} {v : Value} {n p : Nat} {tp : Nat → Int32} {w : WT} {nm : NT} (hT : TA n tp A) (hA : LA (gB tp) n p A) (hM : RepM w A) (hN : RN nm A) (hP : PI w nm) (hj : lnS (gB tp) n p = some 1) (h : ∀ A', LSx (gB tp) n (lineP (gB tp) n w nm p) A' → FW A A' → K none A') : Ct yX13_readNail mX13_readNail 8 dM (GG v (.ref 111)) [.ref 100] A K := by
  refine Ct.of [some (.ref 100), none, none] rfl rfl rfl (Nat.le_of_ble_eq_true rfl) ?_
  have hk1 := kind1 hj
  have hr1 := hP.1 1 (by decide)
  have hr2 := hP.1 2 (by decide)
  have hrj := hP.1 1 (by decide)
  have hrn : roomN 1 = 7 := rfl
  have hb1 := hM.2.1 1 (by decide) (by decide)
  have hlp := line_of hP hj (by decide) (by decide)
  refine w_aload_n 1 dX13_readNail_0 rfl rfl ?_
  refine w_aload_n 2 dX13_readNail_1 rfl rfl ?_
  refine w_getr 5 dX13_readNail_2 rfl faX13_149 rfl rfl rfl (r := .ref 111) rfl ?_
  refine w_getiv 8 dX13_readNail_5 rfl faX13_194 rfl rfl rfl hb1 ?_
  refine w_bipush 10 dX13_readNail_8 rfl (v := nI 7) rfl ?_
  refine w_inv2 13 dX13_readNail_10 rfl mlX13_230 rfl rfl (d' := 2) (by decide) (Nat.le_of_ble_eq_true rfl) (c_X13_lineBegins (x := .inr (p, [])) (w := w) (b := roomN 1) hT hA (fun y e => by cases e; rw [hk1]; decide) (hM.sl hP) (by omega) (by decide) (fun A1 hS1 hF1 => ?_))
  refine w_aload_n 14 dX13_readNail_13 rfl rfl ?_
  refine w_inv0 17 dX13_readNail_14 rfl mlX13_234 rfl rfl (d' := 7) (by decide) (Nat.le_of_ble_eq_true rfl) (c_X13_readFresh (x := (lb0 (gB tp) n w 1 p)) (hT.fp hF1) hS1 (hN.fp hF1) (fun A2 u1 hS2 hV2 hF2 => ?_))
  have hF12 := hF1.q.tr hF2.q
  refine w_lst1 18 dX13_readNail_17 rfl (by decide) rfl ?_
  refine w_aload_n 19 dX13_readNail_18 rfl rfl ?_
  have hsx := sx_le (g := gB tp) (n := n) (x := bindP (lb0 (gB tp) n w 1 p) (sFr (gB tp) n nm))
  have hch : lineP (gB tp) n w nm p = ofP (gB tp) n w nm 1 p (bindP (lb0 (gB tp) n w 1 p) (sFr (gB tp) n nm)) := by
    rw [hlp]
    refine congrArg _ ?_
    unfold lb0
    split
    · rfl
    · split <;> rfl
  refine w_getiv 22 dX13_readNail_19 rfl faX13_78 rfl rfl rfl (hS2).srt ?_
  refine w_iconst 23 dX13_readNail_22 rfl (v := nI 5) rfl ?_
  refine w_icneN 27 26 dX13_readNail_23 rfl rfl (by omega) (by omega) (fun c23 => ?_) (fun c23 => ?_)
  · skip
    obtain ⟨z, hz⟩ := sx_n5 (by omega : ¬ sx (gB tp) n (bindP (lb0 (gB tp) n w 1 p) (sFr (gB tp) n nm)) = 5)
    have hLA := SR.la hS2 hz
    rw [hz] at hch
    have hroom := line_room hj hch
    obtain ⟨hu, hcl⟩ := hV2 _ z (lb0_inr hz) hz
    have hu : u1 = lN (tkC (gB tp) n (tkE (gB tp) n p)) := hu
    subst hu
    have hPI := lineP_PI hP hch
    have hr2v : roomN 2 = 7 := rfl
    have hb2 : A2.1 111 2 = nI (w.1 1) := by rw [(hF12.1 111 (by decide)).1]; exact hb1
    refine w_aload_n 28 dX13_readNail_27 rfl rfl ?_
    refine w_lload_n 29 dX13_readNail_28 rfl rfl ?_
    refine w_iconst 30 dX13_readNail_29 rfl (v := nI 0) rfl ?_
    refine w_aload_n 31 dX13_readNail_30 rfl rfl ?_
    refine w_getr 34 dX13_readNail_31 rfl faX13_149 rfl rfl rfl (r := .ref 111) rfl ?_
    refine w_getiv 37 dX13_readNail_34 rfl faX13_194 rfl rfl rfl hb2 ?_
    refine w_inv3 40 dX13_readNail_37 rfl mlX13_238 rfl rfl (d' := 0) (by decide) (Nat.le_of_ble_eq_true rfl) (c_X13_names (c := (tkC (gB tp) n (tkE (gB tp) n p))) (j := 0) (k := w.1 1) (hN.fq hF12) (by have := hP.2.1; omega) hcl (by decide) (by omega) hPI.2.2.2.2 (fun A3 hN3 hO3 h3 => ?_))
    refine w_aload_n 41 dX13_readNail_40 rfl rfl ?_
    refine w_getr 44 dX13_readNail_41 rfl faX13_149 rfl rfl rfl (r := .ref 111) rfl ?_
    refine w_dup_r 45 dX13_readNail_44 rfl ?_
    refine w_getiv 48 dX13_readNail_45 rfl faX13_194 rfl rfl rfl (v := nI (w.1 1)) (by rw [h3 2 (by decide)]; exact hb2) ?_
    refine w_iconst 49 dX13_readNail_48 rfl (v := nI 1) rfl ?_
    refine w_iaddN 50 dX13_readNail_49 rfl ?_
    refine w_puti 53 dX13_readNail_50 rfl faX13_194 rfl rfl rfl rfl ?_
    refine wr_v dX13_readNail_53 rfl ?_
    have hO : OffL [111] A3 (upd2 A3.1 111 2 (nI (w.1 1 + 1)), A3.2) := OffL.rf.upd (by decide) _ _
    have hM9 : RepM (addW w 1 (fun k => z.2.getD k 0)) (upd2 A3.1 111 2 (nI (w.1 1 + 1)), A3.2) := RepM.a1 (hM.fq hF12) (fun k hk h10 => by dsimp only; rw [upd2_off hk]; exact h3 k h10) (by dsimp only; rw [upd2_at]) (fun x e1 e2 => by dsimp only; rw [upd2_ne (by omega)]; exact (hO3 x (by simp; omega)).1)
    refine h _ ?_ (hF12.w.tr ((FW.o hO3 (by decide) (by decide)).tr (FW.o hO (by decide) (by decide))))
    rw [hch]
    exact ⟨(hLA.o (hO3 100 (by decide)).1 (hO3 100 (by decide)).2).o (hO 100 (by decide)).1 (hO 100 (by decide)).2, hM9, (show RN (nAdd nm (tkC (gB tp) n (tkE (gB tp) n p)) 1 (w.1 1)) A3 from hN3).o (by dsimp only; rw [upd2_off (by decide)]) (hO 130 (by decide)).2 (hO 131 (by decide)).1 (hO 132 (by decide)).1⟩
  · skip
    obtain ⟨z, hz⟩ := sx_5 (by omega : sx (gB tp) n (bindP (lb0 (gB tp) n w 1 p) (sFr (gB tp) n nm)) = 5)
    refine wr_v dX13_readNail_26 rfl ?_
    have h9 := hS2
    rw [hz] at h9 hch
    exact h _ (by rw [hch]; exact h9) (hF12.w)

set_option maxRecDepth 4000 in
theorem p_X12_unsureOf {K : Option Value → AH → Prop} {A : AH} {v : Value} {w : WT} {t : Nat} (hM : RepM w A) (h5 : w.1 6 ≤ 5) (he : ∀ k, k < w.1 6 → w.2 6 k 0 < 1000) (ht : t < 1000) (h : K (some (.int (encO (fst1 (fun k => decide (w.2 6 k 0 = t)) (w.1 6))))) A) : Ct yX12_unsureOf mX12_unsureOf 0 dM (GG v (.ref 111)) [.ref 111, .int (nI t)] A K := by
  refine Ct.of [some (.ref 111), some (.int (nI t)), none] rfl rfl rfl (Nat.le_of_ble_eq_true rfl) ?_
  have lp2 : ∀ (nf : Nat) (i : Nat), i ≤ w.1 6 → fst1 (fun k => decide (w.2 6 k 0 = t)) i = none → w.1 6 - i < nf → WP mX12_unsureOf 0 dM (GG v (.ref 111)) 2 [some (.ref 111), some (.int (nI t)), some (.int (nI i))] [] A K := by
    intro nf
    induction nf with
    | zero => intros; omega
    | succ nf ih =>
      intro i hi hf hms
      refine w_iload_n 3 dX12_unsureOf_2 rfl rfl ?_
      refine w_aload_n 4 dX12_unsureOf_3 rfl rfl ?_
      refine w_getiv 7 dX12_unsureOf_4 rfl faX12_83 rfl rfl rfl (hM.2.1 6 (by decide) (by decide)) ?_
      refine w_icgeN 28 10 dX12_unsureOf_7 rfl rfl (by omega) (by omega) (fun c7 => ?_) (fun c7 => ?_)
      · skip
        refine w_iconst 29 dX12_unsureOf_28 rfl (v := (-1)) rfl ?_
        refine wr_i dX12_unsureOf_29 rfl ?_
        have e : i = w.1 6 := by omega
        subst e
        exact kq h (by rw [hf]; rfl)
      · skip
        refine w_aload_n 11 dX12_unsureOf_10 rfl rfl ?_
        refine w_getr 14 dX12_unsureOf_11 rfl faX12_61 rfl rfl rfl (r := .ref 127) rfl ?_
        refine w_iload_n 15 dX12_unsureOf_14 rfl rfl ?_
        have he1 := he i c7
        refine w_ialdv 16 dX12_unsureOf_15 rfl rfl rfl (by decide) (by omega) (hM.2.2.2.2.2.2.2.1 i c7) ?_
        refine w_iload_n 17 dX12_unsureOf_16 rfl rfl ?_
        refine w_icneN 22 20 dX12_unsureOf_17 rfl rfl (by omega) (by omega) (fun c17 => ?_) (fun c17 => ?_)
        · skip
          refine w_inc2 25 dX12_unsureOf_22 rfl (by decide) rfl (v := nI (_ + 1)) (nI_1 _) ?_
          refine w_goto 2 dX12_unsureOf_25 rfl ?_
          exact ih (i + 1) (by omega) (by simp [fst1, hf, c17]) (by omega)
        · skip
          refine w_iload_n 21 dX12_unsureOf_20 rfl rfl ?_
          refine wr_i dX12_unsureOf_21 rfl ?_
          exact kq h (by rw [fst1_some hf (decide_eq_true c17) c7]; rfl)
  refine w_iconst 1 dX12_unsureOf_0 rfl (v := nI 0) rfl ?_
  refine w_ist2 2 dX12_unsureOf_1 rfl (by decide) rfl ?_
  exact lp2 _ 0 (Nat.zero_le _) rfl (Nat.lt_succ_self _)

set_option maxRecDepth 4000 in
theorem a_X13_readUnsure {K : Option Value → AH → Prop} {A : AH} {v : Value} {n p : Nat} {tp : Nat → Int32} {w : WT} {nm : NT} {u1 : Int32} (hM : RepM w A) (hN : RN nm A) (hP : PI w nm) (hj : lnS (gB tp) n p = some 6) (hS : SR (gB tp) n (bindP (lb0 (gB tp) n w 6 p) (sNmC (gB tp) n nm 2 (badQ w))) A) (hV : PV (bindP (lb0 (gB tp) n w 6 p) (sNmC (gB tp) n nm 2 (badQ w))) 0 u1) (hlp : lineP (gB tp) n w nm p = ofP (gB tp) n w nm 6 p (bindP (lb0 (gB tp) n w 6 p) (fun y => lineB (gB tp) n w nm 6 y.1))) (h : ∀ A', LSx (gB tp) n (lineP (gB tp) n w nm p) A' → FW A A' → K none A') : WP mX13_readUnsure 8 dM (GG v (.ref 111)) 47 [some (.ref 100), some (.int u1)] [] A K := by
  have hrj := hP.1 6 (by decide)
  have hrn : roomN 6 = 5 := rfl
  have hb1 := hM.2.1 6 (by decide) (by decide)
  refine w_aload_n 48 dX13_readUnsure_47 rfl rfl ?_
  have hsx := sx_le (g := gB tp) (n := n) (x := bindP (lb0 (gB tp) n w 6 p) (sNmC (gB tp) n nm 2 (badQ w)))
  have hch : lineP (gB tp) n w nm p = ofP (gB tp) n w nm 6 p (bindP (lb0 (gB tp) n w 6 p) (sNmC (gB tp) n nm 2 (badQ w))) := by
    rw [hlp]
    refine congrArg _ ?_
    unfold lb0
    split
    · rfl
    · split <;> rfl
  refine w_getiv 51 dX13_readUnsure_48 rfl faX13_78 rfl rfl rfl (hS).srt ?_
  refine w_iconst 52 dX13_readUnsure_51 rfl (v := nI 5) rfl ?_
  refine w_icneN 56 55 dX13_readUnsure_52 rfl rfl (by omega) (by omega) (fun c52 => ?_) (fun c52 => ?_)
  · skip
    obtain ⟨z, hz⟩ := sx_n5 (by omega : ¬ sx (gB tp) n (bindP (lb0 (gB tp) n w 6 p) (sNmC (gB tp) n nm 2 (badQ w))) = 5)
    have hLA := SR.la hS hz
    rw [hz] at hch
    have hroom := line_room hj hch
    refine w_aload_n 57 dX13_readUnsure_56 rfl rfl ?_
    refine w_getr 60 dX13_readUnsure_57 rfl faX13_149 rfl rfl rfl (r := .ref 111) rfl ?_
    refine w_getr 63 dX13_readUnsure_60 rfl faX13_319 rfl rfl rfl (r := .ref 127) rfl ?_
    refine w_aload_n 64 dX13_readUnsure_63 rfl rfl ?_
    refine w_getr 67 dX13_readUnsure_64 rfl faX13_149 rfl rfl rfl (r := .ref 111) rfl ?_
    refine w_getiv 70 dX13_readUnsure_67 rfl faX13_313 rfl rfl rfl hb1 ?_
    refine w_iload_n 71 dX13_readUnsure_70 rfl rfl ?_
    refine w_iastN 72 dX13_readUnsure_71 rfl rfl rfl (by decide) (by omega) ?_
    refine w_aload_n 73 dX13_readUnsure_72 rfl rfl ?_
    refine w_getr 76 dX13_readUnsure_73 rfl faX13_149 rfl rfl rfl (r := .ref 111) rfl ?_
    refine w_dup_r 77 dX13_readUnsure_76 rfl ?_
    refine w_getiv 80 dX13_readUnsure_77 rfl faX13_313 rfl rfl rfl (v := nI (w.1 6)) (by dsimp only; rw [upd2_ne (by decide)]; exact hb1) ?_
    refine w_iconst 81 dX13_readUnsure_80 rfl (v := nI 1) rfl ?_
    refine w_iaddN 82 dX13_readUnsure_81 rfl ?_
    refine w_puti 85 dX13_readUnsure_82 rfl faX13_313 rfl rfl rfl rfl ?_
    refine wr_v dX13_readUnsure_85 rfl ?_
    obtain ⟨a1, a2, a3⟩ := hV z.1 z.2 hz
    have hO : OffL [111, 127] A (upd2 (upd2 A.1 127 (w.1 6) u1) 111 7 (nI (w.1 6 + 1)), A.2) := (OffL.rf.upd (by decide) _ _).upd (by decide) _ _
    have hM9 : RepM (addW w 6 (fun k => z.2.getD k 0)) (upd2 (upd2 A.1 127 (w.1 6) u1) 111 7 (nI (w.1 6 + 1)), A.2) := RepM.a6 hM (fun k hk _ => by dsimp only; rw [upd2_off hk, upd2_ne (by decide)]) (by dsimp only; rw [upd2_at]) (fun x _ _ e1 => by exact (hO x (by simp; omega)).1) (fun i => by simp only [upd2, a3]; simp)
    refine h _ ?_ (FW.o hO (by decide) (by decide))
    rw [hch]
    exact ⟨hLA.o (hO 100 (by decide)).1 (hO 100 (by decide)).2, hM9, hN.o (by dsimp only; rw [upd2_off (by decide), upd2_ne (by decide)]) (hO 130 (by decide)).2 (hO 131 (by decide)).1 (hO 132 (by decide)).1⟩
  · skip
    obtain ⟨z, hz⟩ := sx_5 (by omega : sx (gB tp) n (bindP (lb0 (gB tp) n w 6 p) (sNmC (gB tp) n nm 2 (badQ w))) = 5)
    refine wr_v dX13_readUnsure_55 rfl ?_
    have h9 := hS
    rw [hz] at h9 hch
    exact h _ (by rw [hch]; exact h9) (FQ.rf.w)

set_option maxRecDepth 4000 in
theorem c_X13_readUnsure {K : Option Value → AH → Prop} {A : AH} {v : Value} {n p : Nat} {tp : Nat → Int32} {w : WT} {nm : NT} (hT : TA n tp A) (hA : LA (gB tp) n p A) (hM : RepM w A) (hN : RN nm A) (hP : PI w nm) (hj : lnS (gB tp) n p = some 6) (h : ∀ A', LSx (gB tp) n (lineP (gB tp) n w nm p) A' → FW A A' → K none A') : Ct yX13_readUnsure mX13_readUnsure 8 dM (GG v (.ref 111)) [.ref 100] A K := by
  refine Ct.of [some (.ref 100), none] rfl rfl rfl (Nat.le_of_ble_eq_true rfl) ?_
  have hk1 := kind1 hj
  have hr1 := hP.1 1 (by decide)
  have hr2 := hP.1 2 (by decide)
  have hrj := hP.1 6 (by decide)
  have hrn : roomN 6 = 5 := rfl
  have hb1 := hM.2.1 6 (by decide) (by decide)
  have hlp := line_of hP hj (by decide) (by decide)
  refine w_aload_n 1 dX13_readUnsure_0 rfl rfl ?_
  refine w_aload_n 2 dX13_readUnsure_1 rfl rfl ?_
  refine w_getr 5 dX13_readUnsure_2 rfl faX13_149 rfl rfl rfl (r := .ref 111) rfl ?_
  refine w_getiv 8 dX13_readUnsure_5 rfl faX13_313 rfl rfl rfl hb1 ?_
  refine w_iconst 9 dX13_readUnsure_8 rfl (v := nI 5) rfl ?_
  refine w_inv2 12 dX13_readUnsure_9 rfl mlX13_230 rfl rfl (d' := 2) (by decide) (Nat.le_of_ble_eq_true rfl) (c_X13_lineBegins (x := .inr (p, [])) (w := w) (b := roomN 6) hT hA (fun y e => by cases e; rw [hk1]; decide) (hM.sl hP) (by omega) (by decide) (fun A1 hS1 hF1 => ?_))
  refine w_aload_n 13 dX13_readUnsure_12 rfl rfl ?_
  refine w_iconst 14 dX13_readUnsure_13 rfl (v := nI 1) rfl ?_
  refine w_inv1 17 dX13_readUnsure_14 rfl mlX13_179 rfl rfl (d' := 7) (by decide) (Nat.le_of_ble_eq_true rfl) (c_X13_knownOne (x := (lb0 (gB tp) n w 6 p)) (k := 0) (j := 1) (hT.fp hF1) hS1 Ln_0 (hN.fp hF1) (by decide) (fun A2 u1 hS2 hV2 hF2 => ?_))
  have hS2 : SR (gB tp) n (bindP (lb0 (gB tp) n w 6 p) (sNk (gB tp) n nm 2)) A2 := hS2
  have hV2 : PV (bindP (lb0 (gB tp) n w 6 p) (sNk (gB tp) n nm 2)) 0 u1 := hV2
  have hF12 := hF1.q.tr hF2.q
  have hsy := sx_le (g := gB tp) (n := n) (x := bindP (lb0 (gB tp) n w 6 p) (sNk (gB tp) n nm 2))
  refine w_ist1 18 dX13_readUnsure_17 rfl (by decide) rfl ?_
  refine w_aload_n 19 dX13_readUnsure_18 rfl rfl ?_
  refine w_getiv 22 dX13_readUnsure_19 rfl faX13_78 rfl rfl rfl hS2.srt ?_
  refine w_iconst 23 dX13_readUnsure_22 rfl (v := nI 5) rfl ?_
  refine w_iceqN 43 26 dX13_readUnsure_23 rfl rfl (by omega) (by omega) (fun c23 => ?_) (fun c23 => ?_)
  · skip
    obtain ⟨z, hz⟩ := sx_5 (by omega : sx (gB tp) n (bindP (lb0 (gB tp) n w 6 p) (sNk (gB tp) n nm 2)) = 5)
    rw [hz] at hS2
    refine w_aload_n 44 dX13_readUnsure_43 rfl rfl ?_
    refine w_inv0 47 dX13_readUnsure_44 rfl mlX13_114 rfl rfl (d' := 1) (by decide) (Nat.le_of_ble_eq_true rfl) (s_X13_goesOn (hT.fq hF12) (hS2) (fun y e => by cases e) (fun A4 hS4 hF4 => ?_))
    have er : bindP (lb0 (gB tp) n w 6 p) (sNmC (gB tp) n nm 2 (badQ w)) = .inl z := by rw [nmC_nk, hz]; rfl
    exact a_X13_readUnsure (hM.fq (hF12.tr hF4.q)) (hN.fq (hF12.tr hF4.q)) hP hj (by rw [er]; exact hS4) (by rw [er]; intro p l e; cases e) hlp (fun A5 h5 hF5 => h A5 h5 ((hF12.tr hF4.q).w.tr hF5))
  · skip
    obtain ⟨z, hz⟩ := sx_n5 (by omega : ¬ sx (gB tp) n (bindP (lb0 (gB tp) n w 6 p) (sNk (gB tp) n nm 2)) = 5)
    obtain ⟨a1, a2, a3⟩ := hV2 z.1 z.2 hz
    have hzk := nk_k z hz
    rw [hz] at hS2
    subst a3
    refine w_aload_n 27 dX13_readUnsure_26 rfl rfl ?_
    refine w_getr 30 dX13_readUnsure_27 rfl faX13_149 rfl rfl rfl (r := .ref 111) rfl ?_
    refine w_iload_n 31 dX13_readUnsure_30 rfl rfl ?_
    refine w_inv1 34 dX13_readUnsure_31 rfl mlX13_316 rfl rfl (d' := 0) (by decide) (Nat.le_of_ble_eq_true rfl) (p_X12_unsureOf (hM.fq hF12) (by omega) (fun k hk => (hP.2.2.1 6 k (by decide) hk).2 0 (by decide)) a2 ?_)
    refine w_iconst 35 dX13_readUnsure_34 rfl (v := (-1)) rfl ?_
    refine w_iceq 43 38 dX13_readUnsure_35 rfl rfl (fun c35 => ?_) (fun c35 => ?_)
    · skip
      refine w_aload_n 44 dX13_readUnsure_43 rfl rfl ?_
      refine w_inv0 47 dX13_readUnsure_44 rfl mlX13_114 rfl rfl (d' := 1) (by decide) (Nat.le_of_ble_eq_true rfl) (s_X13_goesOn (hT.fq hF12) (hS2) (fun y e => by cases e; exact hzk) (fun A4 hS4 hF4 => ?_))
      have hq : badQ w z.2 = false := by unfold badQ; rw [(enc_m1 (fun v hv => by have := (fst1_lt hv).1; omega)).mp c35]; rfl
      have er : bindP (lb0 (gB tp) n w 6 p) (sNmC (gB tp) n nm 2 (badQ w)) = .inr (tkE (gB tp) n z.1, z.2) := by
        rw [nmC_nk, hz]
        show (if badQ w z.2 then _ else _) = _
        rw [hq]; rfl
      exact a_X13_readUnsure (hM.fq (hF12.tr hF4.q)) (hN.fq (hF12.tr hF4.q)) hP hj (by rw [er]; exact hS4) (by rw [er]; intro p l e; cases e; exact ⟨a1, a2, rfl⟩) hlp (fun A5 h5 hF5 => h A5 h5 ((hF12.tr hF4.q).w.tr hF5))
    · skip
      refine w_aload_n 39 dX13_readUnsure_38 rfl rfl ?_
      refine w_iconst 40 dX13_readUnsure_39 rfl (v := nI 3) rfl ?_
      refine w_inv1 43 dX13_readUnsure_40 rfl mlX13_117 rfl rfl (d' := 0) (by decide) (Nat.le_of_ble_eq_true rfl) (s_X13_flaw (by decide) hS2 (fun A6 hS6 hF6 => ?_))
      refine w_aload_n 44 dX13_readUnsure_43 rfl rfl ?_
      refine w_inv0 47 dX13_readUnsure_44 rfl mlX13_114 rfl rfl (d' := 1) (by decide) (Nat.le_of_ble_eq_true rfl) (s_X13_goesOn (hT.fq (hF12.tr hF6.q)) (hS6) (fl_k) (fun A4 hS4 hF4 => ?_))
      have hq : badQ w z.2 = true := by
        unfold badQ
        cases q : fst1 (fun k => decide (w.2 6 k 0 = z.2.getD 0 0)) (w.1 6) with
        | none => rw [q] at c35; exact absurd rfl c35
        | some k => rfl
      have er : bindP (lb0 (gB tp) n w 6 p) (sNmC (gB tp) n nm 2 (badQ w)) = .inl (3, tkS (gB tp) n z.1) := by
        rw [nmC_nk, hz]
        show (if badQ w z.2 then _ else _) = _
        rw [hq]; rfl
      exact a_X13_readUnsure (hM.fq ((hF12.tr hF6.q).tr hF4.q)) (hN.fq ((hF12.tr hF6.q).tr hF4.q)) hP hj (by rw [er]; exact hS4) (by rw [er]; intro p l e; cases e) hlp (fun A5 h5 hF5 => h A5 h5 (((hF12.tr hF6.q).tr hF4.q).w.tr hF5))

