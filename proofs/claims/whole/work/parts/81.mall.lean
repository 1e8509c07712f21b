/-! ===== the reference reads: web, any line, all ===== -/
theorem RepM.a0 {w : WT} {A A' : AH} {row : Nat → Nat} (h : RepM w A) (h0 : w.1 0 = 0) (h111 : ∀ k, k ≠ 0 → k ≠ 1 → A'.1 111 k = A.1 111 k) (e0 : A'.1 111 0 = nI (row 0)) (e1 : A'.1 111 1 = nI (row 1)) (hoff : ∀ x, 112 ≤ x → x ≤ 129 → A'.1 x = A.1 x) : RepM (addW w 0 row) A' := by
  obtain ⟨⟨a1, a2, a3⟩, b, c2, c3, c4, c5, c6, c7, c8⟩ := h
  have z0 : ∀ c, (addW w 0 row).2 0 0 c = row c := fun c => if_pos ⟨rfl, h0.symm⟩
  have z1 : (addW w 0 row).1 0 = 1 := by rw [addW_cnt, if_pos rfl, h0]
  refine ⟨⟨?_, ?_, ?_⟩, ?_, ?_, ?_, ?_, ?_, ?_, ?_, ?_⟩
  · rw [e0, z1, z0]; rfl
  · rw [e1, tbz, z1, z0]; rfl
  · rw [h111 9 (by decide) (by decide)]; exact a3
  · intro J h1 h8
    rw [h111 (J + 1) (by omega) (by omega), b J h1 h8]
    show nI (w.1 J) = nI (if J = 0 then _ else w.1 J)
    rw [if_neg (by omega)]
  · intro k hk; rw [hoff 112 (by decide) (by decide), hoff 113 (by decide) (by decide), hoff 114 (by decide) (by decide), hoff 115 (by decide) (by decide), hoff 116 (by decide) (by decide)]; exact c2 k hk
  · intro t ht
    rw [hoff 117 (by decide) (by decide)]
    have e : foesTo (addW w 0 row) t ((addW w 0 row).1 3) = foesTo w t (w.1 3) := foes_eq (w := w) (w' := addW w 0 row) (fun _ _ => rfl) (w.1 3)
    rw [e]
    exact c3 t ht
  · intro k hk; rw [hoff 118 (by decide) (by decide), hoff 119 (by decide) (by decide), hoff 120 (by decide) (by decide)]; exact c4 k hk
  · intro k hk; rw [hoff 121 (by decide) (by decide), hoff 122 (by decide) (by decide), hoff 123 (by decide) (by decide), hoff 124 (by decide) (by decide)]; exact c5 k hk
  · intro k hk; rw [hoff 125 (by decide) (by decide), hoff 126 (by decide) (by decide)]; exact c6 k hk
  · intro k hk; rw [hoff 127 (by decide) (by decide)]; exact c7 k hk
  · intro k hk; rw [hoff 128 (by decide) (by decide), hoff 129 (by decide) (by decide)]; exact c8 k hk
def wb0 (g : Nat → Nat) (n : Nat) (w : WT) (p : Nat) : PR := if w.1 0 = 0 then adP g n (.inr (p, [])) else flP g n 3 (.inr (p, []))
theorem Ln_w {g : Nat → Nat} {n p : Nat} {w : WT} : Ln (wb0 g n w p) 0 := by
  intro q l e
  unfold wb0 at e
  split at e <;> cases e
  rfl
theorem line_w {g : Nat → Nat} {n p : Nat} {w : WT} {nm : NT} (hj : lnS g n p = some 0) : lineP g n w nm p = ofP g n w nm 0 p (bindP (wb0 g n w p) (fun y => lineB g n w nm 0 y.1)) := by
  have hr : roomN 0 = 1 := rfl
  unfold lineP wb0
  rw [hj]
  dsimp only
  by_cases q : w.1 0 = 0
  · rw [if_neg (fun z => by omega), if_neg (by omega), if_neg (fun z => z.1 rfl), if_pos q]
    show _ = ofP g n w nm 0 p (lineB g n w nm 0 (tkE g n p))
    cases lineB g n w nm 0 (tkE g n p) <;> rfl
  · rw [if_pos ⟨rfl, by omega⟩, if_neg q]; rfl
theorem wb0_inr {g : Nat → Nat} {n p : Nat} {w : WT} {F : Nat × List Nat → PR} {z : Nat × List Nat} (h : bindP (wb0 g n w p) F = .inr z) : w.1 0 = 0 := by
  unfold wb0 at h
  split at h
  · assumption
  · cases h
set_option maxRecDepth 4000 in
theorem a_X13_readWeb {K : Option Value → AH → Prop} {A : AH} {v : Value} {n p : Nat} {tp : Nat → Int32} {w : WT} {nm : NT} (hT : TA n tp A) (hM : RepM w A) (hN : RN nm A) (hj : lnS (gB tp) n p = some 0) (hS1 : SR (gB tp) n (wb0 (gB tp) n w p) A) (h : ∀ A', LSx (gB tp) n (lineP (gB tp) n w nm p) A' → FW A A' → K none A') : WP mX13_readWeb 7 dM (GG v (.ref 111)) 20 [some (.ref 100), none, none] [] A K := by
  have hlp := line_w (w := w) (nm := nm) hj
  refine w_aload_n 21 dX13_readWeb_20 rfl rfl ?_
  refine w_ldcS 23 dX13_readWeb_21 rfl srX13_221 ?_
  refine w_iconst 24 dX13_readWeb_23 rfl (v := nI 0) rfl ?_
  refine w_bipush 26 dX13_readWeb_24 rfl (v := nI 100) rfl ?_
  refine w_inv3 29 dX13_readWeb_26 rfl mlX13_222 rfl rfl (d' := 6) (by decide) (Nat.le_of_ble_eq_true rfl) (c_X13_readPart (x := (wb0 (gB tp) n w p)) (k := 0) (j := 8) hT hS1 Ln_w (by decide) (by decide) (by decide) (fun A2 u1 hS2 hV2 hF2 => ?_))
  refine w_ist1 30 dX13_readWeb_29 rfl (by decide) rfl ?_
  refine w_aload_n 31 dX13_readWeb_30 rfl rfl ?_
  refine w_ldcS 33 dX13_readWeb_31 rfl srX13_226 ?_
  refine w_iconst 34 dX13_readWeb_33 rfl (v := nI 0) rfl ?_
  refine w_bipush 36 dX13_readWeb_34 rfl (v := nI 100) rfl ?_
  refine w_inv3 39 dX13_readWeb_36 rfl mlX13_222 rfl rfl (d' := 6) (by decide) (Nat.le_of_ble_eq_true rfl) (c_X13_readPart (x := bindP (bindP (wb0 (gB tp) n w p) (sWd (gB tp) n 8)) (sWh (gB tp) n 0 100)) (k := 0 + 0 + 1) (j := 9) (hT.fp hF2) hS2 ((Ln_w.bd (ap_wd _ _ _)).bd (ap_wh _ _ _ _)) (by decide) (by decide) (by decide) (fun A3 u2 hS3 hV3 hF3 => ?_))
  have hF23 := hF2.q.tr hF3.q
  refine w_ist2 40 dX13_readWeb_39 rfl (by decide) rfl ?_
  refine w_aload_n 41 dX13_readWeb_40 rfl rfl ?_
  have hsx := sx_le (g := gB tp) (n := n) (x := bindP (bindP (bindP (bindP (wb0 (gB tp) n w p) (sWd (gB tp) n 8)) (sWh (gB tp) n 0 100)) (sWd (gB tp) n 9)) (sWh (gB tp) n 0 100))
  have hch : lineP (gB tp) n w nm p = ofP (gB tp) n w nm 0 p (bindP (bindP (bindP (bindP (wb0 (gB tp) n w p) (sWd (gB tp) n 8)) (sWh (gB tp) n 0 100)) (sWd (gB tp) n 9)) (sWh (gB tp) n 0 100)) := by
    rw [hlp]
    rw [bindP_as, bindP_as, bindP_as]
    refine congrArg _ ?_
    unfold wb0
    split <;> rfl
  refine w_getiv 44 dX13_readWeb_41 rfl faX13_78 rfl rfl rfl (hS3).srt ?_
  refine w_iconst 45 dX13_readWeb_44 rfl (v := nI 5) rfl ?_
  refine w_icneN 49 48 dX13_readWeb_45 rfl rfl (by omega) (by omega) (fun c45 => ?_) (fun c45 => ?_)
  · skip
    obtain ⟨z, hz⟩ := sx_n5 (by omega : ¬ sx (gB tp) n (bindP (bindP (bindP (bindP (wb0 (gB tp) n w p) (sWd (gB tp) n 8)) (sWh (gB tp) n 0 100)) (sWd (gB tp) n 9)) (sWh (gB tp) n 0 100)) = 5)
    have hLA := SR.la hS3 hz
    rw [hz] at hch
    have hroom := line_room hj hch
    refine w_aload_n 50 dX13_readWeb_49 rfl rfl ?_
    refine w_getr 53 dX13_readWeb_50 rfl faX13_149 rfl rfl rfl (r := .ref 111) rfl ?_
    refine w_iload_n 54 dX13_readWeb_53 rfl rfl ?_
    refine w_puti 57 dX13_readWeb_54 rfl faX13_153 rfl rfl rfl rfl ?_
    refine w_aload_n 58 dX13_readWeb_57 rfl rfl ?_
    refine w_getr 61 dX13_readWeb_58 rfl faX13_149 rfl rfl rfl (r := .ref 111) rfl ?_
    refine w_iload_n 62 dX13_readWeb_61 rfl rfl ?_
    refine w_puti 65 dX13_readWeb_62 rfl faX13_228 rfl rfl rfl rfl ?_
    refine wr_v dX13_readWeb_65 rfl ?_
    obtain ⟨a1, a2, a3⟩ := PV.bd (PV.bd hV2 (ap_wd _ _ _)) (ap_wh _ _ _ _) z.1 z.2 hz
    obtain ⟨b1, b2, b3⟩ := hV3 z.1 z.2 hz
    obtain ⟨y7, g7, _⟩ := bd_inr hz
    obtain ⟨y6, g6, _⟩ := bd_inr g7
    obtain ⟨y5, g5, _⟩ := bd_inr g6
    have hw0 := wb0_inr g5
    have hO : OffL [111] A3 (upd2 (upd2 A3.1 111 0 u1) 111 1 u2, A3.2) := (OffL.rf.upd (by decide) _ _).upd (by decide) _ _
    have hM9 : RepM (addW w 0 (fun k => z.2.getD k 0)) (upd2 (upd2 A3.1 111 0 u1) 111 1 u2, A3.2) := RepM.a0 (hM.fq hF23) hw0 (fun k h0 h1 => by dsimp only; rw [upd2_off h1, upd2_off h0]) (by dsimp only; rw [upd2_off (by decide), upd2_at]; exact a3) (by dsimp only; rw [upd2_at]; exact b3) (fun x _ _ => by exact (hO x (by simp; omega)).1)
    refine h _ ?_ (hF23.w.tr (FW.o hO (by decide) (by decide)))
    rw [hch]
    exact ⟨hLA.o (hO 100 (by decide)).1 (hO 100 (by decide)).2, hM9, (hN.fq hF23).o (by dsimp only; rw [upd2_off (by decide), upd2_off (by decide)]) (hO 130 (by decide)).2 (hO 131 (by decide)).1 (hO 132 (by decide)).1⟩
  · skip
    obtain ⟨z, hz⟩ := sx_5 (by omega : sx (gB tp) n (bindP (bindP (bindP (bindP (wb0 (gB tp) n w p) (sWd (gB tp) n 8)) (sWh (gB tp) n 0 100)) (sWd (gB tp) n 9)) (sWh (gB tp) n 0 100)) = 5)
    refine wr_v dX13_readWeb_48 rfl ?_
    have h9 := hS3
    rw [hz] at h9 hch
    exact h _ (by rw [hch]; exact h9) (hF23.w)

set_option maxRecDepth 4000 in
theorem c_X13_readWeb {K : Option Value → AH → Prop} {A : AH} {v : Value} {n p : Nat} {tp : Nat → Int32} {w : WT} {nm : NT} (hT : TA n tp A) (hA : LA (gB tp) n p A) (hM : RepM w A) (hN : RN nm A) (hP : PI w nm) (hj : lnS (gB tp) n p = some 0) (h : ∀ A', LSx (gB tp) n (lineP (gB tp) n w nm p) A' → FW A A' → K none A') : Ct yX13_readWeb mX13_readWeb 7 dM (GG v (.ref 111)) [.ref 100] A K := by
  refine Ct.of [some (.ref 100), none, none] rfl rfl rfl (Nat.le_of_ble_eq_true rfl) ?_
  have hk1 := kind1 hj
  have hsl := hM.sl hP
  refine w_aload_n 1 dX13_readWeb_0 rfl rfl ?_
  refine w_getr 4 dX13_readWeb_1 rfl faX13_149 rfl rfl rfl (r := .ref 111) rfl ?_
  refine w_geti 7 dX13_readWeb_4 rfl faX13_153 rfl rfl rfl ?_
  refine w_iconst 8 dX13_readWeb_7 rfl (v := (-1)) rfl ?_
  refine w_iceq 16 11 dX13_readWeb_8 rfl rfl (fun c8 => ?_) (fun c8 => ?_)
  · skip
    refine w_aload_n 17 dX13_readWeb_16 rfl rfl ?_
    refine w_inv0 20 dX13_readWeb_17 rfl mlX13_114 rfl rfl (d' := 1) (by decide) (Nat.le_of_ble_eq_true rfl) (s_X13_goesOn (x := .inr (p, [])) hT hA (fun y e => by cases e; rw [hk1]; decide) (fun A4 hS4 hF4 => ?_))
    exact a_X13_readWeb (hT.fp (hF4)) (hM.fq (hF4).q) (hN.fp (hF4)) hj (by unfold wb0; rw [if_pos (hsl.mp c8)]; exact hS4) (fun A5 h5 hF5 => h A5 h5 ((hF4).q.w.tr hF5))
  · skip
    refine w_aload_n 12 dX13_readWeb_11 rfl rfl ?_
    refine w_iconst 13 dX13_readWeb_12 rfl (v := nI 3) rfl ?_
    refine w_inv1 16 dX13_readWeb_13 rfl mlX13_117 rfl rfl (d' := 0) (by decide) (Nat.le_of_ble_eq_true rfl) (s_X13_flaw (x := .inr (p, [])) (by decide) hA (fun A2 hS2 hF2 => ?_))
    refine w_aload_n 17 dX13_readWeb_16 rfl rfl ?_
    refine w_inv0 20 dX13_readWeb_17 rfl mlX13_114 rfl rfl (d' := 1) (by decide) (Nat.le_of_ble_eq_true rfl) (s_X13_goesOn (hT.fp hF2) (hS2) (fl_k) (fun A4 hS4 hF4 => ?_))
    rw [flP_ad] at hS4
    exact a_X13_readWeb (hT.fp (hF2.tr hF4)) (hM.fq (hF2.tr hF4).q) (hN.fp (hF2.tr hF4)) hj (by unfold wb0; rw [if_neg (fun z => c8 (hsl.mpr z))]; exact hS4) (fun A5 h5 hF5 => h A5 h5 ((hF2.tr hF4).q.w.tr hF5))

set_option maxRecDepth 4000 in
theorem c_X13_readLine {K : Option Value → AH → Prop} {A : AH} {v : Value} {n p : Nat} {tp : Nat → Int32} {w : WT} {nm : NT} (hT : TA n tp A) (hA : LA (gB tp) n p A) (hM : RepM w A) (hN : RN nm A) (hP : PI w nm) (h : ∀ A', LSx (gB tp) n (lineP (gB tp) n w nm p) A' → FW A A' → K none A') : Ct yX13_readLine mX13_readLine 11 dM (GG v (.ref 111)) [.ref 100] A K := by
  refine Ct.of [some (.ref 100)] rfl rfl rfl (Nat.le_of_ble_eq_true rfl) ?_
  refine w_aload_n 1 dX13_readLine_0 rfl rfl ?_
  refine w_ldcS 3 dX13_readLine_1 rfl srX13_133 ?_
  refine w_inv1 6 dX13_readLine_3 rfl mlX13_125 rfl rfl (d' := 5) (by decide) (Nat.le_of_ble_eq_true rfl) (c_X13_isWord (x := .inr (p, [])) (j := 0) (by decide) hA ?_)
  refine w_ifeqB 16 9 dX13_readLine_6 rfl rfl (fun c6 => ?_) (fun c6 => ?_)
  · skip
    refine w_aload_n 17 dX13_readLine_16 rfl rfl ?_
    refine w_ldcS 19 dX13_readLine_17 rfl srX13_135 ?_
    refine w_inv1 22 dX13_readLine_19 rfl mlX13_125 rfl rfl (d' := 5) (by decide) (Nat.le_of_ble_eq_true rfl) (c_X13_isWord (x := .inr (p, [])) (j := 1) (by decide) hA ?_)
    refine w_ifeqB 32 25 dX13_readLine_22 rfl rfl (fun c22 => ?_) (fun c22 => ?_)
    · skip
      refine w_aload_n 33 dX13_readLine_32 rfl rfl ?_
      refine w_ldcS 35 dX13_readLine_33 rfl srX13_137 ?_
      refine w_inv1 38 dX13_readLine_35 rfl mlX13_125 rfl rfl (d' := 5) (by decide) (Nat.le_of_ble_eq_true rfl) (c_X13_isWord (x := .inr (p, [])) (j := 2) (by decide) hA ?_)
      refine w_ifeqB 48 41 dX13_readLine_38 rfl rfl (fun c38 => ?_) (fun c38 => ?_)
      · skip
        refine w_aload_n 49 dX13_readLine_48 rfl rfl ?_
        refine w_ldcS 51 dX13_readLine_49 rfl srX13_139 ?_
        refine w_inv1 54 dX13_readLine_51 rfl mlX13_125 rfl rfl (d' := 5) (by decide) (Nat.le_of_ble_eq_true rfl) (c_X13_isWord (x := .inr (p, [])) (j := 3) (by decide) hA ?_)
        refine w_ifeqB 64 57 dX13_readLine_54 rfl rfl (fun c54 => ?_) (fun c54 => ?_)
        · skip
          refine w_aload_n 65 dX13_readLine_64 rfl rfl ?_
          refine w_ldcS 67 dX13_readLine_65 rfl srX13_141 ?_
          refine w_inv1 70 dX13_readLine_67 rfl mlX13_125 rfl rfl (d' := 5) (by decide) (Nat.le_of_ble_eq_true rfl) (c_X13_isWord (x := .inr (p, [])) (j := 4) (by decide) hA ?_)
          refine w_ifeqB 80 73 dX13_readLine_70 rfl rfl (fun c70 => ?_) (fun c70 => ?_)
          · skip
            refine w_aload_n 81 dX13_readLine_80 rfl rfl ?_
            refine w_ldcS 83 dX13_readLine_81 rfl srX13_143 ?_
            refine w_inv1 86 dX13_readLine_83 rfl mlX13_125 rfl rfl (d' := 5) (by decide) (Nat.le_of_ble_eq_true rfl) (c_X13_isWord (x := .inr (p, [])) (j := 5) (by decide) hA ?_)
            refine w_ifeqB 96 89 dX13_readLine_86 rfl rfl (fun c86 => ?_) (fun c86 => ?_)
            · skip
              refine w_aload_n 97 dX13_readLine_96 rfl rfl ?_
              refine w_ldcS 99 dX13_readLine_97 rfl srX13_145 ?_
              refine w_inv1 102 dX13_readLine_99 rfl mlX13_125 rfl rfl (d' := 5) (by decide) (Nat.le_of_ble_eq_true rfl) (c_X13_isWord (x := .inr (p, [])) (j := 6) (by decide) hA ?_)
              refine w_ifeqB 112 105 dX13_readLine_102 rfl rfl (fun c102 => ?_) (fun c102 => ?_)
              · skip
                refine w_aload_n 113 dX13_readLine_112 rfl rfl ?_
                refine w_ldcS 115 dX13_readLine_113 rfl srX13_147 ?_
                refine w_inv1 118 dX13_readLine_115 rfl mlX13_125 rfl rfl (d' := 5) (by decide) (Nat.le_of_ble_eq_true rfl) (c_X13_isWord (x := .inr (p, [])) (j := 7) (by decide) hA ?_)
                refine w_ifeqB 128 121 dX13_readLine_118 rfl rfl (fun c118 => ?_) (fun c118 => ?_)
                · skip
                  refine w_aload_n 129 dX13_readLine_128 rfl rfl ?_
                  refine w_iconst 130 dX13_readLine_129 rfl (v := nI 1) rfl ?_
                  refine w_inv1 133 dX13_readLine_130 rfl mlX13_117 rfl rfl (d' := 0) (by decide) (Nat.le_of_ble_eq_true rfl) (s_X13_flaw (x := .inr (p, [])) (by decide) hA (fun A2 h2 hF2 => ?_))
                  refine wr_v dX13_readLine_133 rfl ?_
                  have hno : lnS (gB tp) n p = none := fst1_none (fun m hm => by
                    rcases m with _ | _ | _ | _ | _ | _ | _ | _ | m
                    · exact c6
                    · exact c22
                    · exact c38
                    · exact c54
                    · exact c70
                    · exact c86
                    · exact c102
                    · exact c118
                    · omega)
                  exact h A2 (by unfold lineP; rw [hno]; exact h2) hF2.q.w
                · skip
                  refine w_aload_n 122 dX13_readLine_121 rfl rfl ?_
                  have hno : fst1 (tkW (gB tp) n p) 7 = none := fst1_none (fun m hm => by
                    rcases m with _ | _ | _ | _ | _ | _ | _ | m
                    · exact c6
                    · exact c22
                    · exact c38
                    · exact c54
                    · exact c70
                    · exact c86
                    · exact c102
                    · omega)
                  have hjj : lnS (gB tp) n p = some 7 := fst1_some hno c118 (by decide)
                  refine w_inv0 125 dX13_readLine_122 rfl mlX13_218 rfl rfl (d' := 9) (by decide) (Nat.le_of_ble_eq_true rfl) (c_X13_readHair hT hA hM hN hP hjj (fun A2 h2 hF2 => ?_))
                  refine w_goto 133 dX13_readLine_125 rfl ?_
                  refine wr_v dX13_readLine_133 rfl ?_
                  exact h A2 h2 hF2
              · skip
                refine w_aload_n 106 dX13_readLine_105 rfl rfl ?_
                have hno : fst1 (tkW (gB tp) n p) 6 = none := fst1_none (fun m hm => by
                  rcases m with _ | _ | _ | _ | _ | _ | m
                  · exact c6
                  · exact c22
                  · exact c38
                  · exact c54
                  · exact c70
                  · exact c86
                  · omega)
                have hjj : lnS (gB tp) n p = some 6 := fst1_some hno c102 (by decide)
                refine w_inv0 109 dX13_readLine_106 rfl mlX13_215 rfl rfl (d' := 8) (by decide) (Nat.le_of_ble_eq_true rfl) (c_X13_readUnsure hT hA hM hN hP hjj (fun A2 h2 hF2 => ?_))
                refine w_goto 133 dX13_readLine_109 rfl ?_
                refine wr_v dX13_readLine_133 rfl ?_
                exact h A2 h2 hF2
            · skip
              refine w_aload_n 90 dX13_readLine_89 rfl rfl ?_
              have hno : fst1 (tkW (gB tp) n p) 5 = none := fst1_none (fun m hm => by
                rcases m with _ | _ | _ | _ | _ | m
                · exact c6
                · exact c22
                · exact c38
                · exact c54
                · exact c70
                · omega)
              have hjj : lnS (gB tp) n p = some 5 := fst1_some hno c86 (by decide)
              refine w_inv0 93 dX13_readLine_90 rfl mlX13_212 rfl rfl (d' := 10) (by decide) (Nat.le_of_ble_eq_true rfl) (c_X13_readOffer hT hA hM hN hP hjj (fun A2 h2 hF2 => ?_))
              refine w_goto 133 dX13_readLine_93 rfl ?_
              refine wr_v dX13_readLine_133 rfl ?_
              exact h A2 h2 hF2
          · skip
            refine w_aload_n 74 dX13_readLine_73 rfl rfl ?_
            have hno : fst1 (tkW (gB tp) n p) 4 = none := fst1_none (fun m hm => by
              rcases m with _ | _ | _ | _ | m
              · exact c6
              · exact c22
              · exact c38
              · exact c54
              · omega)
            have hjj : lnS (gB tp) n p = some 4 := fst1_some hno c70 (by decide)
            refine w_inv0 77 dX13_readLine_74 rfl mlX13_209 rfl rfl (d' := 10) (by decide) (Nat.le_of_ble_eq_true rfl) (c_X13_readLoad hT hA hM hN hP hjj (fun A2 h2 hF2 => ?_))
            refine w_goto 133 dX13_readLine_77 rfl ?_
            refine wr_v dX13_readLine_133 rfl ?_
            exact h A2 h2 hF2
        · skip
          refine w_aload_n 58 dX13_readLine_57 rfl rfl ?_
          have hno : fst1 (tkW (gB tp) n p) 3 = none := fst1_none (fun m hm => by
            rcases m with _ | _ | _ | m
            · exact c6
            · exact c22
            · exact c38
            · omega)
          have hjj : lnS (gB tp) n p = some 3 := fst1_some hno c54 (by decide)
          refine w_inv0 61 dX13_readLine_58 rfl mlX13_206 rfl rfl (d' := 9) (by decide) (Nat.le_of_ble_eq_true rfl) (c_X13_readClash hT hA hM hN hP hjj (fun A2 h2 hF2 => ?_))
          refine w_goto 133 dX13_readLine_61 rfl ?_
          refine wr_v dX13_readLine_133 rfl ?_
          exact h A2 h2 hF2
      · skip
        refine w_aload_n 42 dX13_readLine_41 rfl rfl ?_
        have hno : fst1 (tkW (gB tp) n p) 2 = none := fst1_none (fun m hm => by
          rcases m with _ | _ | m
          · exact c6
          · exact c22
          · omega)
        have hjj : lnS (gB tp) n p = some 2 := fst1_some hno c38 (by decide)
        refine w_inv0 45 dX13_readLine_42 rfl mlX13_203 rfl rfl (d' := 10) (by decide) (Nat.le_of_ble_eq_true rfl) (c_X13_readThread hT hA hM hN hP hjj (fun A2 h2 hF2 => ?_))
        refine w_goto 133 dX13_readLine_45 rfl ?_
        refine wr_v dX13_readLine_133 rfl ?_
        exact h A2 h2 hF2
    · skip
      refine w_aload_n 26 dX13_readLine_25 rfl rfl ?_
      have hno : fst1 (tkW (gB tp) n p) 1 = none := fst1_none (fun m hm => by
        rcases m with _ | m
        · exact c6
        · omega)
      have hjj : lnS (gB tp) n p = some 1 := fst1_some hno c22 (by decide)
      refine w_inv0 29 dX13_readLine_26 rfl mlX13_200 rfl rfl (d' := 8) (by decide) (Nat.le_of_ble_eq_true rfl) (c_X13_readNail hT hA hM hN hP hjj (fun A2 h2 hF2 => ?_))
      refine w_goto 133 dX13_readLine_29 rfl ?_
      refine wr_v dX13_readLine_133 rfl ?_
      exact h A2 h2 hF2
  · skip
    refine w_aload_n 10 dX13_readLine_9 rfl rfl ?_
    have hno : fst1 (tkW (gB tp) n p) 0 = none := rfl
    have hjj : lnS (gB tp) n p = some 0 := fst1_some hno c6 (by decide)
    refine w_inv0 13 dX13_readLine_10 rfl mlX13_197 rfl rfl (d' := 7) (by decide) (Nat.le_of_ble_eq_true rfl) (c_X13_readWeb hT hA hM hN hP hjj (fun A2 h2 hF2 => ?_))
    refine w_goto 133 dX13_readLine_13 rfl ?_
    refine wr_v dX13_readLine_133 rfl ?_
    exact h A2 h2 hF2

/-- what reading all leaves -/
def AS (r : (Nat × Nat) ⊕ WT) (A : AH) : Prop := match r with
  | .inl z => OV z.1 z.2 A
  | .inr w' => A.1 100 12 = nI 0 ∧ RepM w' A ∧ ∃ nm, PI w' nm
def lpx (r : LRs) : PR := match r with
  | .inl z => .inl z
  | .inr t => .inr (t.1, [])
theorem LSx.sr {g : Nat → Nat} {n : Nat} {r : LRs} {A : AH} (h : LSx g n r A) : SR g n (lpx r) A := by
  cases r with
  | inl z => exact h
  | inr t => exact h.1
theorem RepM.fw {w : WT} {A A' : AH} (h : RepM w A) (q : FP A A') : RepM w A' := h.fq q.q
set_option maxRecDepth 4000 in
theorem a_X13_readAllS {K : Option Value → AH → Prop} {A : AH} {v : Value} {n p : Nat} {tp : Nat → Int32} {w : WT} {nm : NT} (hT : TA n tp A) (hA : LA (gB tp) n p A) (hM : RepM w A) (hN : RN nm A) (hP : PI w nm) (hk : ∀ A2 A3, LSx (gB tp) n (lineP (gB tp) n w nm p) A2 → SR (gB tp) n (if sx (gB tp) n (lpx (lineP (gB tp) n w nm p)) = 4 then adP (gB tp) n (lpx (lineP (gB tp) n w nm p)) else (lpx (lineP (gB tp) n w nm p))) A3 → FP A2 A3 → FW A A3 → WP mX13_readAll 12 dM (GG v (.ref 111)) 2 [some (.ref 100), some (.int (b2i (decide (sx (gB tp) n (lpx (lineP (gB tp) n w nm p)) = 4))))] [] A3 K) : WP mX13_readAll 12 dM (GG v (.ref 111)) 2 [some (.ref 100), some (.int (b2i true))] [] A K := by
  refine w_iload_n 3 dX13_readAll_2 rfl rfl ?_
  refine w_ifeqB 18 6 dX13_readAll_3 rfl rfl (fun cc => by cases cc) (fun _ => ?_)
  refine w_aload_n 7 dX13_readAll_6 rfl rfl ?_
  refine w_inv0 10 dX13_readAll_7 rfl mlX13_188 rfl rfl (d' := 11) (by decide) (Nat.le_of_ble_eq_true rfl) (c_X13_readLine hT hA hM hN hP (fun A2 h2 hF2 => ?_))
  refine w_aload_n 11 dX13_readAll_10 rfl rfl ?_
  refine w_inv0 14 dX13_readAll_11 rfl mlX13_191 rfl rfl (d' := 2) (by decide) (Nat.le_of_ble_eq_true rfl) (c_X13_eatsSemicolon (x := (lpx (lineP (gB tp) n w nm p))) (hT.fw hF2) h2.sr (fun A3 hS3 hF3 => ?_))
  refine w_ist1 15 dX13_readAll_14 rfl (by decide) rfl ?_
  refine w_goto 2 dX13_readAll_15 rfl ?_
  exact hk A2 A3 h2 hS3 hF3 (hF2.tr hF3.q.w)

set_option maxRecDepth 4000 in
theorem a_X13_readAllO {K : Option Value → AH → Prop} {A : AH} {v : Value} {f pl : Nat} (hO : OV f pl A) (h : K none A) : WP mX13_readAll 12 dM (GG v (.ref 111)) 2 [some (.ref 100), some (.int (b2i false))] [] A K := by
  refine w_iload_n 3 dX13_readAll_2 rfl rfl ?_
  refine w_ifeqB 18 6 dX13_readAll_3 rfl rfl (fun _ => ?_) (fun cc => by cases cc)
  refine w_aload_n 19 dX13_readAll_18 rfl rfl ?_
  refine w_getiv 22 dX13_readAll_19 rfl faX13_78 rfl rfl rfl hO.1 ?_
  refine w_iconst 23 dX13_readAll_22 rfl (v := nI 1) rfl ?_
  refine w_iceqN 31 26 dX13_readAll_23 rfl rfl (by omega) (by omega) (fun c23 => (by omega)) (fun c23 => ?_)
  refine w_aload_n 27 dX13_readAll_26 rfl rfl ?_
  refine w_iconst 28 dX13_readAll_27 rfl (v := nI 1) rfl ?_
  refine w_inv1 31 dX13_readAll_28 rfl mlX13_117 rfl rfl (d' := 0) (by decide) (Nat.le_of_ble_eq_true rfl) (o_X13_flaw hO ?_)
  refine w_aload_n 32 dX13_readAll_31 rfl rfl ?_
  refine w_getr 35 dX13_readAll_32 rfl faX13_149 rfl rfl rfl (r := .ref 111) rfl ?_
  refine w_geti 38 dX13_readAll_35 rfl faX13_194 rfl rfl rfl ?_
  refine w_ifne 47 41 dX13_readAll_38 rfl rfl (fun c38 => ?_) (fun c38 => ?_)
  · skip
    refine wr_v dX13_readAll_47 rfl ?_
    exact h
  · skip
    refine w_aload_n 42 dX13_readAll_41 rfl rfl ?_
    refine w_bipush 44 dX13_readAll_42 rfl (v := nI 6) rfl ?_
    refine w_inv1 47 dX13_readAll_44 rfl mlX13_117 rfl rfl (d' := 0) (by decide) (Nat.le_of_ble_eq_true rfl) (o_X13_flaw hO ?_)
    refine wr_v dX13_readAll_47 rfl ?_
    exact h

set_option maxRecDepth 4000 in
theorem a_X13_readAllE {K : Option Value → AH → Prop} {A : AH} {v : Value} {n p : Nat} {tp : Nat → Int32} {w : WT} {nm : NT} (hA : LA (gB tp) n p A) (hM : RepM w A) (hP : PI w nm) (h3 : ¬ tkK (gB tp) n p = 3) (h : ∀ A', AS (if tkK (gB tp) n p = 0 then (if w.1 1 = 0 then .inl (6, tkS (gB tp) n p) else .inr w) else .inl (1, tkS (gB tp) n p)) A' → FP A A' → K none A') : WP mX13_readAll 12 dM (GG v (.ref 111)) 2 [some (.ref 100), some (.int (b2i false))] [] A K := by
  have hr1 := hP.1 1 (by decide)
  have hr1v : roomN 1 = 7 := rfl
  refine w_iload_n 3 dX13_readAll_2 rfl rfl ?_
  refine w_ifeqB 18 6 dX13_readAll_3 rfl rfl (fun _ => ?_) (fun cc => by cases cc)
  refine w_aload_n 19 dX13_readAll_18 rfl rfl ?_
  refine w_getiv 22 dX13_readAll_19 rfl faX13_78 rfl rfl rfl hA.2.1 ?_
  refine w_iconst 23 dX13_readAll_22 rfl (v := nI 1) rfl ?_
  refine w_iceqN 31 26 dX13_readAll_23 rfl rfl (Nat.lt_trans srt_lt (by decide)) (by omega) (fun c23 => ?_) (fun c23 => ?_)
  · skip
    have hk : tkK (gB tp) n p = 0 := by
      unfold srt at c23
      split at c23 <;> omega
    refine w_aload_n 32 dX13_readAll_31 rfl rfl ?_
    refine w_getr 35 dX13_readAll_32 rfl faX13_149 rfl rfl rfl (r := .ref 111) rfl ?_
    refine w_getiv 38 dX13_readAll_35 rfl faX13_194 rfl rfl rfl (hM.2.1 1 (by decide) (by decide)) ?_
    refine w_ifneN 47 41 dX13_readAll_38 rfl rfl (by omega) (fun c38 => ?_) (fun c38 => ?_)
    · skip
      refine wr_v dX13_readAll_47 rfl ?_
      exact h A (by rw [if_pos hk, if_neg (by omega)]; exact ⟨hA.2.2.2.1, hM, nm, hP⟩) FP.rf
    · skip
      refine w_aload_n 42 dX13_readAll_41 rfl rfl ?_
      refine w_bipush 44 dX13_readAll_42 rfl (v := nI 6) rfl ?_
      refine w_inv1 47 dX13_readAll_44 rfl mlX13_117 rfl rfl (d' := 0) (by decide) (Nat.le_of_ble_eq_true rfl) (s_X13_flaw (x := .inr (p, [])) (by decide) hA (fun A2 hS2 hF2 => ?_))
      refine wr_v dX13_readAll_47 rfl ?_
      exact h A2 (by rw [if_pos hk, if_pos (by omega)]; exact hS2) hF2
  · skip
    have hk : ¬ tkK (gB tp) n p = 0 := fun z => c23 (by rw [z]; rfl)
    refine w_aload_n 27 dX13_readAll_26 rfl rfl ?_
    refine w_iconst 28 dX13_readAll_27 rfl (v := nI 1) rfl ?_
    refine w_inv1 31 dX13_readAll_28 rfl mlX13_117 rfl rfl (d' := 0) (by decide) (Nat.le_of_ble_eq_true rfl) (s_X13_flaw (x := .inr (p, [])) (by decide) hA (fun A2 hS2 hF2 => ?_))
    refine w_aload_n 32 dX13_readAll_31 rfl rfl ?_
    refine w_getr 35 dX13_readAll_32 rfl faX13_149 rfl rfl rfl (r := .ref 111) rfl ?_
    refine w_geti 38 dX13_readAll_35 rfl faX13_194 rfl rfl rfl ?_
    refine w_ifne 47 41 dX13_readAll_38 rfl rfl (fun c38 => ?_) (fun c38 => ?_)
    · skip
      refine wr_v dX13_readAll_47 rfl ?_
      exact h A2 (by rw [if_neg hk]; exact hS2) hF2
    · skip
      refine w_aload_n 42 dX13_readAll_41 rfl rfl ?_
      refine w_bipush 44 dX13_readAll_42 rfl (v := nI 6) rfl ?_
      refine w_inv1 47 dX13_readAll_44 rfl mlX13_117 rfl rfl (d' := 0) (by decide) (Nat.le_of_ble_eq_true rfl) (o_X13_flaw hS2 ?_)
      refine wr_v dX13_readAll_47 rfl ?_
      exact h A2 (by rw [if_neg hk]; exact hS2) hF2

theorem l_X13_readAll {K : Option Value → AH → Prop} {v : Value} {n : Nat} {tp : Nat → Int32} : ∀ (k p : Nat) (w : WT) (nm : NT) (A : AH), n < p + k → TA n tp A → LA (gB tp) n p A → RepM w A → RN nm A → PI w nm → (∀ A', AS (allP (gB tp) n k p w nm) A' → FW A A' → K none A') → WP mX13_readAll 12 dM (GG v (.ref 111)) 2 [some (.ref 100), some (.int (b2i true))] [] A K
  | 0, p, w, nm, A, hk, _, hA, _, _, _, _ => absurd hA.1 (by omega)
  | k + 1, p, w, nm, A, hk, hT, hA, hM, hN, hP, h => by
    refine a_X13_readAllS hT hA hM hN hP (fun A2 A3 hL hS hF hW => ?_)
    cases hr : lineP (gB tp) n w nm p with
    | inl z =>
      rw [hr] at hL hS
      have e4 : ¬ sx (gB tp) n (lpx (.inl z)) = 4 := by show ¬ 5 = 4; decide
      rw [if_neg e4] at hS
      rw [decide_eq_false e4]
      exact a_X13_readAllO hS (h A3 (by simp only [allP, hr]; exact hS) hW)
    | inr t =>
      obtain ⟨p', w', nm'⟩ := t
      rw [hr] at hL hS
      obtain ⟨hL1, hL2, hL3⟩ := hL
      have hP2 := lineP_PI hP hr
      have hpp := mn_lp hr
      by_cases e4 : sx (gB tp) n (lpx (.inr (p', w', nm'))) = 4
      · rw [if_pos e4] at hS
        rw [decide_eq_true e4]
        obtain ⟨y, e2, h3⟩ := sx_k (k := 3) e4 (by decide)
        cases e2
        have hE := tkE_3 h3
        refine l_X13_readAll k (tkE (gB tp) n p') w' nm' A3 (by dsimp only at hE; omega) (hT.fw hW) hS (hL2.fw hF) (hL3.fp hF) hP2 (fun A5 h5 hF5 => h A5 ?_ (hW.tr hF5))
        have h3 : tkK (gB tp) n p' = 3 := h3
        simp only [allP, hr]
        rw [if_neg (by omega), if_pos h3]
        exact h5
      · rw [if_neg e4] at hS
        rw [decide_eq_false e4]
        have h3 : ¬ tkK (gB tp) n p' = 3 := fun z => e4 (by show srt (tkK (gB tp) n p') = 4; rw [z]; rfl)
        refine a_X13_readAllE (p := p') hS (hL2.fw hF) hP2 h3 (fun A5 h5 hF5 => h A5 ?_ (hW.tr hF5.q.w))
        simp only [allP, hr]
        rw [if_neg h3]
        exact h5
theorem c_X13_readAll {K : Option Value → AH → Prop} {A : AH} {v : Value} {n : Nat} {tp : Nat → Int32} {w : WT} {nm : NT} (hT : TA n tp A) (hA : LA (gB tp) n 0 A) (hM : RepM w A) (hN : RN nm A) (hP : PI w nm) (h : ∀ A', AS (allP (gB tp) n (n + 1) 0 w nm) A' → FW A A' → K none A') : Ct yX13_readAll mX13_readAll 12 dM (GG v (.ref 111)) [.ref 100] A K := by
  refine Ct.of [some (.ref 100), none] rfl rfl rfl (Nat.le_of_ble_eq_true rfl) ?_
  refine w_iconst 1 dX13_readAll_0 rfl (v := nI 1) rfl ?_
  refine w_ist1 2 dX13_readAll_1 rfl (by decide) rfl ?_
  exact l_X13_readAll (n + 1) 0 w nm A (by omega) hT hA hM hN hP h
