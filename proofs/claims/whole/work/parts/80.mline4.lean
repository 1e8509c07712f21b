/-! ===== the reference reads: threads, web ===== -/
theorem kd_0 {g : Nat → Nat} {n k : Nat} {x : PR}  (h : tkWx g n x 10 = true) (hl : Ln x k) : bindP x (sKd g n) = adP g n (bindP x (fun y => .inr (y.1, y.2 ++ [0]))) ∧ PV (bindP x (sKd g n)) k (nI 0) := by
  obtain ⟨y, rfl, hw, _⟩ := tkWx_t h
  have e : bindP (.inr y) (sKd g n) = .inr (tkE g n y.1, y.2 ++ [0]) := by
    show sKd g n y = _
    have hno : fst1 (fun m => tkW g n y.1 (10 + m)) 0 = none := rfl
    have hso : fst1 (fun m => tkW g n y.1 (10 + m)) 4 = some 0 := fst1_some hno hw (by decide)
    unfold sKd
    rw [hso]
  refine ⟨e, ?_⟩
  rw [e]
  exact PV_new (hl y.1 y.2 rfl) (by decide)
theorem kd_1 {g : Nat → Nat} {n k : Nat} {x : PR} (h0 : tkWx g n x 10 = false) (h : tkWx g n x 11 = true) (hl : Ln x k) : bindP x (sKd g n) = adP g n (bindP x (fun y => .inr (y.1, y.2 ++ [1]))) ∧ PV (bindP x (sKd g n)) k (nI 1) := by
  obtain ⟨y, rfl, hw, _⟩ := tkWx_t h
  have e : bindP (.inr y) (sKd g n) = .inr (tkE g n y.1, y.2 ++ [1]) := by
    show sKd g n y = _
    have hno : fst1 (fun m => tkW g n y.1 (10 + m)) 1 = none := fst1_none (fun m hm => by
      rcases m with _ | m
      · exact h0
      · omega)
    have hso : fst1 (fun m => tkW g n y.1 (10 + m)) 4 = some 1 := fst1_some hno hw (by decide)
    unfold sKd
    rw [hso]
  refine ⟨e, ?_⟩
  rw [e]
  exact PV_new (hl y.1 y.2 rfl) (by decide)
theorem kd_2 {g : Nat → Nat} {n k : Nat} {x : PR} (h0 : tkWx g n x 10 = false) (h1 : tkWx g n x 11 = false) (h : tkWx g n x 12 = true) (hl : Ln x k) : bindP x (sKd g n) = adP g n (bindP x (fun y => .inr (y.1, y.2 ++ [2]))) ∧ PV (bindP x (sKd g n)) k (nI 2) := by
  obtain ⟨y, rfl, hw, _⟩ := tkWx_t h
  have e : bindP (.inr y) (sKd g n) = .inr (tkE g n y.1, y.2 ++ [2]) := by
    show sKd g n y = _
    have hno : fst1 (fun m => tkW g n y.1 (10 + m)) 2 = none := fst1_none (fun m hm => by
      rcases m with _ | _ | m
      · exact h0
      · exact h1
      · omega)
    have hso : fst1 (fun m => tkW g n y.1 (10 + m)) 4 = some 2 := fst1_some hno hw (by decide)
    unfold sKd
    rw [hso]
  refine ⟨e, ?_⟩
  rw [e]
  exact PV_new (hl y.1 y.2 rfl) (by decide)
theorem kd_3 {g : Nat → Nat} {n k : Nat} {x : PR} (h0 : tkWx g n x 10 = false) (h1 : tkWx g n x 11 = false) (h2 : tkWx g n x 12 = false) (h : tkWx g n x 13 = true) (hl : Ln x k) : bindP x (sKd g n) = adP g n (bindP x (fun y => .inr (y.1, y.2 ++ [3]))) ∧ PV (bindP x (sKd g n)) k (nI 3) := by
  obtain ⟨y, rfl, hw, _⟩ := tkWx_t h
  have e : bindP (.inr y) (sKd g n) = .inr (tkE g n y.1, y.2 ++ [3]) := by
    show sKd g n y = _
    have hno : fst1 (fun m => tkW g n y.1 (10 + m)) 3 = none := fst1_none (fun m hm => by
      rcases m with _ | _ | _ | m
      · exact h0
      · exact h1
      · exact h2
      · omega)
    have hso : fst1 (fun m => tkW g n y.1 (10 + m)) 4 = some 3 := fst1_some hno hw (by decide)
    unfold sKd
    rw [hso]
  refine ⟨e, ?_⟩
  rw [e]
  exact PV_new (hl y.1 y.2 rfl) (by decide)
theorem kd_f {g : Nat → Nat} {n : Nat} {x : PR} (h0 : tkWx g n x 10 = false) (h1 : tkWx g n x 11 = false) (h2 : tkWx g n x 12 = false) (h3 : tkWx g n x 13 = false) : bindP x (sKd g n) = flP g n 1 x := by
  cases x with
  | inl z => rfl
  | inr y =>
    show sKd g n y = _
    have hno : fst1 (fun m => tkW g n y.1 (10 + m)) 4 = none := fst1_none (fun m hm => by
      rcases m with _ | _ | _ | _ | m
      · exact h0
      · exact h1
      · exact h2
      · exact h3
      · omega)
    unfold sKd
    rw [hno]
    rfl
set_option maxRecDepth 4000 in
theorem a_X13_readThread {K : Option Value → AH → Prop} {A : AH} {v : Value} {n p : Nat} {tp : Nat → Int32} {w : WT} {nm : NT} {u : Int64} {uk : Int32} (hT : TA n tp A) (hM : RepM w A) (hN : RN nm A) (hP : PI w nm) (hj : lnS (gB tp) n p = some 2) (hS1 : SR (gB tp) n (bindP (bindP (lb0 (gB tp) n w 2 p) (sFr (gB tp) n nm)) (sKd (gB tp) n)) A) (hl2 : Ln (bindP (bindP (lb0 (gB tp) n w 2 p) (sFr (gB tp) n nm)) (sKd (gB tp) n)) 1) (hVk : PV (bindP (bindP (lb0 (gB tp) n w 2 p) (sFr (gB tp) n nm)) (sKd (gB tp) n)) 0 uk) (hu : ∀ y z, (lb0 (gB tp) n w 2 p) = .inr y → bindP (lb0 (gB tp) n w 2 p) (sFr (gB tp) n nm) = .inr z → u = lN (tkC (gB tp) n y.1) ∧ tkC (gB tp) n y.1 < 2 ^ 40) (hlp : lineP (gB tp) n w nm p = ofP (gB tp) n w nm 2 p (bindP (lb0 (gB tp) n w 2 p) (fun y => lineB (gB tp) n w nm 2 y.1))) (h : ∀ A', LSx (gB tp) n (lineP (gB tp) n w nm p) A' → FW A A' → K none A') : WP mX13_readThread 10 dM (GG v (.ref 111)) 86 [some (.ref 100), some (.long u), none, some (.int uk), none, none, none, none, none] [] A K := by
  have hr1 := hP.1 1 (by decide)
  have hr1v : roomN 1 = 7 := rfl
  have hrn : roomN 2 = 7 := rfl
  have hb1 := hM.2.1 2 (by decide) (by decide)
  refine w_aload_n 87 dX13_readThread_86 rfl rfl ?_
  refine w_inv0 90 dX13_readThread_87 rfl mlX13_251 rfl rfl (d' := 9) (by decide) (Nat.le_of_ble_eq_true rfl) (c_X13_readNails (x := bindP (bindP (lb0 (gB tp) n w 2 p) (sFr (gB tp) n nm)) (sKd (gB tp) n)) (k := 1) hT hS1 hl2 hN (fun A2 u1 hS2 hV2 hW2 hF2 => ?_))
  refine w_ist4 92 dX13_readThread_90 rfl (by decide) rfl ?_
  refine w_aload_n 93 dX13_readThread_92 rfl rfl ?_
  refine w_getiv 96 dX13_readThread_93 rfl faX13_185 rfl rfl rfl (v := A2.1 100 15) rfl ?_
  refine w_ist5 98 dX13_readThread_96 rfl (by decide) rfl ?_
  refine w_aload_n 99 dX13_readThread_98 rfl rfl ?_
  refine w_ldcS 101 dX13_readThread_99 rfl srX13_254 ?_
  refine w_iconst 102 dX13_readThread_101 rfl (v := nI 1) rfl ?_
  refine w_bipush 104 dX13_readThread_102 rfl (v := nI 99) rfl ?_
  refine w_inv3 107 dX13_readThread_104 rfl mlX13_222 rfl rfl (d' := 6) (by decide) (Nat.le_of_ble_eq_true rfl) (c_X13_readPart (x := bindP (bindP (bindP (bindP (lb0 (gB tp) n w 2 p) (sFr (gB tp) n nm)) (sKd (gB tp) n)) (sNm (gB tp) n nm 1)) (sNmC (gB tp) n nm 1 badU)) (k := 1 + 1 + 1) (j := 14) (hT.fq hF2) hS2 ((hl2.bd (ap_nm _ _ _ _)).bd (ap_nmc _ _ _ _ _)) (by decide) (by decide) (by decide) (fun A3 u3 hS3 hV3 hF3 => ?_))
  have hF23 := hF2.tr hF3.q
  refine w_ist6 109 dX13_readThread_107 rfl (by decide) rfl ?_
  refine w_aload_n 110 dX13_readThread_109 rfl rfl ?_
  refine w_ldcwS 113 dX13_readThread_110 rfl srX13_256 ?_
  refine w_iconst 114 dX13_readThread_113 rfl (v := nI 0) rfl ?_
  refine w_bipush 116 dX13_readThread_114 rfl (v := nI 20) rfl ?_
  refine w_inv3 119 dX13_readThread_116 rfl mlX13_222 rfl rfl (d' := 6) (by decide) (Nat.le_of_ble_eq_true rfl) (c_X13_readPart (x := bindP (bindP (bindP (bindP (bindP (bindP (lb0 (gB tp) n w 2 p) (sFr (gB tp) n nm)) (sKd (gB tp) n)) (sNm (gB tp) n nm 1)) (sNmC (gB tp) n nm 1 badU)) (sWd (gB tp) n 14)) (sWh (gB tp) n 1 99)) (k := 1 + 1 + 1 + 0 + 1) (j := 15) (hT.fq hF23) hS3 ((((hl2.bd (ap_nm _ _ _ _)).bd (ap_nmc _ _ _ _ _)).bd (ap_wd _ _ _)).bd (ap_wh _ _ _ _)) (by decide) (by decide) (by decide) (fun A4 u4 hS4 hV4 hF4 => ?_))
  have hF24 := hF23.tr hF4.q
  refine w_ist7 121 dX13_readThread_119 rfl (by decide) rfl ?_
  refine w_aload_n 122 dX13_readThread_121 rfl rfl ?_
  have hsx := sx_le (g := gB tp) (n := n) (x := bindP (bindP (bindP (bindP (bindP (bindP (bindP (bindP (lb0 (gB tp) n w 2 p) (sFr (gB tp) n nm)) (sKd (gB tp) n)) (sNm (gB tp) n nm 1)) (sNmC (gB tp) n nm 1 badU)) (sWd (gB tp) n 14)) (sWh (gB tp) n 1 99)) (sWd (gB tp) n 15)) (sWh (gB tp) n 0 20))
  have hch : lineP (gB tp) n w nm p = ofP (gB tp) n w nm 2 p (bindP (bindP (bindP (bindP (bindP (bindP (bindP (bindP (lb0 (gB tp) n w 2 p) (sFr (gB tp) n nm)) (sKd (gB tp) n)) (sNm (gB tp) n nm 1)) (sNmC (gB tp) n nm 1 badU)) (sWd (gB tp) n 14)) (sWh (gB tp) n 1 99)) (sWd (gB tp) n 15)) (sWh (gB tp) n 0 20)) := by
    rw [hlp]
    rw [bindP_as, bindP_as, bindP_as, bindP_as, bindP_as, bindP_as, bindP_as]
    refine congrArg _ ?_
    unfold lb0
    split
    · rfl
    · split <;> rfl
  refine w_getiv 125 dX13_readThread_122 rfl faX13_78 rfl rfl rfl (hS4).srt ?_
  refine w_iconst 126 dX13_readThread_125 rfl (v := nI 5) rfl ?_
  refine w_icneN 130 129 dX13_readThread_126 rfl rfl (by omega) (by omega) (fun c126 => ?_) (fun c126 => ?_)
  · skip
    obtain ⟨z, hz⟩ := sx_n5 (by omega : ¬ sx (gB tp) n (bindP (bindP (bindP (bindP (bindP (bindP (bindP (bindP (lb0 (gB tp) n w 2 p) (sFr (gB tp) n nm)) (sKd (gB tp) n)) (sNm (gB tp) n nm 1)) (sNmC (gB tp) n nm 1 badU)) (sWd (gB tp) n 14)) (sWh (gB tp) n 1 99)) (sWd (gB tp) n 15)) (sWh (gB tp) n 0 20)) = 5)
    have hLA := SR.la hS4 hz
    rw [hz] at hch
    have hroom := line_room hj hch
    obtain ⟨y7, g7, _⟩ := bd_inr hz
    obtain ⟨y6, g6, _⟩ := bd_inr g7
    obtain ⟨y5, g5, _⟩ := bd_inr g6
    obtain ⟨y4, g4, _⟩ := bd_inr g5
    obtain ⟨y3, g3, _⟩ := bd_inr g4
    obtain ⟨y2, g2, _⟩ := bd_inr g3
    obtain ⟨y1, g1, _⟩ := bd_inr g2
    obtain ⟨hu, hcl⟩ := hu _ y1 (lb0_inr g1) g1
    have hu : u = lN (tkC (gB tp) n (tkE (gB tp) n p)) := hu
    subst hu
    have hPI := lineP_PI hP hch
    have hb2 : A4.1 111 3 = nI (w.1 2) := by rw [(hF24.1 111 (by decide)).1]; exact hb1
    refine w_aload_n 131 dX13_readThread_130 rfl rfl ?_
    refine w_getr 134 dX13_readThread_131 rfl faX13_149 rfl rfl rfl (r := .ref 111) rfl ?_
    refine w_getiv 137 dX13_readThread_134 rfl faX13_241 rfl rfl rfl hb2 ?_
    refine w_ist8 139 dX13_readThread_137 rfl (by decide) rfl ?_
    refine w_aload_n 140 dX13_readThread_139 rfl rfl ?_
    refine w_lload_n 141 dX13_readThread_140 rfl rfl ?_
    refine w_iconst 142 dX13_readThread_141 rfl (v := nI 1) rfl ?_
    refine w_iload 144 dX13_readThread_142 rfl rfl ?_
    refine w_inv3 147 dX13_readThread_144 rfl mlX13_238 rfl rfl (d' := 0) (by decide) (Nat.le_of_ble_eq_true rfl) (c_X13_names (c := (tkC (gB tp) n (tkE (gB tp) n p))) (j := 1) (k := w.1 2) (hN.fq hF24) (by have := hP.2.1; omega) hcl (by decide) (by omega) hPI.2.2.2.2 (fun A6 hN6 hO6 h6 => ?_))
    refine w_aload_n 148 dX13_readThread_147 rfl rfl ?_
    refine w_getr 151 dX13_readThread_148 rfl faX13_149 rfl rfl rfl (r := .ref 111) rfl ?_
    refine w_getr 154 dX13_readThread_151 rfl faX13_258 rfl rfl rfl (r := .ref 112) rfl ?_
    refine w_iload 156 dX13_readThread_154 rfl rfl ?_
    refine w_iload_n 157 dX13_readThread_156 rfl rfl ?_
    refine w_iastN 158 dX13_readThread_157 rfl rfl rfl (by decide) (by omega) ?_
    refine w_aload_n 159 dX13_readThread_158 rfl rfl ?_
    refine w_getr 162 dX13_readThread_159 rfl faX13_149 rfl rfl rfl (r := .ref 111) rfl ?_
    refine w_getr 165 dX13_readThread_162 rfl faX13_261 rfl rfl rfl (r := .ref 113) rfl ?_
    refine w_iload 167 dX13_readThread_165 rfl rfl ?_
    refine w_iload 169 dX13_readThread_167 rfl rfl ?_
    refine w_iastN 170 dX13_readThread_169 rfl rfl rfl (by decide) (by omega) ?_
    refine w_aload_n 171 dX13_readThread_170 rfl rfl ?_
    refine w_getr 174 dX13_readThread_171 rfl faX13_149 rfl rfl rfl (r := .ref 111) rfl ?_
    refine w_getr 177 dX13_readThread_174 rfl faX13_264 rfl rfl rfl (r := .ref 114) rfl ?_
    refine w_iload 179 dX13_readThread_177 rfl rfl ?_
    refine w_iload 181 dX13_readThread_179 rfl rfl ?_
    refine w_iastN 182 dX13_readThread_181 rfl rfl rfl (by decide) (by omega) ?_
    refine w_aload_n 183 dX13_readThread_182 rfl rfl ?_
    refine w_getr 186 dX13_readThread_183 rfl faX13_149 rfl rfl rfl (r := .ref 111) rfl ?_
    refine w_getr 189 dX13_readThread_186 rfl faX13_267 rfl rfl rfl (r := .ref 115) rfl ?_
    refine w_iload 191 dX13_readThread_189 rfl rfl ?_
    refine w_iload 193 dX13_readThread_191 rfl rfl ?_
    refine w_iastN 194 dX13_readThread_193 rfl rfl rfl (by decide) (by omega) ?_
    refine w_aload_n 195 dX13_readThread_194 rfl rfl ?_
    refine w_getr 198 dX13_readThread_195 rfl faX13_149 rfl rfl rfl (r := .ref 111) rfl ?_
    refine w_getr 201 dX13_readThread_198 rfl faX13_269 rfl rfl rfl (r := .ref 116) rfl ?_
    refine w_iload 203 dX13_readThread_201 rfl rfl ?_
    refine w_iload 205 dX13_readThread_203 rfl rfl ?_
    refine w_iastN 206 dX13_readThread_205 rfl rfl rfl (by decide) (by omega) ?_
    refine w_aload_n 207 dX13_readThread_206 rfl rfl ?_
    refine w_getr 210 dX13_readThread_207 rfl faX13_149 rfl rfl rfl (r := .ref 111) rfl ?_
    refine w_dup_r 211 dX13_readThread_210 rfl ?_
    refine w_getiv 214 dX13_readThread_211 rfl faX13_241 rfl rfl rfl (v := nI (w.1 2)) (by dsimp only; rw [upd2_ne (by decide), upd2_ne (by decide), upd2_ne (by decide), upd2_ne (by decide), upd2_ne (by decide), h6 3 (by decide)]; exact hb2) ?_
    refine w_iconst 215 dX13_readThread_214 rfl (v := nI 1) rfl ?_
    refine w_iaddN 216 dX13_readThread_215 rfl ?_
    refine w_puti 219 dX13_readThread_216 rfl faX13_241 rfl rfl rfl rfl ?_
    refine wr_v dX13_readThread_219 rfl ?_
    obtain ⟨k1, k2, k3⟩ := PV.bd (PV.bd (PV.bd (PV.bd (PV.bd (PV.bd hVk (ap_nm _ _ _ _)) (ap_nmc _ _ _ _ _)) (ap_wd _ _ _)) (ap_wh _ _ _ _)) (ap_wd _ _ _)) (ap_wh _ _ _ _) z.1 z.2 hz
    obtain ⟨a1, a2, a3⟩ := PV.bd (PV.bd (PV.bd (PV.bd hV2 (ap_wd _ _ _)) (ap_wh _ _ _ _)) (ap_wd _ _ _)) (ap_wh _ _ _ _) z.1 z.2 hz
    obtain ⟨b1, b2, b3⟩ := PV.bd (PV.bd (PV.bd (PV.bd hW2 (ap_wd _ _ _)) (ap_wh _ _ _ _)) (ap_wd _ _ _)) (ap_wh _ _ _ _) z.1 z.2 hz
    obtain ⟨d1, d2, d3⟩ := PV.bd (PV.bd hV3 (ap_wd _ _ _)) (ap_wh _ _ _ _) z.1 z.2 hz
    obtain ⟨f1, f2, f3⟩ := hV4 z.1 z.2 hz
    have hO : OffL [111, 112, 113, 114, 115, 116] A6 (upd2 (upd2 (upd2 (upd2 (upd2 (upd2 A6.1 112 (w.1 2) uk) 113 (w.1 2) u1) 114 (w.1 2) (A2.1 100 15)) 115 (w.1 2) u3) 116 (w.1 2) u4) 111 3 (nI (w.1 2 + 1)), A6.2) := (((((OffL.rf.upd (by decide) _ _).upd (by decide) _ _).upd (by decide) _ _).upd (by decide) _ _).upd (by decide) _ _).upd (by decide) _ _
    have hx : ∀ x, 112 ≤ x → x ≤ 129 → A6.1 x = A4.1 x := fun x e1 e2 => (hO6 x (by simp; omega)).1
    have hM9 : RepM (addW w 2 (fun k => z.2.getD k 0)) (upd2 (upd2 (upd2 (upd2 (upd2 (upd2 A6.1 112 (w.1 2) uk) 113 (w.1 2) u1) 114 (w.1 2) (A2.1 100 15)) 115 (w.1 2) u3) 116 (w.1 2) u4) 111 3 (nI (w.1 2 + 1)), A6.2) := RepM.a2 (hM.fq hF24) (fun k hk h10 => by dsimp only; rw [upd2_off hk, upd2_ne (by decide), upd2_ne (by decide), upd2_ne (by decide), upd2_ne (by decide), upd2_ne (by decide)]; exact h6 k h10) (by dsimp only; rw [upd2_at]) (fun x q1 q2 e1 e2 e3 e4 e5 => by rw [(hO x (by simp; omega)).1]; exact hx x q1 q2) (fun i => by rw [← hx 112 (by decide) (by decide)]; simp only [upd2, k3]; simp) (fun i => by rw [← hx 113 (by decide) (by decide)]; simp only [upd2, a3]; simp) (fun i => by rw [← hx 114 (by decide) (by decide)]; simp only [upd2, b3]; simp) (fun i => by rw [← hx 115 (by decide) (by decide)]; simp only [upd2, d3]; simp) (fun i => by rw [← hx 116 (by decide) (by decide)]; simp only [upd2, f3]; simp)
    refine h _ ?_ (hF24.w.tr ((FW.o hO6 (by decide) (by decide)).tr (FW.o hO (by decide) (by decide))))
    rw [hch]
    exact ⟨(hLA.o (hO6 100 (by decide)).1 (hO6 100 (by decide)).2).o (hO 100 (by decide)).1 (hO 100 (by decide)).2, hM9, (show RN (nAdd nm (tkC (gB tp) n (tkE (gB tp) n p)) 2 (w.1 2)) A6 from hN6).o (by dsimp only; rw [upd2_off (by decide), upd2_ne (by decide), upd2_ne (by decide), upd2_ne (by decide), upd2_ne (by decide), upd2_ne (by decide)]) (hO 130 (by decide)).2 (hO 131 (by decide)).1 (hO 132 (by decide)).1⟩
  · skip
    obtain ⟨z, hz⟩ := sx_5 (by omega : sx (gB tp) n (bindP (bindP (bindP (bindP (bindP (bindP (bindP (bindP (lb0 (gB tp) n w 2 p) (sFr (gB tp) n nm)) (sKd (gB tp) n)) (sNm (gB tp) n nm 1)) (sNmC (gB tp) n nm 1 badU)) (sWd (gB tp) n 14)) (sWh (gB tp) n 1 99)) (sWd (gB tp) n 15)) (sWh (gB tp) n 0 20)) = 5)
    refine wr_v dX13_readThread_129 rfl ?_
    have h9 := hS4
    rw [hz] at h9 hch
    exact h _ (by rw [hch]; exact h9) (hF24.w)

set_option maxRecDepth 4000 in
theorem c_X13_readThread {K : Option Value → AH → Prop} {A : AH} {v : Value} {n p : Nat} {tp : Nat → Int32} {w : WT} {nm : NT} (hT : TA n tp A) (hA : LA (gB tp) n p A) (hM : RepM w A) (hN : RN nm A) (hP : PI w nm) (hj : lnS (gB tp) n p = some 2) (h : ∀ A', LSx (gB tp) n (lineP (gB tp) n w nm p) A' → FW A A' → K none A') : Ct yX13_readThread mX13_readThread 10 dM (GG v (.ref 111)) [.ref 100] A K := by
  refine Ct.of [some (.ref 100), none, none, none, none, none, none, none, none] rfl rfl rfl (Nat.le_of_ble_eq_true rfl) ?_
  have hk1 := kind1 hj
  have hr1 := hP.1 1 (by decide)
  have hr2 := hP.1 2 (by decide)
  have hrj := hP.1 2 (by decide)
  have hrn : roomN 2 = 7 := rfl
  have hb1 := hM.2.1 2 (by decide) (by decide)
  have hlp := line_of hP hj (by decide) (by decide)
  refine w_aload_n 1 dX13_readThread_0 rfl rfl ?_
  refine w_aload_n 2 dX13_readThread_1 rfl rfl ?_
  refine w_getr 5 dX13_readThread_2 rfl faX13_149 rfl rfl rfl (r := .ref 111) rfl ?_
  refine w_getiv 8 dX13_readThread_5 rfl faX13_241 rfl rfl rfl hb1 ?_
  refine w_bipush 10 dX13_readThread_8 rfl (v := nI 7) rfl ?_
  refine w_inv2 13 dX13_readThread_10 rfl mlX13_230 rfl rfl (d' := 2) (by decide) (Nat.le_of_ble_eq_true rfl) (c_X13_lineBegins (x := .inr (p, [])) (w := w) (b := roomN 2) hT hA (fun y e => by cases e; rw [hk1]; decide) (hM.sl hP) (by omega) (by decide) (fun A1 hS1 hF1 => ?_))
  refine w_aload_n 14 dX13_readThread_13 rfl rfl ?_
  refine w_inv0 17 dX13_readThread_14 rfl mlX13_234 rfl rfl (d' := 7) (by decide) (Nat.le_of_ble_eq_true rfl) (c_X13_readFresh (x := (lb0 (gB tp) n w 2 p)) (hT.fp hF1) hS1 (hN.fp hF1) (fun A2 u hS2 hV2 hF2 => ?_))
  have hF12 := hF1.q.tr hF2.q
  have hl1 : Ln (bindP (lb0 (gB tp) n w 2 p) (sFr (gB tp) n nm)) 0 := Ln.bd Ln_0 (ap_fr _ _ _)
  refine w_lst1 18 dX13_readThread_17 rfl (by decide) rfl ?_
  refine w_aload_n 19 dX13_readThread_18 rfl rfl ?_
  refine w_ldcS 21 dX13_readThread_19 rfl srX13_244 ?_
  refine w_inv1 24 dX13_readThread_21 rfl mlX13_125 rfl rfl (d' := 5) (by decide) (Nat.le_of_ble_eq_true rfl) (c_X13_isWord (x := bindP (lb0 (gB tp) n w 2 p) (sFr (gB tp) n nm)) (j := 10) (by decide) hS2 ?_)
  refine w_ifeqB 31 27 dX13_readThread_24 rfl rfl (fun c24 => ?_) (fun c24 => ?_)
  · skip
    refine w_aload_n 32 dX13_readThread_31 rfl rfl ?_
    refine w_ldcS 34 dX13_readThread_32 rfl srX13_245 ?_
    refine w_inv1 37 dX13_readThread_34 rfl mlX13_125 rfl rfl (d' := 5) (by decide) (Nat.le_of_ble_eq_true rfl) (c_X13_isWord (x := bindP (lb0 (gB tp) n w 2 p) (sFr (gB tp) n nm)) (j := 11) (by decide) hS2 ?_)
    refine w_ifeqB 44 40 dX13_readThread_37 rfl rfl (fun c37 => ?_) (fun c37 => ?_)
    · skip
      refine w_aload_n 45 dX13_readThread_44 rfl rfl ?_
      refine w_ldcS 47 dX13_readThread_45 rfl srX13_247 ?_
      refine w_inv1 50 dX13_readThread_47 rfl mlX13_125 rfl rfl (d' := 5) (by decide) (Nat.le_of_ble_eq_true rfl) (c_X13_isWord (x := bindP (lb0 (gB tp) n w 2 p) (sFr (gB tp) n nm)) (j := 12) (by decide) hS2 ?_)
      refine w_ifeqB 57 53 dX13_readThread_50 rfl rfl (fun c50 => ?_) (fun c50 => ?_)
      · skip
        refine w_aload_n 58 dX13_readThread_57 rfl rfl ?_
        refine w_ldcS 60 dX13_readThread_58 rfl srX13_249 ?_
        refine w_inv1 63 dX13_readThread_60 rfl mlX13_125 rfl rfl (d' := 5) (by decide) (Nat.le_of_ble_eq_true rfl) (c_X13_isWord (x := bindP (lb0 (gB tp) n w 2 p) (sFr (gB tp) n nm)) (j := 13) (by decide) hS2 ?_)
        refine w_ifeqB 70 66 dX13_readThread_63 rfl rfl (fun c63 => ?_) (fun c63 => ?_)
        · skip
          refine w_iconst 71 dX13_readThread_70 rfl (v := (-1)) rfl ?_
          refine w_ist3 72 dX13_readThread_71 rfl (by decide) rfl ?_
          refine w_iload_n 73 dX13_readThread_72 rfl rfl ?_
          refine w_iconst 74 dX13_readThread_73 rfl (v := (-1)) rfl ?_
          refine w_icne 82 77 dX13_readThread_74 rfl rfl (fun c74 => (by exact absurd rfl c74)) (fun c74 => ?_)
          refine w_aload_n 78 dX13_readThread_77 rfl rfl ?_
          refine w_iconst 79 dX13_readThread_78 rfl (v := nI 1) rfl ?_
          refine w_inv1 82 dX13_readThread_79 rfl mlX13_117 rfl rfl (d' := 0) (by decide) (Nat.le_of_ble_eq_true rfl) (s_X13_flaw (by decide) hS2 (fun A6 hS6 hF6 => ?_))
          refine w_aload_n 83 dX13_readThread_82 rfl rfl ?_
          refine w_inv0 86 dX13_readThread_83 rfl mlX13_114 rfl rfl (d' := 1) (by decide) (Nat.le_of_ble_eq_true rfl) (s_X13_goesOn (hT.fq (hF12.tr hF6.q)) (hS6) (fl_k) (fun A4 hS4 hF4 => ?_))
          have hb := kd_f c24 c37 c50 c63
          rw [flP_ad] at hS4
          exact a_X13_readThread (hT.fq ((hF12.tr hF6.q).tr hF4.q)) (hM.fq ((hF12.tr hF6.q).tr hF4.q)) (hN.fq ((hF12.tr hF6.q).tr hF4.q)) hP hj (by rw [hb]; exact hS4) (Ln.bd (Ln.bd Ln_0 (ap_fr _ _ _)) (ap_kd _ _)) (by rw [hb]; exact PV_fl) hV2 hlp (fun A5 h5 hF5 => h A5 h5 (((hF12.tr hF6.q).tr hF4.q).w.tr hF5))
        · skip
          refine w_iconst 67 dX13_readThread_66 rfl (v := nI 3) rfl ?_
          refine w_goto 71 dX13_readThread_67 rfl ?_
          refine w_ist3 72 dX13_readThread_71 rfl (by decide) rfl ?_
          refine w_iload_n 73 dX13_readThread_72 rfl rfl ?_
          refine w_iconst 74 dX13_readThread_73 rfl (v := (-1)) rfl ?_
          refine w_icne 82 77 dX13_readThread_74 rfl rfl (fun c74 => ?_) (fun c74 => (by exact absurd c74 (by decide)))
          refine w_aload_n 83 dX13_readThread_82 rfl rfl ?_
          refine w_inv0 86 dX13_readThread_83 rfl mlX13_114 rfl rfl (d' := 1) (by decide) (Nat.le_of_ble_eq_true rfl) (s_X13_goesOn (hT.fq hF12) (hS2) (fun z e => by obtain ⟨y, e2, _, hk⟩ := tkWx_t c63; rw [e] at e2; cases e2; rw [hk]; decide) (fun A4 hS4 hF4 => ?_))
          have hb := kd_3 c24 c37 c50 c63 hl1
          exact a_X13_readThread (hT.fq (hF12.tr hF4.q)) (hM.fq (hF12.tr hF4.q)) (hN.fq (hF12.tr hF4.q)) hP hj (by rw [hb.1]; exact ad_sr hS4) (Ln.bd (Ln.bd Ln_0 (ap_fr _ _ _)) (ap_kd _ _)) (hb.2) hV2 hlp (fun A5 h5 hF5 => h A5 h5 ((hF12.tr hF4.q).w.tr hF5))
      · skip
        refine w_iconst 54 dX13_readThread_53 rfl (v := nI 2) rfl ?_
        refine w_goto 71 dX13_readThread_54 rfl ?_
        refine w_ist3 72 dX13_readThread_71 rfl (by decide) rfl ?_
        refine w_iload_n 73 dX13_readThread_72 rfl rfl ?_
        refine w_iconst 74 dX13_readThread_73 rfl (v := (-1)) rfl ?_
        refine w_icne 82 77 dX13_readThread_74 rfl rfl (fun c74 => ?_) (fun c74 => (by exact absurd c74 (by decide)))
        refine w_aload_n 83 dX13_readThread_82 rfl rfl ?_
        refine w_inv0 86 dX13_readThread_83 rfl mlX13_114 rfl rfl (d' := 1) (by decide) (Nat.le_of_ble_eq_true rfl) (s_X13_goesOn (hT.fq hF12) (hS2) (fun z e => by obtain ⟨y, e2, _, hk⟩ := tkWx_t c50; rw [e] at e2; cases e2; rw [hk]; decide) (fun A4 hS4 hF4 => ?_))
        have hb := kd_2 c24 c37 c50 hl1
        exact a_X13_readThread (hT.fq (hF12.tr hF4.q)) (hM.fq (hF12.tr hF4.q)) (hN.fq (hF12.tr hF4.q)) hP hj (by rw [hb.1]; exact ad_sr hS4) (Ln.bd (Ln.bd Ln_0 (ap_fr _ _ _)) (ap_kd _ _)) (hb.2) hV2 hlp (fun A5 h5 hF5 => h A5 h5 ((hF12.tr hF4.q).w.tr hF5))
    · skip
      refine w_iconst 41 dX13_readThread_40 rfl (v := nI 1) rfl ?_
      refine w_goto 71 dX13_readThread_41 rfl ?_
      refine w_ist3 72 dX13_readThread_71 rfl (by decide) rfl ?_
      refine w_iload_n 73 dX13_readThread_72 rfl rfl ?_
      refine w_iconst 74 dX13_readThread_73 rfl (v := (-1)) rfl ?_
      refine w_icne 82 77 dX13_readThread_74 rfl rfl (fun c74 => ?_) (fun c74 => (by exact absurd c74 (by decide)))
      refine w_aload_n 83 dX13_readThread_82 rfl rfl ?_
      refine w_inv0 86 dX13_readThread_83 rfl mlX13_114 rfl rfl (d' := 1) (by decide) (Nat.le_of_ble_eq_true rfl) (s_X13_goesOn (hT.fq hF12) (hS2) (fun z e => by obtain ⟨y, e2, _, hk⟩ := tkWx_t c37; rw [e] at e2; cases e2; rw [hk]; decide) (fun A4 hS4 hF4 => ?_))
      have hb := kd_1 c24 c37 hl1
      exact a_X13_readThread (hT.fq (hF12.tr hF4.q)) (hM.fq (hF12.tr hF4.q)) (hN.fq (hF12.tr hF4.q)) hP hj (by rw [hb.1]; exact ad_sr hS4) (Ln.bd (Ln.bd Ln_0 (ap_fr _ _ _)) (ap_kd _ _)) (hb.2) hV2 hlp (fun A5 h5 hF5 => h A5 h5 ((hF12.tr hF4.q).w.tr hF5))
  · skip
    refine w_iconst 28 dX13_readThread_27 rfl (v := nI 0) rfl ?_
    refine w_goto 71 dX13_readThread_28 rfl ?_
    refine w_ist3 72 dX13_readThread_71 rfl (by decide) rfl ?_
    refine w_iload_n 73 dX13_readThread_72 rfl rfl ?_
    refine w_iconst 74 dX13_readThread_73 rfl (v := (-1)) rfl ?_
    refine w_icne 82 77 dX13_readThread_74 rfl rfl (fun c74 => ?_) (fun c74 => (by exact absurd c74 (by decide)))
    refine w_aload_n 83 dX13_readThread_82 rfl rfl ?_
    refine w_inv0 86 dX13_readThread_83 rfl mlX13_114 rfl rfl (d' := 1) (by decide) (Nat.le_of_ble_eq_true rfl) (s_X13_goesOn (hT.fq hF12) (hS2) (fun z e => by obtain ⟨y, e2, _, hk⟩ := tkWx_t c24; rw [e] at e2; cases e2; rw [hk]; decide) (fun A4 hS4 hF4 => ?_))
    have hb := kd_0 c24 hl1
    exact a_X13_readThread (hT.fq (hF12.tr hF4.q)) (hM.fq (hF12.tr hF4.q)) (hN.fq (hF12.tr hF4.q)) hP hj (by rw [hb.1]; exact ad_sr hS4) (Ln.bd (Ln.bd Ln_0 (ap_fr _ _ _)) (ap_kd _ _)) (hb.2) hV2 hlp (fun A5 h5 hF5 => h A5 h5 ((hF12.tr hF4.q).w.tr hF5))

