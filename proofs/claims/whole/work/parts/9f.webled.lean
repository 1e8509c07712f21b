/-! ===== the law: web and led ===== -/
def KCw (H I : Nat → Nat → Nat) (nx n0 : Nat) (tp : Nat → Int32) (x : Int32) (A : AH) : Option Value → AH → Prop := fun o A' => (tB n0 x ≠ 0 ∧ KC A 2 (.int (-1)) o A') ∨ (∃ n f' pl', x = nI n ∧ n ≤ n0 ∧ allP (gB tp) n (n + 1) 0 emptyW noN = .inl (f', pl') ∧ A'.1 0 8 = nI 4 ∧ FL f' pl' A' ∧ A'.1 7 1 = nI 0 ∧ OffL (0 :: rdL) A A' ∧ o = some (.int (-1))) ∨ (∃ n w' s', x = nI n ∧ n ≤ n0 ∧ allP (gB tp) n (n + 1) 0 emptyW noN = .inr w' ∧ begOK w' (w'.1 2) s' ∧ CI w' s' A' ∧ RepP H I nx 0 0 A' ∧ RdI 0 (-1) 0 tp A' ∧ LR w' A' ∧ A'.1 0 8 = nI 0 ∧ o = some (.int (nI (w'.1 1))))
theorem cw_web {w : WT} {s : Nat → Nat} {H I : Nat → Nat → Nat} {nx c m f n0 : Nat} {pl : Int32} {tp : Nat → Int32} {t : Nat} {hw : Bool} {Ac Am : AH} {x : Int32} (h : JT w s H I nx c m f pl n0 tp t hw Ac Am) : Ct yX11_web mX11_web 10 dC gC [.ref 0, .int x] Ac (KCw H I nx n0 tp x Ac) :=
  c_X11_web h.1.1 h.1.2.1 h.1.2.2.1 h.2.2.1 (fun h A' hQ ht => Or.inl ⟨h, hQ, ht, rfl⟩) (fun n f' pl' e1 e2 e3 A' g1 g2 g3 g4 => Or.inr (Or.inl ⟨n, f', pl', e1, e2, e3, g1, g2, g3, g4, rfl⟩)) (fun n w' s' e1 e2 e3 e4 A' g1 g2 g3 g4 g5 => Or.inr (Or.inr ⟨n, w', s', e1, e2, e3, e4, g1, g2, g3, g4, g5, rfl⟩))
theorem KCw_v {H I : Nat → Nat → Nat} {nx n0 : Nat} {tp : Nat → Int32} {x : Int32} {A A' : AH} {o1 : Option Value} (h : KCw H I nx n0 tp x A o1 A') : ∃ u : Int32, o1 = some (.int u) := by
  rcases h with ⟨-, h⟩ | ⟨_, _, _, -, -, -, -, -, -, -, h⟩ | ⟨_, _, _, -, -, -, -, -, -, -, -, -, h⟩
  · exact ⟨_, h.2.2⟩
  · exact ⟨_, h⟩
  · exact ⟨_, h⟩
theorem tB_in {n n0 : Nat} (h : n ≤ n0) (h9 : n0 ≤ 900) : tB n0 (nI n) = 0 := by
  unfold tB
  rw [if_pos ⟨by rw [← nI_0]; exact (nI_leI (by decide) (by omega)).mpr (Nat.zero_le _), (nI_leI (by omega) (by omega)).mpr h⟩]
theorem lv_re {ls : Array Slot} {b qo i : Nat} {ρ ρ2 : Nat → Nat} (hv : lv_has ls 7 (lvL b ρ qo i)) (h0 : ρ2 0 = ρ 0) (h1 : ρ2 100 = ρ 100) : lv_has ls 7 (lvL b ρ2 qo i) := by
  show lv_has ls 7 [(4, .int (nI i)), (3, .ref qo), (2, .ref (ρ2 100)), (1, .ref (ρ2 0)), (0, .ref b)]
  rw [h0, h1]
  exact hv
set_option maxRecDepth 4000 in
theorem law_1 {p : Program} {l : Launch} {e : Env} {s : State} {m : MethodId} {below : List Frame} {meth : Method} {c : Code} {b L i : Nat} {xs : Nat → Int32} {H : Heap} {locs : List Loc} {ce sl : Nat} {Q : State → Prop} {D : va_G} {aC : Nat → ClassId} {ρ : Nat → Nat} {ls : Array Slot} {r : Value} {hw : Bool} {Ac Am : AH} {qo : Nat} {f : Nat → Int64} {w : WT} {sN : Nat → Nat} {HH II : Nat → Nat → Nat} {nx cN mN fN : Nat} {pl : Int32} {n0 : Nat} {tp : Nat → Int32} {tN : Nat} (hF : CallFix p m c code 7 s #[Value.ref b] TW RL) (hX : va_X b L xs s s.heap) (hbl : b < s.heap.size) (hL : L ≤ 3072) (hi : i + 5 < L) (hI : LI D aC s ρ r hw Ac Am qo f H) (hJ : JT w sN HH II nx cN mN fN pl n0 tp tN hw Ac Am) (hS : va_S (BL s) s.heap H locs) (hv : lv_has ls 7 (lvL b ρ qo i)) (hR : ce + 22 ≤ room_1.cells ∧ sl + 181 ≤ room_1.slots) (nxt : NX p l e s m below meth c b D aC qo i ce sl Q) : W p l e room_1 s m #[Value.ref b] below meth c H locs ce sl Q (F0 m 353 ls []) := by
  have hR0 : ce ≤ room_1.cells ∧ sl ≤ room_1.slots := ⟨by omega, by omega⟩
  refine lv_aload_n hF.1 hF.2.1 dL_law_353 rfl (lv_at hv 3 rfl) ?_
  refine ls_arg (k := 1) (q := 360) hF hX hbl hS hv (by omega) hL rfl rfl dL_law_354 dL_law_355 dL_law_357 dL_law_358 dL_law_359 ?_
  refine lC (As := [.int (xs (i + 1))]) (rest := []) hF hI hS hv.1 hR0 (cw_web hJ) mlL_24 rfl rfl ⟨by decide, by decide⟩ (Nat.le_of_ble_eq_true rfl) dL_law_360 (fun v1 A1 H1 locs1 hk1 hI1 hS1 => ?_)
  obtain ⟨u1, hu1⟩ := KCw_v hk1
  rw [hu1]
  refine W.eq (g2 := F0 m 363 ls [.int u1]) rfl ?_
  refine lv_aload_n hF.1 hF.2.1 dL_law_363 rfl (lv_at hv 2 rfl) ?_
  refine ls_arg (k := 1) (q := 370) hF hX hbl hS1 hv (by omega) hL rfl rfl dL_law_364 dL_law_365 dL_law_367 dL_law_368 dL_law_369 ?_
  have h9 := hJ.1.2.2.1.2.2.2.1
  refine lW (x := xs (i + 1)) (rest := [.int u1]) (n0 := n0) (tp := tp) hF hI1 hS1 hv.1 hR ⟨by decide, by decide⟩ hJ.2.1.1 h9 hJ.2.1.2.1 hJ.2.2.1 (Nat.le_of_ble_eq_true rfl) dL_law_370 (fun ht A2 H2 locs2 hk2 hI2 hS2 => ?_) (fun n f' pl' x1 x2 x3 ρ2 r2 A2 H2 locs2 r0 r1 hFM g6 g1 g2 g12 hI2 hS2 => ?_) (fun n w' x1 x2 x3 ρ2 r2 A2 H2 locs2 r0 r1 hMC g6 g12 g1 g2 hI2 hS2 => ?_)
  · rcases hk1 with ⟨-, k1⟩ | ⟨n, f', pl', y1, y2, -⟩ | ⟨n, w', s', y1, y2, -⟩
    · have e1 : u1 = -1 := by have := hu1.symm.trans k1.2.2; cases this; rfl
      refine lv_icmp_eq (tgt := 2007) hF.1 hF.2.1 dL_law_373 (by decide) (fun _ => ?_) (fun z => absurd (e1) z)
      exact nxt _ _ _ _ _ _ _ _ _ _ _ hI2 (hJ.q k1 hk2 (by decide)) hS2 hv (Nat.le_refl _) (Nat.le_refl _)
    · exact absurd (by rw [y1]; exact tB_in y2 h9) ht
    · exact absurd (by rw [y1]; exact tB_in y2 h9) ht
  · rcases hk1 with ⟨ht, -⟩ | ⟨n2, f2, pl2, y1, y2, y3, k8, kF, k7, kO, ko⟩ | ⟨n2, w', s', y1, y2, y3, -⟩
    · exact absurd (by rw [x1]; exact tB_in x2 h9) ht
    · have en : n = n2 := (nI_eq (by omega) (by omega)).mp (x1.symm.trans y1)
      subst en
      have e3 := x3.symm.trans y3
      cases e3
      have e1 : u1 = -1 := by have := hu1.symm.trans ko; cases this; rfl
      refine lv_icmp_eq (tgt := 2007) hF.1 hF.2.1 dL_law_373 (by decide) (fun _ => ?_) (fun z => absurd (e1) z)
      exact nxt _ _ _ _ _ _ _ _ _ _ _ hI2 (hJ.wf k8 kF k7 kO g6 g12 g1 g2 (fun z => hFM.mc (hJ.2.2.2.2.1 z).1 (hJ.2.2.2.2.1 z).2)) hS2 (lv_re hv r0 r1) (Nat.le_refl _) (Nat.le_refl _)
    · have en : n = n2 := (nI_eq (by omega) (by omega)).mp (x1.symm.trans y1)
      subst en
      have e3 := x3.symm.trans y3
      cases e3
  · rcases hk1 with ⟨ht, -⟩ | ⟨n2, f2, pl2, y1, y2, y3, -⟩ | ⟨n2, w2, s2, y1, y2, y3, kb, k1, k2, k3, k4, k8, ko⟩
    · exact absurd (by rw [x1]; exact tB_in x2 h9) ht
    · have en : n = n2 := (nI_eq (by omega) (by omega)).mp (x1.symm.trans y1)
      subst en
      have e3 := x3.symm.trans y3
      cases e3
    · have en : n = n2 := (nI_eq (by omega) (by omega)).mp (x1.symm.trans y1)
      subst en
      have e3 := x3.symm.trans y3
      cases e3
      have e1 : u1 = nI (w'.1 1) := by have := hu1.symm.trans ko; cases this; rfl
      refine lv_icmp_eq (tgt := 2007) hF.1 hF.2.1 dL_law_373 (by decide) (fun _ => ?_) (fun z => absurd (e1) z)
      exact nxt _ _ _ _ _ _ _ _ _ _ _ hI2 ⟨w', s2, HH, II, nx, 0, 0, 0, -1, 0, tp, 0, ⟨k1, k2, k3, k4, k8⟩, ⟨g6, fun i hi => absurd hi (Nat.not_lt_zero i), g12, g1, by rw [g2, if_neg (by decide)]⟩, fun i hi => absurd hi (Nat.not_lt_zero i), by decide, fun _ => ⟨(hMC s2 kb).1, (hMC s2 kb).2 HH II⟩, fun z => by cases z⟩ hS2 (lv_re hv r0 r1) (Nat.le_refl _) (Nat.le_refl _)
def KLm (s : Nat → Nat) (x : Int32) (A : AH) : Option Value → AH → Prop := fun o A' => (QM A A' ∧ A'.1 100 1 = A.1 100 1 ∧ A'.1 100 2 = A.1 100 2) ∧ ((∃ t, fst1 (ledAt s x) (s 1) = some t ∧ A'.1 100 0 = 0 ∧ o = some (.int (nI t))) ∨ (fst1 (ledAt s x) (s 1) = none ∧ A'.1 100 0 = 1 ∧ o = some (.int (nI 0))))
theorem em_led {w : WT} {s : Nat → Nat} {H I : Nat → Nat → Nat} {nx c m f n0 : Nat} {pl : Int32} {tp : Nat → Int32} {t : Nat} {hw : Bool} {Ac Am : AH} {r : Value} {x : Int32} (h : JT w s H I nx c m f pl n0 tp t hw Ac Am) : Ct yX13_led mX13_led 4 (dW hw) (GW hw r) [.ref 100, .int x] Am (KLm s x Am) := by
  cases hw with
  | true => exact c_X13_led (h.2.2.2.2.1 rfl).1 (fun t A' e hQ g1 g2 g3 => ⟨⟨hQ, g1, g2⟩, Or.inl ⟨t, e, g3, rfl⟩⟩) (fun e A' hQ g1 g2 g3 => ⟨⟨hQ, g1, g2⟩, Or.inr ⟨e, g3, rfl⟩⟩)
  | false =>
    have e1 := (h.2.2.2.2.2 rfl).2.2.1
    exact n_X13_led (fun A' hQ g1 g2 g3 => ⟨⟨hQ, g1, g2⟩, Or.inr ⟨by rw [e1]; rfl, g3, rfl⟩⟩)
theorem em_thrown {hw : Bool} {r : Value} {Am : AH} {v : Int32} (h : Am.1 100 0 = v) : Ct yX13_thrown mX13_thrown 0 (dW hw) (GW hw r) [.ref 100] Am (KE Am (.int v)) := by
  cases hw with
  | true => exact c_X13_thrown h ⟨rfl, rfl⟩
  | false => exact c_X13_thrownN h ⟨rfl, rfl⟩
theorem out_lald {p : Program} {l : Launch} {e : Env} {R : Room} {s : State} {m : MethodId} {args : Array Value} {below : List Frame} {meth : Method} {c : Code} {H : Heap} {locs : List Loc} {cells slots : Nat} {Q : State → Prop} {cc : ByteArray} {pc : Nat} {ls : Array Slot} {rest : List Value} {aC : Nat → ClassId} {qo : Nat} {f : Nat → Int64} (hexec : p.tables.exec = Jvm.exec) (hb : c.code = cc) (hA : ArrOfT s (aC 3) .long) (hO : OC aC qo f H) (hdg : decode cc pc = .ok (.laload, 1))
    (kk : W p l e R s m args below meth c H locs cells slots Q (F0 m (pc + 1) ls (.long (f 0) :: rest))) : W p l e R s m args below meth c H locs cells slots Q (F0 m pc ls (.int 0 :: .ref qo :: rest)) := by
  refine W.lald (v := .long (f 0)) hexec hb hO (hA 1 (fun j => .long (f j))) (fun q => by cases q) (by show ¬ ((0 : Int32) < 0 ∨ (arrV _ _ _).slots.size ≤ _); rw [arrV_size]; show ¬ ((0 : Int32) < 0 ∨ 1 ≤ (0 : Int32).toNatClampNeg); decide) ?_ rfl rfl hdg kk
  exact arrV_read (aC 3) (fun j => Value.long (f j)) (show 0 < 1 by decide)
set_option maxRecDepth 4000 in
theorem law_53 {p : Program} {l : Launch} {e : Env} {s : State} {m : MethodId} {below : List Frame} {meth : Method} {c : Code} {b L i : Nat} {xs : Nat → Int32} {H : Heap} {locs : List Loc} {ce sl : Nat} {Q : State → Prop} {D : va_G} {aC : Nat → ClassId} {ρ : Nat → Nat} {ls : Array Slot} {r : Value} {hw : Bool} {Ac Am : AH} {qo : Nat} {f : Nat → Int64} {w : WT} {sN : Nat → Nat} {HH II : Nat → Nat → Nat} {nx cN mN fN : Nat} {pl : Int32} {n0 : Nat} {tp : Nat → Int32} {tN : Nat} (hl : l.stackTraces = false) (hZ : ZT (BL s) s s.heap) (hF : CallFix p m c code 7 s #[Value.ref b] TW RL) (hX : va_X b L xs s s.heap) (hbl : b < s.heap.size) (hL : L ≤ 3072) (hi : i + 5 < L) (hI : LI D aC s ρ r hw Ac Am qo f H) (hJ : JT w sN HH II nx cN mN fN pl n0 tp tN hw Ac Am) (hS : va_S (BL s) s.heap H locs) (hv : lv_has ls 7 (lvL b ρ qo i)) (hR : ce + 22 ≤ room_1.cells ∧ sl + 181 ≤ room_1.slots) (nxt : NX p l e s m below meth c b D aC qo i ce sl Q) : W p l e room_1 s m #[Value.ref b] below meth c H locs ce sl Q (F0 m 1913 ls []) := by
  have hR0 : ce + 1 ≤ room_1.cells ∧ sl + 6 ≤ room_1.slots := ⟨by omega, by omega⟩
  refine lv_aload_n hF.1 hF.2.1 dL_law_1913 rfl (lv_at hv 3 rfl) ?_
  refine ls_arg (k := 1) (q := 1920) hF hX hbl hS hv (by omega) hL rfl rfl dL_law_1914 dL_law_1915 dL_law_1917 dL_law_1918 dL_law_1919 ?_
  refine lv_aload_n hF.1 hF.2.1 dL_law_1920 rfl (lv_at hv 1 rfl) ?_
  obtain ⟨hE, hWc, hWm, hO, hd1, hd2, hqo⟩ := hI
  have hqz : qo < H.size := (Array.getElem?_eq_some_iff.mp hO).1
  have hnq : ¬ fr ρ dC qo := fun z => (hd1 qo z).2.1 rfl
  have hFl : ∀ q, FLo ρ H.size qo q → BL s q := fun q h => h.elim (fun h => h.elim (fun h => (hd1 q h).1) (fun h => Nat.le_trans hS.1 h)) (fun h => by rw [h]; exact hqo)
  refine va_calli (A0 := BL s) (vx_runSW (As := [.ref (ρ 0), .int (xs (i + 1)), .ref qo]) (rest := []) hF (c_Lled (x := xs (i + 1)) hJ.1.1 l hl D aC ρ H.size qo f hnq) (vx_cwSW 3 hF.2.2.2.2 lled_ws rfl rfl rfl (by decide +kernel) ⟨by decide, by decide⟩) ⟨fb_PLL, fun U hU hWmm => ⟨rfl, ⟨by rw [hU], by rw [hU]; exact hWc.moved hWmm.alike, (hE.at hS hU hWmm).narrow hFl, (hZ.at hS hU hWmm).narrow hFl⟩, by rw [hU]; exact hO⟩⟩ rfl rfl hv.1 rfl (lv_room (Nat.le_of_ble_eq_true rfl)) dL_law_1921 hR0) hS (fun q _ h => hFl q h) hFl (fun k fo u H1 locs1 hu hal hpost hwo hsz hkp hS1 => ?_)
  obtain ⟨hW1, hO1⟩ := hwo
  rw [hu] at hW1 hO1
  have hW1 := WD.moved (u := u) (U := s) hal.symm hW1
  have hI1 : LI D aC s ρ r hw Ac Am qo fo H1 := ⟨hE, hW1, hWm.keep (fun q h1 h2 => hkp q h1 (fun z => z.elim (fun z => z.elim (fun z => (hd1 q z).2.2 h2) (fun z => absurd h1 (Nat.not_lt.mpr z))) (fun z => (hd2 q h2).2 z))), hO1, hd1, hd2, hqo⟩
  refine lv_istore (lv' := (5, .int k) :: lvL b ρ qo i) hF.1 hF.2.1 dL_law_1924 hv (by decide) rfl (fun ls5 hv5 => ?_)
  have hv := lv_sub (l' := lvL b ρ qo i) hv5 [1, 2, 3, 4, 5] rfl
  refine lv_aload_n hF.1 hF.2.1 dL_law_1926 rfl (lv_at hv 2 rfl) ?_
  refine ls_arg (k := 1) (q := 1933) hF hX hbl hS1 hv (by omega) hL rfl rfl dL_law_1927 dL_law_1928 dL_law_1930 dL_law_1931 dL_law_1932 ?_
  refine lM (As := [.int (xs (i + 1))]) (rest := []) hF hI1 hS1 hv.1 hR0 (em_led hJ) mlL_246 rfl rfl ⟨by decide, by decide⟩ (Nat.le_of_ble_eq_true rfl) dL_law_1933 (fun v2 A2 H2 locs2 hk2 hI2 hS2 => ?_)
  have hJS := hJ.ql hk2.1.1 hk2.1.2.1 hk2.1.2.2
  obtain ⟨bv, hbv⟩ : ∃ bv : Int32, v2 = some (.int bv) := by rcases hk2.2 with ⟨t, -, -, h⟩ | ⟨-, -, h⟩ <;> exact ⟨_, h⟩
  rw [hbv]
  refine W.eq (g2 := F0 m 1936 ls5 [.int bv]) rfl ?_
  refine lv_istore (lv' := (6, .int bv) :: (5, .int k) :: lvL b ρ qo i) hF.1 hF.2.1 dL_law_1936 hv5 (by decide) rfl (fun ls6 hv6 => ?_)
  have hv := lv_sub (l' := lvL b ρ qo i) hv6 [2, 3, 4, 5, 6] rfl
  refine lv_aload_n hF.1 hF.2.1 dL_law_1938 rfl (lv_at hv 2 rfl) ?_
  refine lM (As := []) (rest := []) hF hI2 hS2 hv.1 hR0 (em_thrown rfl) mlL_247 rfl rfl ⟨by decide, by decide⟩ (Nat.le_of_ble_eq_true rfl) dL_law_1939 (fun v3 A3 H3 locs3 hk3 hI3 hS3 => ?_)
  obtain ⟨rfl, rfl⟩ := hk3
  refine W.eq (g2 := F0 m 1942 ls6 [.int (A3.1 100 0)]) rfl ?_
  refine lv_iload hF.1 hF.2.1 dL_law_1942 (lv_at hv6 1 rfl) ?_
  have hth : A3.1 100 0 = k := by
    rcases hpost with ⟨e1, t, e2, -⟩ | ⟨e1, e2⟩ <;> rcases hk2.2 with ⟨t2, g1, g2, -⟩ | ⟨g1, g2, -⟩
    · rw [g2, e1]
    · rw [g1] at e2; cases e2
    · rw [g1] at e2; cases e2
    · rw [g2, e1]
  refine lv_icmp_eq (tgt := 1949) hF.1 hF.2.1 dL_law_1944 (by decide) (fun _ => ?_) (fun z => absurd hth z)
  refine lv_iload hF.1 hF.2.1 dL_law_1949 (lv_at hv6 1 rfl) ?_
  refine lv_if_ne (tgt := 1966) hF.1 hF.2.1 dL_law_1951 (by decide) (fun _ => ?_) (fun hk0 => ?_)
  · refine lv_goto (tgt := 2007) hF.1 hF.2.1 dL_law_1966 (by decide) ?_
    exact nxt _ _ _ _ _ _ _ _ _ _ _ hI3 hJS hS3 hv (by omega) (by omega)
  refine lv_aload_n hF.1 hF.2.1 dL_law_1954 rfl (lv_at hv 1 rfl) ?_
  refine lv_iconst (v := 0) hF.1 hF.2.1 dL_law_1955 rfl ?_
  refine out_lald hF.1 hF.2.1 (hWc.2.2.2 3 (aC 3, .long) rfl).1 hI3.2.2.2.1 dL_law_1956 ?_
  refine lv_iload hF.1 hF.2.1 dL_law_1957 (lv_at hv6 0 rfl) ?_
  refine lv_i2l (v := bv.toInt64) hF.1 hF.2.1 dL_law_1959 rfl ?_
  refine W.lcmp hF.1 hF.2.1 dL_law_1960 ?_
  have hfo : fo 0 = bv.toInt64 := by
    rcases hpost with ⟨e1, t, e2, e3⟩ | ⟨e1, -⟩
    · rcases hk2.2 with ⟨t2, g1, -, g3⟩ | ⟨g1, -, -⟩
      · rw [e2] at g1
        cases g1
        rw [hbv] at g3
        cases g3
        exact e3
      · rw [g1] at e2; cases e2
    · rw [e1] at hk0; cases hk0
  rw [hfo]
  refine lv_if_eq (tgt := 1966) hF.1 hF.2.1 dL_law_1961 (by decide) (fun _ => ?_) (fun z => absurd (lgc _) z)
  refine lv_goto (tgt := 2007) hF.1 hF.2.1 dL_law_1966 (by decide) ?_
  exact nxt _ _ _ _ _ _ _ _ _ _ _ hI3 hJS hS3 hv (by omega) (by omega)
