/-! ===== the law's start ===== -/
theorem l_new {p : Program} {l : Launch} {e : Env} {R : Room} {s : State} {m : MethodId} {args : Array Value} {below : List Frame} {meth : Method} {c : Code} {H : Heap} {locs : List Loc} {ce sl : Nat} {Q : State → Prop} {D : va_G} {aC : Nat → ClassId} {ρ : Nat → Nat} {pc : Nat} {ls : Array Slot} {rest : List Value} {G : Nat → Nat → Value} {A : AH} {i ci ob : Nat} (hF : CallFix p m c code 7 s args TW RL) (hK : va_K D classes (tysA aC) s) (hN : NL RL i ci) (hd : decode code pc = .ok (.new i, 3)) (hs : shp ob = .inl ci) (hr : ρ ob = H.size) (hz : (∀ k, A.1 ob k = 0) ∧ (∀ k, A.2 ob k = 0) ∧ ∀ k, G ob k = .null) (hS : va_S (BL s) s.heap H locs) (hR : ce + 1 ≤ R.cells ∧ sl + clN ci ≤ R.slots)
    (kk : ∀ H1 : Heap, H1.size = H.size + 1 → (∀ q, q < H.size → H1[q]? = H[q]?) → WD D aC ρ (ob, 1) G A s H1 → va_S (BL s) s.heap H1 locs → W p l e R s m args below meth c H1 locs (ce + 1) (sl + clN ci) Q (F0 m (pc + 3) ls (.ref (ρ ob) :: rest))) : W p l e R s m args below meth c H locs ce sl Q (F0 m pc ls rest) := by
  obtain ⟨h1, l1, l2, l3⟩ := hN
  have hts := hF.2.2.2.2
  have hKn := hK.1 ci _ (cl_at h1)
  have hW0 : WD D aC ρ (ob, 0) G A s H := ⟨fun k q h => by simp [wsA, dmL] at h, ⟨fun i j p q h => by simp [wsA, dmL] at h, fun k q h => by simp [wsA, dmL] at h⟩, hK⟩
  refine W.newcK hF.1 hF.2.1 hF.2.2.2.1 (hts _ l1) (hts _ l2) (hts _ l3) rfl hd hR.1 hR.2 hKn.2.1 rfl fun H1 kC hkC e1 z1 o1 => ?_
  have hb : t_OB H.size (D.1 ci) (clN ci) (D.2 ci) H1 (fun k => defaultValue (clTy ci k)) := u_born (clTy ci) hts (cl_in h1) hKn hkC e1 (cl_ty h1)
  have ha : va_at D classes (ρ (ob + 0), cellE aC ρ G A (ob + 0)) H1 := by
    show va_at D classes (ρ ob, cellE aC ρ G A ob) H1
    simp only [cellE, hs]
    refine ⟨_, cl_at h1, ?_⟩
    rw [hr]
    refine hb.to (fun j hj => ?_)
    rw [cl_dv h1 j hj]
    have hj2 : j < clN ci := hj
    unfold vp_V
    rw [List.getD_eq_getElem?_getD, List.getElem?_map, List.getElem?_range hj2, Option.map_some, Option.getD_some]
    exact (fvk_z (hz.1 j) (hz.2.1 j) (hz.2.2 j)).symm
  have hW1 := hW0.push hr o1 ha
  have := kk H1 z1 o1 hW1 ⟨Nat.le_trans hS.1 (by omega), fun x g1 g2 => (o1 x (Nat.lt_of_lt_of_le g1 hS.1)).trans (hS.2.1 x g1 g2), hS.2.2⟩
  rw [hr] at this
  exact this
/-- a constructor, as the tables link it from the law -/
def IM (index : Nat) (y : MethodName) (M' : MI) : Prop := Cond.methodLink RL index y ∈ TW ∧ Cond.instanceMethod y ∈ TW ∧ Cond.initialized y.cls ∈ TW ∧ Cond.code y M'.2.1 M'.2.2.1 M'.2.2.2 ∈ TW ∧ (y.cls ≠ "java/lang/invoke/MethodHandle" ∧ y.cls ≠ "java/lang/invoke/VarHandle" ∧ (parseMethodDescriptor y.desc).map (fun d => d.parameters.length) = some 0) ∧ M'.2.2.1 = 1 ∧ M'.2.2.2 = none ∧ y.name = "<init>"
theorem imC : IM 15 yX11_init mX11_init := ⟨TW_at 140 (by decide +kernel) (by decide +kernel), TW_at 141 (by decide +kernel) (by decide +kernel), TW_at 113 (by decide +kernel) (by decide +kernel), TW_at 142 (by decide +kernel) (by decide +kernel), by decide +kernel, rfl, rfl, rfl⟩
theorem imM : IM 18 yX13_init mX13_init := ⟨TW_at 1322 (by decide +kernel) (by decide +kernel), TW_at 1323 (by decide +kernel) (by decide +kernel), TW_at 125 (by decide +kernel) (by decide +kernel), TW_at 1324 (by decide +kernel) (by decide +kernel), by decide +kernel, rfl, rfl, rfl⟩
theorem l_init {p : Program} {l : Launch} {e : Env} {R : Room} {s : State} {m : MethodId} {args : Array Value} {below : List Frame} {meth : Method} {c : Code} {H : Heap} {locs : List Loc} {ce sl : Nat} {Q : State → Prop} {D : va_G} {aC : Nat → ClassId} {ρ : Nat → Nat} {pc : Nat} {ls : Array Slot} {rest : List Value} {G G1 : Nat → Nat → Value} {A A1 : AH} {i d' mc' ms' b N n ob n1 : Nat} {y : MethodName} {M' : MI} (hF : CallFix p m c code 7 s args TW RL) (hm : IM i y M') (hc : CtI y M' d' mc' ms' b N n ob G A (n1, G1, A1)) (hd : decode code pc = .ok (.invokespecial i, 3)) (hgr : grw ρ b n N H.size) (hW : WD D aC ρ (b, n) G A s H) (hB : ∀ q, fr ρ (b, n) q → BL s q) (hE : EX (BL s) ρ s s.heap) (hS : va_S (BL s) s.heap H locs) (hls : ls.size = 7) (hst : (rest.map (fun v => v.category)).sum ≤ 8) (hR1 : d' + 1 ≤ R.frames ∧ 20 + 38 * d' ≤ R.locals) (hR : ce + mc' ≤ R.cells ∧ sl + ms' ≤ R.slots)
    (kk : ∀ (H1 : Heap) (locs1 : List Loc), WD D aC ρ (b, n1) G1 A1 s H1 → (∀ q, q < H.size → ¬ fr ρ (b, n) q → H1[q]? = H[q]?) → H.size ≤ H1.size → va_S (BL s) s.heap H1 locs1 → W p l e R s m args below meth c H1 locs1 (ce + mc') (sl + ms') Q (F0 m (pc + 3) ls rest)) : W p l e R s m args below meth c H locs ce sl Q (F0 m pc ls (.ref (ρ ob) :: rest)) := by
  obtain ⟨m1, m2, m3, m4, m5, m6, m7, m8⟩ := hm
  have hts := hF.2.2.2.2
  have hfB : ∀ q, fB ρ b n H.size q → BL s q := fun q hq => hq.elim (hB q) (fun z => Nat.le_trans hS.1 z)
  have hcI := hc l D aC ρ H.size
  have hG := TW_cons m4
  rw [m7] at hcI hG
  have hrun := va_runI (meth := meth) (locs := locs) (H := H) (below := below) (e := e) (cells := ce) (slots := sl) (g := F0 m pc ls (.ref (ρ ob) :: rest)) (rest := rest) (As := []) (b := ρ ob) hF hcI (cwI (R := R) (rm := rmI d' mc' ms') (mc := mc') (ms := ms') (maxL := M'.2.2.1) (bytes := M'.2.1) 0 hts hG rfl rfl rfl (hts _ m3) (hts _ m1) (hts _ m2) m8 m5 ⟨hR1.1, by show 8 + (M'.2.2.1 + 11) + 38 * d' ≤ _; omega⟩) ⟨fb_PI, fun U hU hWm => ⟨rfl, by rw [hU], hgr, by rw [hU]; exact hW.moved hWm.alike, (hE.at hS hU hWm).narrow hfB⟩⟩ rfl rfl hls rfl (lv_room hst) hd hR
  intro U hU XU
  obtain ⟨v0, st₀, t, U', Ls, g0, X', hL, e1, e2, ⟨⟨hv0, hgr1, hwd⟩, hz, hko⟩, st⟩ := hrun U hU XU
  cases hv0
  rw [g0] at hz hko
  have hwd' : WD D aC ρ (b, n1) G1 A1 s U'.heap := by
    rw [e1]
    exact WD.moved (by rw [← e2]; exact X'.warmed.alike.symm) hwd
  have hS1 : va_S (BL s) s.heap U'.heap (locs ++ Ls) := ⟨Nat.le_trans hS.1 (by rw [e1]; exact hz), fun q g1 g2 => by rw [e1, hko q (Nat.lt_of_lt_of_le g1 hS.1) (fun z => g2 (hfB q z))]; exact hS.2.1 q g1 g2, fun q hq => by
      rcases List.mem_append.mp hq with h | h
      · exact hS.2.2 q h
      · exact hfB _ (hL q h)⟩
  obtain ⟨t2, a1, b1⟩ := kk U'.heap (locs ++ Ls) hwd' (fun q g1 g2 => by rw [e1]; exact hko q g1 (fun z => z.elim g2 (fun z => absurd g1 (Nat.not_lt.mpr z)))) (by rw [e1]; exact hz) hS1 U' rfl X'
  exact ⟨t2, st t2 a1, b1⟩
def eqV : Value → Value → Bool
  | .ref a, .ref b => Nat.beq a b
  | .null, .null => true
  | _, _ => false
theorem eqV_eq {v u : Value} (h : eqV v u = true) : v = u := by
  cases v <;> cases u <;> simp only [eqV] at h <;> first | rfl | exact congrArg Value.ref (Nat.eq_of_beq_eq_true h) | cases h
abbrev Gz : Nat → Nat → Value := fun _ _ => .null
abbrev Az : AH := (fun _ _ => 0, fun _ _ => 0)
theorem g11_ok : ∀ o, o < 60 → ∀ k, k < 32 → eqV (gC o k) (g_X11_init_0 Gz o k) = true := by decide +kernel
theorem g13_ok : ∀ j, j < 11 → ∀ k, k < 32 → eqV (GG .null .null (100 + j) k) (g_X13_init_100 Gz (100 + j) k) = true := by decide +kernel
theorem Az_z (z : Nat) : zA z Az := fun o ho k => ⟨rfl, rfl⟩
theorem Gz_n (z : Nat) : nl z Gz := fun o ho k => rfl
theorem okL_0 : okL emptyW := PI.empty.okT.2.2.2.1
/-- how both begin -/
theorem JS_0 : JS false Az (upd2 Az.1 100 2 (-1), Az.2) := by
  refine ⟨emptyW, fun _ => 0, fun _ _ => 0, fun _ _ => 0, 0, 0, 0, 0, 0, 0, fun _ => 0, 0, ⟨⟨fun j hj => ⟨rfl, by show 0 ≤ 8; omega, fun i c hi => absurd hi (Nat.not_lt_zero i)⟩, PI.empty.okT, fun k hk => rfl, ⟨by decide, by decide, by decide, fun t ht => absurd ht (Nat.not_lt_zero t)⟩, rfl, rfl⟩, ⟨by decide, by decide, by decide, rfl, rfl, rfl, fun i k hi => absurd hi (Nat.not_lt_zero i), fun i k hi => absurd hi (Nat.not_lt_zero i)⟩, ⟨rfl, rfl, rfl, by decide, fun i hi => absurd hi (Nat.not_lt_zero i)⟩, ⟨rfl, rfl, by decide, by decide, fun z => wgt_le okL_0 z, fun z hz => absurd hz (Nat.not_lt_zero z)⟩, rfl⟩, ⟨rfl, fun i hi => absurd hi (Nat.not_lt_zero i), rfl, rfl, rfl⟩, fun i hi => absurd hi (Nat.not_lt_zero i), by decide, (fun z => by cases z), fun _ => ⟨rfl, rfl, rfl, rfl, rfl⟩⟩
set_option maxRecDepth 8000 in
theorem whole_start {p : Program} {e : Env} {s : State} {m : MethodId} {below : List Frame} {meth : Method} {c : Code} (l : Launch) (hflags : l.flags = flags0) {b L : Nat} {xs : Nat → Int32} (hL : L ≤ 3072) (C0 : lw_At p s m meth c b L xs) : W p l e room_1 s m #[Value.ref b] below meth c s.heap [] 0 0 (lw_Z below #[Value.ref b] s) (entryFrame m ([Value.ref b] : List Value).toArray 7) := by
  obtain ⟨hx, hb, hr, hml, hown, hts, hX, hbl, hlk, hgv⟩ := id C0
  have hF : CallFix p m c code 7 s #[Value.ref b] TW RL := ⟨hx, hb, hml, hown, fun w hw => hts w (List.mem_filter.mp hw).1⟩
  have hg : ∀ w ∈ gvL, w.before #[Value.ref b] s = true := flat_of_before _ hgv
  have hl : l.stackTraces = false := by
    unfold Launch.stackTraces
    rw [hflags]
    decide +kernel
  have hZ : ZT (BL s) s s.heap := law_zt hts hg
  obtain ⟨D, aC, hK⟩ := law_tables hF.2.2.2.2
  obtain ⟨ρ0, hE0⟩ := law_ex hts hg
  have hS : va_S (BL s) s.heap s.heap [] := va_S.rf
  have hv0 := lv_entry ([.ref b]) (n := 7) (Nat.le_of_ble_eq_true rfl)
  rw [lg_entry_eq]
  generalize (lg_sl ([.ref b]) ++ List.replicate (7 - (lg_sl ([.ref b])).length) Slot.unset).toArray = ls at hv0 ⊢
  have hv0 : lv_has ls 7 [(0, .ref b)] := hv0
  -- the class
  obtain ⟨ρA, hρA⟩ : ∃ ρA : Nat → Nat, ρA = fun o => if o < 60 then s.heap.size + o else ρ0 o := ⟨_, rfl⟩
  have a1 : ∀ o, o < 60 → ρA o = s.heap.size + o := fun o ho => by rw [hρA]; exact if_pos ho
  have a2 : ∀ o, 60 ≤ o → ρA o = ρ0 o := fun o ho => by rw [hρA]; exact if_neg (by omega)
  have hEA : EX (BL s) ρA s s.heap := hE0.retag (fun o ho => a2 o (by omega))
  refine l_new (ρ := ρA) (G := Gz) (A := Az) (ob := 0) (ci := 11) hF hK nlL_8 dL_law_0 rfl (a1 0 (by decide)) ⟨fun _ => rfl, fun _ => rfl, fun _ => rfl⟩ hS ⟨by decide, by decide⟩ (fun H1 hz1 hk1 hW1 hS1 => ?_)
  refine lv_dup hx hb dL_law_3 rfl ?_
  have hf1 : ∀ q, fr ρA (0, 1) q → q = s.heap.size := by
    rintro q ⟨y, hy, rfl⟩
    have := dmL_of hy
    rw [a1 y (by omega)]
    omega
  refine l_init (ρ := ρA) (ob := 0) hF imC (i_X11_init_0 (Gz_n 1) (Az_z 1)) dL_law_4 (fun i h1 h2 => by rw [Nat.zero_add, a1 i h2, hz1]; omega) hW1 (fun q hq => by rw [hf1 q hq]; exact Nat.le_refl _) hEA hS1 hv0.1 (Nat.le_of_ble_eq_true rfl) ⟨by decide, by decide⟩ ⟨by decide, by decide⟩ (fun H2 locs2 hW2 hk2 hz2 hS2 => ?_)
  refine lv_astore_n (lv' := [(1, .ref (ρA 0)), (0, .ref b)]) hx hb dL_law_7 rfl hv0 (by decide) rfl (fun ls hv1 => ?_)
  have hWc : WD D aC ρA dC gC Az s H2 := hW2.gcong (fun _ _ => rfl) (fun o ho k hk => by rw [eqV_eq (g11_ok o (by have := dmL_of ho; omega) k hk)]) (fun _ _ => rfl) (fun _ _ => rfl)
  -- the reference
  obtain ⟨ρB, hρB⟩ : ∃ ρB : Nat → Nat, ρB = fun o => if 100 ≤ o ∧ o < 111 then H2.size + (o - 100) else ρA o := ⟨_, rfl⟩
  have b1 : ∀ i, i < 11 → ρB (100 + i) = H2.size + i := fun i hi => by rw [hρB]; dsimp only; rw [if_pos (by omega)]; omega
  have b2 : ∀ o, o < 100 ∨ 111 ≤ o → ρB o = ρA o := fun o ho => by rw [hρB]; exact if_neg (by omega)
  have hEB : EX (BL s) ρB s s.heap := hEA.retag (fun o ho => b2 o (by omega))
  have hWcB : WD D aC ρB dC gC Az s H2 := hWc.cls (fun o ho => b2 o (by omega))
  have hfC : ∀ q, fr ρB dC q → s.heap.size ≤ q ∧ q < H2.size := fun q hq => ⟨by
    obtain ⟨y, hy, rfl⟩ := hq
    have := dmL_of hy
    rw [b2 y (by omega), a1 y (by omega)]
    omega, hWcB.lt hq⟩
  refine l_new (ρ := ρB) (G := Gz) (A := Az) (ob := 100) (ci := 13) hF hK nlL_16 dL_law_8 rfl (b1 0 (by decide)) ⟨fun _ => rfl, fun _ => rfl, fun _ => rfl⟩ hS2 ⟨by decide, by decide⟩ (fun H3 hz3 hk3 hW3 hS3 => ?_)
  refine lv_dup hx hb dL_law_11 rfl ?_
  have hf3 : ∀ q, fr ρB (100, 1) q → q = H2.size := by
    rintro q ⟨y, hy, rfl⟩
    have := dmL_of hy
    rw [show y = 100 + 0 by omega, b1 0 (by decide)]
    rfl
  refine l_init (ρ := ρB) (ob := 100) hF imM (i_X13_init_100 (Gz_n 101) (Az_z 101)) dL_law_12 (fun i h1 h2 => by rw [b1 i h2, hz3]; omega) hW3 (fun q hq => by rw [hf3 q hq]; exact Nat.le_trans hS2.1 (Nat.le_refl _)) hEB hS3 hv1.1 (Nat.le_of_ble_eq_true rfl) ⟨by decide, by decide⟩ ⟨by decide, by decide⟩ (fun H4 locs4 hW4 hk4 hz4 hS4 => ?_)
  refine lv_astore_n (lv' := [(2, .ref (ρB 100)), (1, .ref (ρA 0)), (0, .ref b)]) hx hb dL_law_15 rfl hv1 (by decide) rfl (fun ls hv2 => ?_)
  have hWm : WD D aC ρB (dW false) (GW false .null) (upd2 Az.1 100 2 (-1), Az.2) s H4 := hW4.gcong (fun _ _ => rfl) (fun o ho k hk => by
    have hb := dmL_of ho
    have h9 := g13_ok (o - 100) (by omega) k hk
    rw [show 100 + (o - 100) = o by omega] at h9
    show cv ρB (GG .null .null o k) = _
    rw [eqV_eq h9]) (fun _ _ => rfl) (fun _ _ => rfl)
  have hkc : ∀ q, q < H2.size → H4[q]? = H2[q]? := fun q hq => by
    rw [hk4 q (by rw [hz3]; omega) (fun z => absurd (hf3 q z) (by omega)), hk3 q hq]
  have hWc4 : WD D aC ρB dC gC Az s H4 := hWcB.keep (fun q h1 _ => hkc q h1)
  -- the row of one long
  refine lv_iconst (v := nI 1) hx hb dL_law_16 rfl ?_
  refine va_newaK (atype := .long) hx hb (hF.2.2.2.2 _ ac3) rfl dL_law_17 rfl (n := nI 1) (N := 1) (by decide) rfl (by decide) (by decide) (by decide) rfl fun H5 cA e5 z5 o5 hAr hNm => ?_
  have hcA : cA = aC 3 := Option.some.inj (hNm.symm.trans (hK.2 3 (aC 3, .long) rfl).2)
  have hO5 : OC aC H4.size (fun _ => 0) H5 := by
    show H5[H4.size]? = _
    rw [e5, hcA]
    rfl
  refine W.eq (g2 := F0 m 19 ls [.ref H4.size]) rfl ?_
  refine lv_astore_n (lv' := [(3, .ref H4.size), (2, .ref (ρB 100)), (1, .ref (ρA 0)), (0, .ref b)]) hx hb dL_law_19 rfl hv2 (by decide) rfl (fun ls hv3 => ?_)
  refine lv_iconst (v := nI 0) hx hb dL_law_20 rfl ?_
  refine lv_istore (lv' := [(4, .int (nI 0)), (3, .ref H4.size), (2, .ref (ρB 100)), (1, .ref (ρA 0)), (0, .ref b)]) hx hb dL_law_21 hv3 (by decide) rfl (fun ls hv4 => ?_)
  have hS5 : va_S (BL s) s.heap H5 locs4 := ⟨Nat.le_trans hS4.1 (by omega), fun x g1 g2 => (o5 x (Nat.lt_of_lt_of_le g1 hS4.1)).trans (hS4.2.1 x g1 g2), hS4.2.2⟩
  have hfM : ∀ q, fr ρB (dW false) q → H2.size ≤ q := by
    rintro q ⟨y, hy, rfl⟩
    have := dmL_of hy
    rw [show y = 100 + (y - 100) by omega, b1 (y - 100) (by omega)]
    omega
  have hI : LI D aC s ρB .null false Az (upd2 Az.1 100 2 (-1), Az.2) H4.size (fun _ => 0) H5 := ⟨hEB, hWc4.keep (fun q h1 _ => o5 q h1), hWm.keep (fun q h1 _ => o5 q h1), hO5, fun q hq => ⟨(hfC q hq).1, by have := (hfC q hq).2; omega, fun z => by have := (hfC q hq).2; have := hfM q z; omega⟩, fun q hq => ⟨Nat.le_trans hS2.1 (hfM q hq), by have := hWm.lt hq; omega⟩, hS4.1⟩
  have hv5 : lv_has ls 7 (lvL b ρB H4.size (6 * 0)) := by
    show lv_has ls 7 [(4, .int (nI (6 * 0))), (3, .ref H4.size), (2, .ref (ρB 100)), (1, .ref (ρB 0)), (0, .ref b)]
    rw [b2 0 (by omega)]
    exact hv4
  exact law_loop hl hZ hL hF hX hbl hr hlk (L + 7) 0 (by omega) (by omega) ρB .null _ false _ _ H5 locs4 ls hI JS_0 hS5 hv5
set_option maxHeartbeats 4000000 in
theorem lw_walk (l : Launch) (hflags : l.flags = flags0) (b : Addr) (xs : List Int32) : MetFree l x (headSpec (Jvm.Cond.code x code maxLocals ret :: tables_1) room_1) (lw_P b xs) (fun _ _ _ _ _ => True) lw_Q := by
  refine MetFree.of_bodyS (code := code) (maxLocals := maxLocals) (ret := ret) (by decide) ?_ ?_
  · intro args s m h hn
    obtain ⟨meth, c, h1, h2, h3, h4, h5, h6, -, -⟩ := Cond.code_spec hn (atoms_spec (ws := Jvm.Cond.code x code maxLocals ret :: tables_1) h _ List.mem_cons_self)
    exact ⟨meth, c, h1, h2, h3, h4, h5, h6⟩
  · intro p e s m args below meth c s₁ B hml0 hP _
    obtain ⟨rfl, hx, hbd, hgv⟩ := hP
    obtain ⟨scr, harrAt, hlist, hof, hsmall⟩ := hx
    obtain ⟨hcb, hkn, -, -⟩ := State.arrayAt?_spec harrAt
    have hown : s.vm.findClass R_law = some m.cls := findClass_of_methodNamed B.named
    have hts0 : ∀ c ∈ (Jvm.Cond.code x code maxLocals ret :: tables_1), c.before #[Value.ref b] s = true := atoms_spec (ws := Jvm.Cond.code x code maxLocals ret :: tables_1) B.pre
    have hts : ∀ w ∈ lw_tbl, w.before #[Value.ref b] s = true := k2_hts_sels lw_privs (fun w hw => hts0 w (List.mem_cons_of_mem _ hw)) lw_privs_ok
    have hml : c.maxLocals = 7 := B.maxLocals_eq (hts0 _ List.mem_cons_self)
    have X₀ : Stand p l e room_1 s m #[Value.ref b] below meth c s₁ [] 0 0 := Stand.of_body B
    have hh0 : s₁.heap = s.heap := by rw [B.state]; rfl
    have hsz : scr.slots.size = xs.length := by rw [← Array.length_toList, hlist, List.length_map]
    have hval : ∀ j : Nat, j < xs.length → scr.slots[j]? = some (.int (xs.getD j 0)) := fun j hj => by
      rw [← Array.getElem?_toList, hlist]
      simp [hj]
    have hbl : b < s.heap.size := (Array.getElem?_eq_some_iff.mp hcb).1
    have hX : va_X b xs.length (fun j => xs.getD j 0) s s.heap := ⟨scr, hcb, hof, hkn, hsz, hval⟩
    have K : W p l e room_1 s m #[Value.ref b] below meth c s₁.heap [] 0 0 (lw_Z below #[Value.ref b] s) (entryFrame m ([Value.ref b] : List Value).toArray 7) := by
      rw [hh0]
      exact whole_start l hflags hbd ⟨B.exec, B.bytes, B.returns, hml, hown, hts, hX, hbl, B.notSynchronized, hgv⟩
    obtain ⟨t, a1, o, b1, b2, b3⟩ := K s₁ rfl X₀
    exact ⟨t, o, a1, b1, b2, b3⟩
theorem lw_pre_spec {args : Array Value} {s : State} (h : (Jvm.Cond.and given_1 narrow_1).before args s = true) (hr : rest_1_c.before args s = true) : ∃ (b : Addr) (xs : List Int32), lw_P b xs args s := by
  have hs := flat_of_before _ h
  have hq := flat_of_before _ hr
  have hc : (Cond.count 1).before args s = true := hs _ (by decide +kernel)
  have harr : (Cond.arrayOf (.arg 0) .int).before args s = true := hs _ (by decide +kernel)
  have hle : (Cond.le (.length (.arg 0)) (.int 3072)).before args s = true := hs _ (by decide +kernel)
  have hlen : (Cond.isInt (.length (.arg 0))).before args s = true := hq _ (by decide +kernel)
  have hall : (Cond.all (.arg 0) (.isInt (.elem (.arg 0) (.index 0)))).before args s = true := hq _ (by decide +kernel)
  obtain ⟨b, xs, hb, hx⟩ := State.ints_of_pre rfl harr hlen hall
  have hsm : xs.length < 2 ^ 31 := hx.choose_spec.2.2.2
  have hev : (Term.length (.arg 0)).eval args s none [] s = some (.int xs.length.toInt32) := hx.length_eval hb
  have hv := Cond.le_ints hev (show (Term.int 3072).eval args s none [] s = some (.int 3072) from rfl)
  have hd : xs.length.toInt32 ≤ 3072 := by
    simpa [Cond.before, Cond.holds, hv] using hle
  have hN : xs.length ≤ 3072 := (Int32.ofNat_le_ofNat hsm (by decide)).mp (show Int32.ofNat xs.length ≤ Int32.ofNat 3072 from hd)
  exact ⟨b, xs, Cond.one_arg hc (show args[0]? = some (.ref b) from hb), hx, hN, h⟩
theorem lw_comes (l : Launch) (hflags : l.flags = flags0) : Comes l x (Jvm.Cond.code x code maxLocals ret :: tables_1) room_1 (fun tb e args s => Calls_1 tb e args s ∧ rest_1 tb e args s ∧ Pre_1 tb e args s)
    (fun _ _ args s o t => lw_Q args s o t) := by
  intro p e ha hc hk s m args below hf hfit hheap happ hpre
  obtain ⟨b, xs, hP⟩ := lw_pre_spec hpre.2.2 hpre.2.1
  obtain ⟨k, o, h1, h2, h3, hQ⟩ := lw_walk l hflags b xs p e ha hc hk s m args below hf ((Spec.applies_iff_loose hf).mp happ).1 hP trivial
  exact ⟨k, o, h1, h2, h3, hQ⟩
theorem lw_frame {s t : State} {o : Outcome} {args : Array Value} (h : Framed s o t [] 601024 7293033) :
    Framed s o t (fieldLocs frame_1_writes args s ++ arrayLocs frame_1_arrays args s ++ staticLocs frame_1_statics s) 601024 7293033 := h
theorem lw_limb (L : Cond) (hL : ∀ (args : Array Value) (s t : State), L.after args s (.returned (some (.int 1))) t = true) :
    ArmFor flags0 classFile x code maxLocals ret World_1 tables_1 room_1 Calls_1 rest_1 Pre_1
      (fun tb e a s o t => postC L tb e a s o t ∧ Framed s o t (fieldLocs frame_1_writes a s ++ arrayLocs frame_1_arrays a s ++ staticLocs frame_1_statics s) 601024 7293033) := by
  intro l hflags _ _ p e ha hc hk s m args below hf hfit hheap happ hpre
  obtain ⟨k, o, h1, h2, h3, rfl, hF⟩ := lw_comes l hflags p e ha hc hk s m args below hf hfit hheap happ hpre
  exact ⟨k, _, h1, h2, h3, hL args s _, lw_frame hF⟩
theorem i_vc : Claimed_1_1 ∧ Claimed_1_2 := ⟨lw_limb limb_1_1 (fun args s t => by simp [limb_1_1, Cond.after, Cond.holds, Cond.value]), lw_limb limb_1_2 (fun args s t => Cond.after_iff.mpr (by
  first | (rw [show limb_1_2 = Cond.eq .result (.int 1) from rfl, Cond.eq_ints (x := 1) (y := 1) rfl rfl]; simp; done) | (simp [limb_1_2, Cond.value, Term.eval]; done)))⟩

