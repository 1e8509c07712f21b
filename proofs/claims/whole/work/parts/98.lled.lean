theorem dL_led_0 : decode cL_led 0 = .ok (.aload_n 2, 1) := by decide +kernel
theorem dL_led_1 : decode cL_led 1 = .ok (.iconst 0, 1) := by decide +kernel
theorem dL_led_2 : decode cL_led 2 = .ok (.aload_n 0, 1) := by decide +kernel
theorem dL_led_3 : decode cL_led 3 = .ok (.iload_n 1, 1) := by decide +kernel
theorem dL_led_4 : decode cL_led 4 = .ok (.invokevirtual 7, 3) := by decide +kernel
theorem dL_led_7 : decode cL_led 7 = .ok (.i2l, 1) := by decide +kernel
theorem dL_led_8 : decode cL_led 8 = .ok (.lastore, 1) := by decide +kernel
theorem dL_led_9 : decode cL_led 9 = .ok (.goto 6, 3) := by decide +kernel
theorem dL_led_12 : decode cL_led 12 = .ok (.astore_n 3, 1) := by decide +kernel
theorem dL_led_13 : decode cL_led 13 = .ok (.iconst 1, 1) := by decide +kernel
theorem dL_led_14 : decode cL_led 14 = .ok (.ireturn, 1) := by decide +kernel
theorem dL_led_15 : decode cL_led 15 = .ok (.iconst 0, 1) := by decide +kernel
theorem dL_led_16 : decode cL_led 16 = .ok (.ireturn, 1) := by decide +kernel
theorem lled_cw : Cond.codeWith yL_led cL_led 4 (some .int) [(0, 9, 12, 13)] ∈ TW := TW_at 1253 (by decide +kernel) (by decide +kernel)
theorem lled_ws : GoodIn TW (va_wsS RL 241 yL_led (.codeWith yL_led cL_led 4 (some .int) [(0, 9, 12, 13)] :: TW)) := by
  intro w hw
  unfold va_wsS at hw
  rcases List.mem_append.mp hw with hw | hw
  · simp only [List.mem_cons, List.not_mem_nil, or_false] at hw
    rcases hw with rfl | rfl | rfl
    · exact TW_g (TW_at 1251 (by decide +kernel) (by decide +kernel))
    · exact TW_g (TW_at 1252 (by decide +kernel) (by decide +kernel))
    · exact TW_g (TW_at 112 (by decide +kernel) (by decide +kernel))
  · exact TW_cons lled_cw w hw
theorem ML.good {own : String} {index n ci : Nat} {y : MethodName} {M' : MI} (hm : ML own index y M' n ci) : GoodIn TW (wsV own index (clR ci) y (.code y M'.2.1 M'.2.2.1 M'.2.2.2 :: TW)) := by
  obtain ⟨m1, m2, m3, m4, m5, m6, m7, m8⟩ := hm
  intro w hw
  unfold wsV at hw
  rcases List.mem_append.mp hw with hw | hw
  · simp only [List.mem_cons, List.not_mem_nil, or_false] at hw
    rcases hw with rfl | rfl | rfl | rfl
    · exact TW_g m1
    · exact TW_g m2
    · exact TW_g m3
    · exact TW_g m4
  · exact TW_cons m5 w hw
theorem WD.ob {D : va_G} {aC : Nat → ClassId} {ρ : Nat → Nat} {dm : Nat × Nat} {G : Nat → Nat → Value} {A : AH} {s : State} {H : Heap} (hW : WD D aC ρ dm G A s H) {o ci : Nat} (ho : inD dm o = true) (hs : shp o = .inl ci) (hc : ci < 14) : ∃ cell : Cell, H[ρ o]? = some cell ∧ cell.vm.isStatics = false ∧ s.vm.findClass (clR ci) = some cell.cls := by
  obtain ⟨q0, hq0, hat⟩ := wsA_at (aC := aC) (ρ := ρ) (G := G) (A := A) ho
  have he : (wsA aC ρ dm G A)[q0]? = some (ρ o, .inr (ci, (List.range (clN ci)).map (fun k => fvk (clTy ci k) ρ G A o k))) := by rw [hat]; simp only [cellE, hs]
  exact va_recv hW.2.2 hW.1 (cl_at hc) he
def FLo (ρ : Nat → Nat) (z qo : Nat) : Nat → Prop := fun q => fB ρ 0 60 z q ∨ q = qo
def OC (aC : Nat → ClassId) (qo : Nat) (f : Nat → Int64) (H : Heap) : Prop := H[qo]? = some (vp_cell (aC 3) (1, .inr (.inl f)))
def PLL (D : va_G) (aC : Nat → ClassId) (ρ : Nat → Nat) (F : Nat → Prop) (z : Nat) (A : AH) (qo : Nat) (f : Nat → Int64) : State → Prop := fun U => PLd D aC ρ F z A U ∧ OC aC qo f U.heap
theorem fb_PLL {D : va_G} {aC : Nat → ClassId} {ρ : Nat → Nat} {F : Nat → Prop} {z : Nat} {A : AH} {qo : Nat} {f : Nat → Int64} {av : List Value} : FrameBlind (va_Pc av (PLL D aC ρ F z A qo f)) := by
  intro a U g mk q
  exact ⟨q.1, (fb_PLd (av := av) a U g mk ⟨q.1, q.2.1⟩).2, q.2.2⟩
/-- a long written to the law's own row -/
theorem out_last {p : Program} {l : Launch} {e : Env} {R : Room} {s : State} {m : MethodId} {args : Array Value} {below : List Frame} {meth : Method} {c : Code} {H : Heap} {locs : List Loc} {cells slots : Nat} {Q : State → Prop} {cc : ByteArray} {pc : Nat} {ls : Array Slot} {rest : List Value} {aC : Nat → ClassId} {qo : Nat} {f : Nat → Int64} {x : Int64} (hexec : p.tables.exec = Jvm.exec) (hb : c.code = cc) (hA : ArrOfT s (aC 3) .long) (hO : OC aC qo f H) (hdg : decode cc pc = .ok (.lastore, 1))
    (kk : ∀ H1 : Heap, OC aC qo (vp_updL f 0 x) H1 → H1.size = H.size → (∀ q, q ≠ qo → H1[q]? = H[q]?) → W p l e R s m args below meth c H1 (locs ++ [⟨qo, 0⟩]) cells slots Q (F0 m (pc + 1) ls rest)) : W p l e R s m args below meth c H locs cells slots Q (F0 m pc ls (.long x :: .int 0 :: .ref qo :: rest)) := by
  refine W.last hexec hb hO (hA 1 (fun j => .long (f j))) (fun q => by cases q) (by show ¬ ((0 : Int32) < 0 ∨ (arrV _ _ _).slots.size ≤ _); rw [arrV_size]; show ¬ ((0 : Int32) < 0 ∨ 1 ≤ (0 : Int32).toNatClampNeg); decide) rfl rfl hdg fun H1 e z oq => ?_
  refine kk H1 ?_ z oq
  show H1[qo]? = some (vp_cell _ _)
  rw [e]
  rw [vp_cell_l, vp_cell_l, arrV_store]
  congr 2
  funext q
  by_cases hq : q = (0 : Int32).toNatClampNeg
  · subst hq
    simp [updV, vp_updL]
  · have hq0 : q ≠ 0 := hq
    simp [updV, vp_updL, hq0]
set_option maxRecDepth 4000 in
theorem c_Lled {w : WT} {s : Nat → Nat} {x : Int32} {A : AH} (hC : CI w s A) (l : Launch) (hl : l.stackTraces = false) (D : va_G) (aC : Nat → ClassId) (ρ : Nat → Nat) (z qo : Nat) (f : Nat → Int64) (hqo : ¬ fr ρ dC qo) : Met l yL_led (.codeWith yL_led cL_led 4 (some .int) [(0, 9, 12, 13)] :: TW) (rmI 9 1 6) (va_Pc [.ref (ρ 0), .int x, .ref qo] (PLL D aC ρ (FLo ρ z qo) z A qo f)) (va_Qi (fun r (f' : Nat → Int64) => (r = 0 ∧ ∃ t, fst1 (ledAt s x) (s 1) = some t ∧ f' 0 = (nI t).toInt64) ∨ (r = 1 ∧ fst1 (ledAt s x) (s 1) = none)) (fun f' t => WD D aC ρ dC gC A t t.heap ∧ OC aC qo f' t.heap) (FLo ρ z qo)) 1 6 (FLo ρ z qo) := by
  refine va_MetW (cc := cL_led) (maxL := 4) (ret := some .int) (hh := [(0, 9, 12, 13)]) rfl rfl ?_
  intro p e s0 m args below meth c s₁ B hml hv
  obtain ⟨rfl, ⟨rfl, hWD, hE, hZ⟩, hO⟩ := hv
  have hts := atoms_spec (ws := (.codeWith yL_led cL_led 4 (some .int) [(0, 9, 12, 13)] :: TW)) B.pre
  have htab : c.exceptionTable.toList = tableOf [(0, 9, 12, 13)] := vx_table (x := yL_led) B (hts _ List.mem_cons_self)
  have hTW : ∀ w ∈ TW, w.before ([.ref (ρ 0), .int x, .ref qo] : List Value).toArray s0 = true := fun w hw => hts w (List.mem_cons_of_mem _ hw)
  have hown : s0.vm.findClass RL = some m.cls := findClass_of_methodNamed B.named
  have hx := B.exec
  have hb := B.bytes
  have hr := B.returns
  have hlk := B.notSynchronized
  have hqz : qo < s0.heap.size := (Array.getElem?_eq_some_iff.mp hO).1
  rw [lg_entry_eq]
  have hv0 := lv_entry ([.ref (ρ 0), .int x, .ref qo]) (n := 4) (Nat.le_of_ble_eq_true rfl)
  generalize (lg_sl ([.ref (ρ 0), .int x, .ref qo]) ++ List.replicate (4 - (lg_sl ([.ref (ρ 0), .int x, .ref qo])).length) Slot.unset).toArray = ls at hv0 ⊢
  have hv0 : lv_has ls 4 [(0, .ref (ρ 0)), (1, .int x), (2, .ref qo)] := hv0
  refine lv_aload_n hx hb dL_led_0 rfl (lv_at hv0 2 rfl) ?_
  refine lv_iconst (v := 0) hx hb dL_led_1 rfl ?_
  refine lv_aload_n hx hb dL_led_2 rfl (lv_at hv0 0 rfl) ?_
  refine lv_iload_n hx hb dL_led_3 rfl (lv_at hv0 1 rfl) ?_
  have hS : va_S (FLo ρ s0.heap.size qo) s0.heap s0.heap [] := va_S.rf
  have hnF : ¬ fB ρ 0 60 s0.heap.size qo := fun h => h.elim hqo (fun z => absurd hqz (Nat.not_lt.mpr z))
  have hob := hWD.ob (o := 0) (ci := 11) rfl rfl (by decide)
  refine vx_calli (A0 := FLo ρ s0.heap.size qo) (vx_runV (As := [.int x]) (rest := [.int 0, .ref qo]) (b := ρ 0) ⟨hx, hb, hml, hown, hTW⟩ (x_led hC l hl D aC ρ s0.heap.size) (cwV 1 hTW (ML.good mlL_7) rfl rfl rfl mlL_7.2.2.2.2.2.1 ⟨Nat.le_refl _, by show 8 + (4 + 11) + 38 * 8 ≤ 38 * 9; decide⟩) ⟨fb_PLd, hob, fun U hU hWm => ⟨rfl, by rw [hU], by rw [hU]; exact hWD.moved hWm.alike, (hE.at hS hU hWm).narrow (fun q h => Or.inl h), (hZ.at hS hU hWm).narrow (fun q h => Or.inl h)⟩⟩ rfl rfl hv0.1 rfl (lv_room (Nat.le_of_ble_eq_true rfl)) dL_led_4 ⟨Nat.le_refl _, Nat.le_refl _⟩) hS (fun q _ h => Or.inl h) (fun q h => Or.inl h) (fun q _ h => Or.inl h) ?_ ?_
  · rintro E ce q9 u t H1 locs1 ht hal hn ⟨rfl, hWD1⟩ hsz hkp hS1 hce hcv hcl
    refine vx_catch (own := RL) (name := XN) (E := XN) hown [] ⟨0, 9, 12, 13⟩ [] (by rw [htab]; rfl) (fun z hz => nomatch hz) rfl (by decide) (hTW _ xw_law) (va_Nw.use rfl (hZ.2.2 _ List.mem_cons_self)) hce hcv hcl ?_
    refine lv_astore_n (lv' := [(3, .ref q9), (0, .ref (ρ 0)), (1, .int x), (2, .ref qo)]) hx hb dL_led_12 rfl hv0 (by decide) rfl (fun ls2 hv2 => ?_)
    refine lv_iconst (v := 1) hx hb dL_led_13 rfl ?_
    refine W.iret hx hb hr (fun t' ht' hWm => ⟨⟨1, f, rfl, Or.inr ⟨rfl, hn⟩, ?_, ?_⟩, hS1.F ht'⟩) hS1.2.2 dL_led_14 hlk
    · rw [ht', ← ht]; exact WD.moved (u := t) (U := t') (hal.symm.trans hWm.alike) hWD1
    · show t'.heap[qo]? = _
      rw [ht', hkp qo hqz hnF]; exact hO
  · rintro r u t H1 locs1 ht hal ⟨t0, ht0, rfl⟩ hWD1 hsz hkp hS1
    refine lv_i2l (v := (nI t0).toInt64) hx hb dL_led_7 rfl ?_
    have hO1 : OC aC qo f H1 := by
      show H1[qo]? = _
      rw [hkp qo hqz hnF]; exact hO
    refine out_last hx hb (hWD.2.2.2 3 (aC 3, .long) rfl).1 hO1 dL_led_8 (fun H2 hO2 hz2 hk2 => ?_)
    refine lv_goto (tgt := 15) hx hb dL_led_9 (by decide) ?_
    refine lv_iconst (v := 0) hx hb dL_led_15 rfl ?_
    have hS2 := hS1.put (k := 0) hz2 hk2 (Or.inr rfl : FLo ρ s0.heap.size qo qo)
    refine W.iret hx hb hr (fun t' ht' hWm => ⟨⟨0, vp_updL f 0 (nI t0).toInt64, rfl, Or.inl ⟨rfl, t0, ht0, rfl⟩, ?_, ?_⟩, hS2.F ht'⟩) hS2.2.2 dL_led_16 hlk
    · rw [ht']
      have h9 : WD D aC ρ dC gC A t H2 := hWD1.keep (fun q hq hf => by rw [ht]; exact hk2 q (fun e => hqo (by rw [← e]; exact hf)))
      exact WD.moved (u := t) (U := t') (hal.symm.trans hWm.alike) h9
    · rw [ht']; exact hO2
