/-! ===== led: a throw that leaves the class ===== -/
abbrev XN : String := "java/util/NoSuchElementException"
abbrev XS : List String := ["java/lang/RuntimeException", "java/lang/Exception"]
def xB : List Cond := [.castable XN XN, .declares ⟨"java/lang/RuntimeException", "<init>", "()V"⟩, .declares ⟨"java/lang/Exception", "<init>", "()V"⟩, .declares ⟨"java/lang/Throwable", "<init>", "()V"⟩]
theorem xB_warm {w : Cond} {s U : State} (hw : w ∈ xB) (hW : s.WarmedH U.vm) (h : va_Nw w s) : va_Nw w U := by
  simp only [xB, List.mem_cons, List.not_mem_nil, or_false] at hw
  rcases hw with rfl | rfl | rfl | rfl
  · exact va_Nw.warmC hW h
  all_goals exact va_tabs rfl (rfl : (s.setVm U.vm).vm = U.vm) (by rw [Cond.declares_setVm hW.alike]; exact h)
theorem xB_same {w : Cond} {s U : State} (hw : w ∈ xB) (hv : s.vm = U.vm) (h : va_Nw w s) : va_Nw w U := by
  simp only [xB, List.mem_cons, List.not_mem_nil, or_false] at hw
  rcases hw with rfl | rfl | rfl | rfl <;> exact va_Nw.same rfl hv h
theorem xw_good : ∀ w ∈ (vx_at0 RX11 354 XN XS).filter goodWord, w ∈ lw_tbl := by decide +kernel
theorem xw_bad : ∀ w ∈ (vx_at0 RX11 354 XN XS).filter (fun w => !goodWord w), w ∈ xB := by decide +kernel
theorem xw_ot : ∀ w ∈ Cond.classLink RX11 352 XN :: Cond.initialized XN :: (vx_at0 RX11 354 XN XS), vx_ot w = true := by decide +kernel
theorem xw_link : Cond.classLink RX11 352 XN ∈ TW := TW_at 1259 (by decide +kernel) (by decide +kernel)
theorem xw_ini : Cond.initialized XN ∈ TW := TW_at 137 (by decide +kernel) (by decide +kernel)
theorem xw_law : Cond.classLink RL 13 XN ∈ TW := TW_at 1254 (by decide +kernel) (by decide +kernel)
def ZT (B : Nat → Prop) (U : State) (H : Heap) : Prop := vx_Zq Bundle.tN "UNASSIGNED_STACK" Bundle.steD B U H ∧ vx_Zq Bundle.tN "SUPPRESSED_SENTINEL" Bundle.listD B U H ∧ ∀ w ∈ xB, va_Nw w U
theorem ZT.kept {B : Nat → Prop} {U : State} {H H1 : Heap} (h : ZT B U H) (hq : ∀ a : Nat, a < H.size → ¬ B a → H1[a]? = H[a]?) : ZT B U H1 := ⟨h.1.kept hq, h.2.1.kept hq, h.2.2⟩
theorem ZT.narrow {B B' : Nat → Prop} {U : State} {H : Heap} (h : ZT B U H) (hq : ∀ q, B' q → B q) : ZT B' U H := ⟨h.1.narrow hq, h.2.1.narrow hq, h.2.2⟩
theorem ZT.warm {B : Nat → Prop} {s U : State} {H : Heap} (hW : s.WarmedH U.vm) (h : ZT B s H) : ZT B U H := ⟨h.1.moved hW.alike, h.2.1.moved hW.alike, fun w hw => xB_warm hw hW (h.2.2 w hw)⟩
theorem ZT.same {B : Nat → Prop} {s U : State} {H : Heap} (hv : s.vm = U.vm) (h : ZT B s H) : ZT B U H := by
  have ha : s.vm.Alike U.vm := by rw [hv]; exact Vm.Alike.refl U.vm
  exact ⟨h.1.moved ha, h.2.1.moved ha, fun w hw => xB_same hw hv (h.2.2 w hw)⟩
theorem ZT.at {B : Nat → Prop} {s U : State} {H : Heap} {locs : List Loc} (h : ZT B s s.heap) (hS : va_S B s.heap H locs) (hU : U.heap = H) (hWm : s.WarmedH U.vm) : ZT B U U.heap := by
  rw [hU]
  exact (h.kept hS.2.1).warm hWm
theorem WD.keep {D : va_G} {aC : Nat → ClassId} {ρ : Nat → Nat} {dm : Nat × Nat} {G : Nat → Nat → Value} {A : AH} {s : State} {H H1 : Heap} (hW : WD D aC ρ dm G A s H) (hk : ∀ q, q < H.size → fr ρ dm q → H1[q]? = H[q]?) : WD D aC ρ dm G A s H1 := ⟨hW.1.kept (fun k q hq => hk q.1 ((hW.1 k q hq).lt) (hW.2.1.2 k q hq)), hW.2.1, hW.2.2⟩
theorem WD.lt {D : va_G} {aC : Nat → ClassId} {ρ : Nat → Nat} {dm : Nat × Nat} {G : Nat → Nat → Value} {A : AH} {s : State} {H : Heap} (hW : WD D aC ρ dm G A s H) {q : Nat} (hq : fr ρ dm q) : q < H.size := by
  obtain ⟨o, ho, rfl⟩ := hq
  obtain ⟨k, hk⟩ := List.getElem?_of_mem ho
  exact (hW.1 k (ρ o, cellE aC ρ G A o) (by simp only [wsA, List.getElem?_map, hk, Option.map_some])).lt
set_option maxRecDepth 4000 in
theorem wg_led {E : Nat → List (Option Value) → List Value → Nat → Nat → Nat → (Nat → Nat → Value) → AH → Prop} {A : AH} {w : WT} {s : Nat → Nat} {x : Int32} (hC : CI w s A) (h32 : ∀ t L, fst1 (ledAt s x) (s 1) = some t → E 32 L [.int (nI t)] 60 0 0 gC A) (h42 : ∀ L, fst1 (ledAt s x) (s 1) = none → E 42 L [] 60 0 0 gC A) : WN mX11_led false 8 0 60 1 6 E 60 0 0 gC A 0 [some (.ref 0), some (.int x), none, none] [] := by
  have hs8 := hC.2.2.2.1.2.1
  have lp : ∀ (nf : Nat) (i : Nat), i ≤ s 1 → fst1 (ledAt s x) i = none → s 1 - i < nf → WN mX11_led false 8 0 60 1 6 E 60 0 0 gC A 4 [some (.ref 0), some (.int x), some (.int (ledF s x i)), some (.int (nI i))] [] := by
    intro nf
    induction nf with
    | zero => intros; omega
    | succ nf ih =>
      intro i hi hq hms
      refine wg_iload_n 5 dX11_led_4 rfl rfl ?_
      refine wg_aload_n 6 dX11_led_5 rfl rfl ?_
      refine wg_getr (x := 43) 9 dX11_led_6 rfl faX11_26 (by decide) rfl (fun _ _ _ => rfl) rfl ?_
      refine wg_inv (As := []) 12 dX11_led_9 rfl mlX11_164 (by decide) rfl rfl (d' := 0) (by decide) ⟨by decide, by decide⟩ (by decide) (Nat.le_of_ble_eq_true rfl) (c_X7_threads hC.2.2.1 ?_)
      refine wg_icge 42 15 dX11_led_12 rfl rfl (fun c12 => ?_) (fun c12 => ?_)
      · have e1 : i = s 1 := by
          have := (nI_leI (by omega) (by omega)).mp c12
          omega
        subst e1
        exact wg_exit (h42 _ hq)
      have c12 : i < s 1 := by
        rcases Nat.lt_or_ge i (s 1) with z | z
        · exact z
        · exact absurd ((nI_leI (by omega) (by omega)).mpr z) c12
      refine wg_aload_n 16 dX11_led_15 rfl rfl ?_
      refine wg_getr (x := 43) 19 dX11_led_16 rfl faX11_26 (by decide) rfl (fun _ _ _ => rfl) rfl ?_
      refine wg_iload_n 20 dX11_led_19 rfl rfl ?_
      refine wg_iconst 21 dX11_led_20 rfl (v := nI 0) rfl ?_
      refine wg_inv (As := [.int (nI i), .int (nI 0)]) 24 dX11_led_21 rfl mlX11_130 (by decide) rfl rfl (d' := 2) (by decide) ⟨by decide, by decide⟩ (by decide) (Nat.le_of_ble_eq_true rfl) (c_X7_strength hC.2.2.1 hC.2.2.2.1 (by omega) (by decide) ?_)
      have hsg := stg_le hC.2.2.2.1 i 0
      refine wg_ifne 36 27 dX11_led_24 rfl rfl (fun c24 => ?_) (fun c24 => ?_)
      · have c24 : stg s i 0 ≠ 0 := fun z => c24 ((nI_z (by omega)).mpr z)
        refine wg_iinc (v := nI (i + 1)) 39 dX11_led_36 rfl rfl (nI_1 _) (by decide) rfl ?_
        refine wg_goto 4 dX11_led_39 rfl ?_
        refine wg_eq ?_ rfl rfl rfl (ih (i + 1) (by omega) (by simp [fst1, hq, ledAt, c24]) (by omega))
        simp [ledF, c24]
      have c24 : stg s i 0 = 0 := (nI_z (by omega)).mp c24
      refine wg_iload_n 28 dX11_led_27 rfl rfl ?_
      refine wg_ifne 33 31 dX11_led_28 rfl rfl (fun c28 => ?_) (fun c28 => ?_)
      · refine wg_iinc (v := ledF s x i + (-1)) 36 dX11_led_33 rfl rfl rfl (by decide) rfl ?_
        refine wg_iinc (v := nI (i + 1)) 39 dX11_led_36 rfl rfl (nI_1 _) (by decide) rfl ?_
        refine wg_goto 4 dX11_led_39 rfl ?_
        refine wg_eq ?_ rfl rfl rfl (ih (i + 1) (by omega) (by simp [fst1, hq, ledAt, c28]) (by omega))
        have e9 : ledF s x i + (-1) = ledF s x i - 1 := by rw [Int32.sub_eq_add_neg]
        simp [ledF, c24, e9]
      · refine wg_iload_n 32 dX11_led_31 rfl rfl ?_
        exact wg_exit (h32 i _ (fst1_some hq (by unfold ledAt; rw [decide_eq_true c24, decide_eq_true c28]; rfl) c12))
  refine wg_iload_n 1 dX11_led_0 rfl rfl ?_
  refine wg_istore_n 2 dX11_led_1 rfl (by decide) rfl ?_
  refine wg_iconst 3 dX11_led_2 rfl (v := nI 0) rfl ?_
  refine wg_istore_n 4 dX11_led_3 rfl (by decide) rfl ?_
  exact lp _ 0 (Nat.zero_le _) rfl (Nat.lt_succ_self _)
def PLd (D : va_G) (aC : Nat → ClassId) (ρ : Nat → Nat) (F : Nat → Prop) (z : Nat) (A : AH) : State → Prop := fun U => U.heap.size = z ∧ WD D aC ρ dC gC A U U.heap ∧ EX F ρ U U.heap ∧ ZT F U U.heap
theorem fb_PLd {D : va_G} {aC : Nat → ClassId} {ρ : Nat → Nat} {F : Nat → Prop} {z : Nat} {A : AH} {av : List Value} : FrameBlind (va_Pc av (PLd D aC ρ F z A)) := by
  intro a U g mk q
  obtain ⟨q0, q1, q2, q3, q4⟩ := q
  exact ⟨q0, q1, WD.moved (u := U) (U := U.calling g mk a) (Vm.Alike.refl U.vm) q2, EX.same (s := U) (U := U.calling g mk a) rfl q3, ZT.same (s := U) (U := U.calling g mk a) rfl q4⟩
def Eled (s : Nat → Nat) (x : Int32) (A : AH) : Nat → List (Option Value) → List Value → Nat → Nat → Nat → (Nat → Nat → Value) → AH → Prop := fun pc _ S n kc ks G A' => n = 60 ∧ kc = 0 ∧ ks = 0 ∧ G = gC ∧ A' = A ∧ ((pc = 32 ∧ ∃ t, S = [.int (nI t)] ∧ fst1 (ledAt s x) (s 1) = some t) ∨ (pc = 42 ∧ S = [] ∧ fst1 (ledAt s x) (s 1) = none))
theorem x_led {w : WT} {s : Nat → Nat} {x : Int32} {A : AH} (hC : CI w s A) (l : Launch) (hl : l.stackTraces = false) (D : va_G) (aC : Nat → ClassId) (ρ : Nat → Nat) (z : Nat) : vx_Met l yX11_led (.code yX11_led mX11_led.2.1 mX11_led.2.2.1 mX11_led.2.2.2 :: TW) (rmI 8 1 6) (va_Pc [.ref (ρ 0), .int x] (PLd D aC ρ (fB ρ 0 60 z) z A)) (va_Qi (fun r (_ : Unit) => ∃ t, fst1 (ledAt s x) (s 1) = some t ∧ r = nI t) (fun _ t => WD D aC ρ dC gC A t t.heap) (fB ρ 0 60 z)) (vx_X (fun _ : Unit => fst1 (ledAt s x) (s 1) = none) (fun E _ t => E = XN ∧ WD D aC ρ dC gC A t t.heap) (fB ρ 0 60 z)) 1 6 (fB ρ 0 60 z) := by
  refine vx_ofW (cc := mX11_led.2.1) (maxL := mX11_led.2.2.1) (ret := mX11_led.2.2.2) rfl rfl ?_
  intro p e s0 m args below meth c s₁ B hml htab hv
  obtain ⟨rfl, rfl, hWD, hE, hZ⟩ := hv
  rw [lg_entry_eq]
  have hts := atoms_spec (ws := .code yX11_led mX11_led.2.1 mX11_led.2.2.1 mX11_led.2.2.2 :: TW) B.pre
  have hX : FX p s0 m ([.ref (ρ 0), .int x] : List Value).toArray meth c mX11_led := ⟨⟨B.exec, B.bytes, hml, findClass_of_methodNamed B.named, fun w hw => hts w (List.mem_cons_of_mem _ hw)⟩, B.returns, B.notSynchronized⟩
  refine wg_led (E := Eled s x A) hC (fun t L ht => ⟨rfl, rfl, rfl, rfl, rfl, Or.inl ⟨rfl, t, rfl, ht⟩⟩) (fun L hn => ⟨rfl, rfl, rfl, rfl, rfl, Or.inr ⟨rfl, rfl, hn⟩⟩) p l e _ s0 m _ below meth c D aC ρ s0.heap [] _ (fB ρ 0 60 s0.heap.size) _ (fun q hq => Or.inr hq) ?_ ⟨Nat.le_refl _, Nat.le_refl _⟩ hX (fun z => by cases z) (Nat.le_refl _) (Nat.le_refl _) hE (fun i h1 h2 => absurd h2 (by omega)) hWD (fun q hq => Or.inl hq) va_S.rf (lvr_entry (av := [.ref 0, .int x]) rfl (Nat.le_of_ble_eq_true rfl))
  rintro pc' L' S' n' kc' ks' G' A' H' locs' ls' ⟨rfl, rfl, rfl, rfl, rfl, hcase⟩ hgr' hWD' hfr' hS' hv'
  rcases hcase with ⟨rfl, t, rfl, ht⟩ | ⟨rfl, rfl, hn⟩
  · refine W.widen (k := 1) (n := 6) (by decide) (by decide) (vx_ret ?_)
    exact W.iret hX.1.1 hX.1.2.1 hX.2.1 (fun u hu hWm => ⟨⟨nI t, (), rfl, ⟨t, ht, rfl⟩, by show WD D aC ρ dC gC _ u u.heap; rw [hu]; exact hWD'.moved hWm.alike⟩, hS'.F hu⟩) hS'.2.2 dX11_led_32 hX.2.2
  · refine vx_throw0 (own := RX11) (cls := XN) (names := XS) (ik := 352) (ic := 354) (A := fB ρ 0 60 s0.heap.size) hX.1.1 hX.1.2.1 hl hX.1.2.2.2.1 (by decide +kernel) (by decide +kernel) (hX.1.2.2.2.2 _ xw_link) (hX.1.2.2.2.2 _ xw_ini) (vx_hat (fun w hw => hX.1.2.2.2.2 _ (TW_of (xw_good w hw) (List.mem_filter.mp hw).2)) xw_bad (fun w hw => by
      have h9 := hZ.2.2 w hw
      simp only [xB, List.mem_cons, List.not_mem_nil, or_false] at hw
      rcases hw with rfl | rfl | rfl | rfl <;> exact va_Nw.use rfl h9)) xw_ot hZ.1 hZ.2.1 hS' (by rw [hml]; exact hv'.1) dX11_led_42 dX11_led_45 dX11_led_46 dX11_led_49 (fun x hx => (htab x hx).elim) (by show 2 + 3 < 8; decide) (by show 0 + (13 * (2 + 1) + 42) ≤ 38 * 8; decide) (Nat.le_refl _) (Nat.le_refl _) hX.2.2 (fun t hal hsz hkp => ⟨(), hn, ⟨rfl, (hWD'.keep (fun q hq _ => hkp q hq)).moved hal⟩, ⟨Nat.le_trans hS'.1 hsz, fun q h1 h2 => (hkp q (Nat.lt_of_lt_of_le h1 hS'.1)).trans (hS'.2.1 q h1 h2)⟩⟩) hS'.2.2 (Nat.le_refl _) (Nat.le_refl _)
