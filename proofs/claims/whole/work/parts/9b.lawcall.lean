/-! ===== the law: its world and its calls ===== -/
theorem lcall {p : Program} {l : Launch} {e : Env} {R : Room} {s : State} {m : MethodId} {args : Array Value} {below : List Frame} {meth : Method} {c : Code} {H : Heap} {locs : List Loc} {ce sl : Nat} {Q : State → Prop} {D : va_G} {aC : Nat → ClassId} {ρ : Nat → Nat} {pc : Nat} {ls : Array Slot} {rest : List Value} {B : Nat → Prop} {cc : ByteArray} {nL : Nat} {dm : Nat × Nat} {G : Nat → Nat → Value} {A : AH} {K1 : Option Value → AH → Prop} {As : List Value} {index d' na ci ob : Nat} {y : MethodName} {M' : MI} (hF : CallFix p m c cc nL s args TW RL) (hc : Ct y M' d' dm G (.ref ob :: As) A K1) (hm : ML RL index y M' na ci) (ho : inD dm ob = true) (hs : shp ob = .inl ci) (hn : As.length = na) (hAs : As.map (cv ρ) = As) (hR1 : d' + 1 ≤ R.frames ∧ 38 + 38 * d' ≤ R.locals) (hst : (rest.map (fun v => v.category)).sum ≤ 8) (hd : decode cc pc = .ok (.invokevirtual index, 3)) (hW : WD D aC ρ dm G A s H) (hS : va_S B s.heap H locs) (hE : EX B ρ s s.heap) (hB : ∀ q, fr ρ dm q → B q) (hls : ls.size = nL) (hR : ce ≤ R.cells ∧ sl ≤ R.slots)
    (kk : ∀ (v : Option Value) (A1 : AH) (H1 : Heap) (locs1 : List Loc), K1 v A1 → WD D aC ρ dm G A1 s H1 → (∀ q, q < H.size → ¬ fr ρ dm q → H1[q]? = H[q]?) → va_S B s.heap H1 locs1 → W p l e R s m args below meth c H1 locs1 ce sl Q (F0 m (pc + 3) ls ((v.map (cv ρ)).toList ++ rest))) : W p l e R s m args below meth c H locs ce sl Q (F0 m pc ls (As.reverse ++ .ref (ρ ob) :: rest)) := by
  have hob := hW.ob ho hs hm.2.2.2.2.2.2.2
  have hrun := va_runV (meth := meth) (locs := locs) (H := H) (below := below) (e := e) (cells := ce) (slots := sl) (g := F0 m pc ls (As.reverse ++ .ref (ρ ob) :: rest)) (rest := rest) (As := As) (b := ρ ob) hF (hc l D aC ρ) (cwV (R := R) na hF.2.2.2.2 hm.good rfl rfl rfl hm.2.2.2.2.2.1 ⟨hR1.1, by have := hm.2.2.2.2.2.2.1; show 8 + (M'.2.2.1 + 11) + 38 * d' ≤ _; omega⟩) ⟨fb_QK, hob, fun U hU hWm => ⟨by simp [cv, hAs], by rw [hU]; exact hW.moved hWm.alike, (hE.at hS hU hWm).narrow hB⟩⟩ rfl hn hls rfl (lv_room hst) hd hR
  intro U hU XU
  obtain ⟨v0, st₀, t, U', Ls, g0, X', hL, e1, e2, ⟨⟨v, A1, hv, hk, hwd⟩, hz, hko⟩, st⟩ := hrun U hU XU
  have hv' : v0 = v.map (cv ρ) := by cases hv; rfl
  subst hv'
  rw [g0] at hz hko
  have hwd' : WD D aC ρ dm G A1 s U'.heap := by
    rw [e1]
    exact WD.moved (by rw [← e2]; exact X'.warmed.alike.symm) hwd
  have hS1 : va_S B s.heap U'.heap (locs ++ Ls) := ⟨Nat.le_trans hS.1 (by rw [e1]; exact hz), fun q g1 g2 => by rw [e1, hko q (Nat.lt_of_lt_of_le g1 hS.1) (fun z => g2 (hB q z))]; exact hS.2.1 q g1 g2, fun q hq => by
      rcases List.mem_append.mp hq with h | h
      · exact hS.2.2 q h
      · exact hB _ (hL q h)⟩
  obtain ⟨t2, a1, b1⟩ := kk v A1 U'.heap (locs ++ Ls) hk hwd' (fun q g1 g2 => by rw [e1]; exact hko q g1 g2) hS1 U' rfl X'
  exact ⟨t2, st t2 a1, b1⟩
abbrev BL (s : State) : Nat → Prop := fun q => s.heap.size ≤ q
/-- the law's world: the class, the reference, the row of one long -/
def LI (D : va_G) (aC : Nat → ClassId) (s : State) (ρ : Nat → Nat) (r : Value) (hw : Bool) (Ac Am : AH) (qo : Nat) (f : Nat → Int64) (H : Heap) : Prop :=
  EX (BL s) ρ s s.heap ∧ WD D aC ρ dC gC Ac s H ∧ WD D aC ρ (dW hw) (GW hw r) Am s H ∧ OC aC qo f H ∧ (∀ q, fr ρ dC q → s.heap.size ≤ q ∧ q ≠ qo ∧ ¬ fr ρ (dW hw) q) ∧ (∀ q, fr ρ (dW hw) q → s.heap.size ≤ q ∧ q ≠ qo) ∧ s.heap.size ≤ qo
theorem lC {p : Program} {l : Launch} {e : Env} {R : Room} {s : State} {m : MethodId} {args : Array Value} {below : List Frame} {meth : Method} {c : Code} {H : Heap} {locs : List Loc} {ce sl : Nat} {Q : State → Prop} {D : va_G} {aC : Nat → ClassId} {ρ : Nat → Nat} {pc : Nat} {ls : Array Slot} {rest : List Value} {r : Value} {hw : Bool} {Ac Am : AH} {qo : Nat} {f : Nat → Int64} {K1 : Option Value → AH → Prop} {As : List Value} {index d' na : Nat} {y : MethodName} {M' : MI} (hF : CallFix p m c code 7 s args TW RL) (hI : LI D aC s ρ r hw Ac Am qo f H) (hS : va_S (BL s) s.heap H locs) (hls : ls.size = 7) (hR : ce ≤ R.cells ∧ sl ≤ R.slots) (hc : Ct y M' d' dC gC (.ref 0 :: As) Ac K1) (hm : ML RL index y M' na 11) (hn : As.length = na) (hAs : As.map (cv ρ) = As) (hR1 : d' + 1 ≤ R.frames ∧ 38 + 38 * d' ≤ R.locals) (hst : (rest.map (fun v => v.category)).sum ≤ 8) (hd : decode code pc = .ok (.invokevirtual index, 3))
    (kk : ∀ (v : Option Value) (A1 : AH) (H1 : Heap) (locs1 : List Loc), K1 v A1 → LI D aC s ρ r hw A1 Am qo f H1 → va_S (BL s) s.heap H1 locs1 → W p l e R s m args below meth c H1 locs1 ce sl Q (F0 m (pc + 3) ls ((v.map (cv ρ)).toList ++ rest))) : W p l e R s m args below meth c H locs ce sl Q (F0 m pc ls (As.reverse ++ .ref (ρ 0) :: rest)) := by
  obtain ⟨hE, hWc, hWm, hO, hd1, hd2, hqo⟩ := hI
  have hq : qo < H.size := (Array.getElem?_eq_some_iff.mp hO).1
  refine lcall hF hc hm rfl rfl hn hAs hR1 hst hd hWc hS hE (fun q z => (hd1 q z).1) hls hR (fun v A1 H1 locs1 hk hW1 hk1 hS1 => kk v A1 H1 locs1 hk ?_ hS1)
  refine ⟨hE, hW1, hWm.keep (fun q h1 h2 => hk1 q h1 (fun z => (hd1 q z).2.2 h2)), ?_, hd1, hd2, hqo⟩
  show H1[qo]? = _
  rw [hk1 qo hq (fun z => (hd1 qo z).2.1 rfl)]
  exact hO
theorem lM {p : Program} {l : Launch} {e : Env} {R : Room} {s : State} {m : MethodId} {args : Array Value} {below : List Frame} {meth : Method} {c : Code} {H : Heap} {locs : List Loc} {ce sl : Nat} {Q : State → Prop} {D : va_G} {aC : Nat → ClassId} {ρ : Nat → Nat} {pc : Nat} {ls : Array Slot} {rest : List Value} {r : Value} {hw : Bool} {Ac Am : AH} {qo : Nat} {f : Nat → Int64} {K1 : Option Value → AH → Prop} {As : List Value} {index d' na : Nat} {y : MethodName} {M' : MI} (hF : CallFix p m c code 7 s args TW RL) (hI : LI D aC s ρ r hw Ac Am qo f H) (hS : va_S (BL s) s.heap H locs) (hls : ls.size = 7) (hR : ce ≤ R.cells ∧ sl ≤ R.slots) (hc : Ct y M' d' (dW hw) (GW hw r) (.ref 100 :: As) Am K1) (hm : ML RL index y M' na 13) (hn : As.length = na) (hAs : As.map (cv ρ) = As) (hR1 : d' + 1 ≤ R.frames ∧ 38 + 38 * d' ≤ R.locals) (hst : (rest.map (fun v => v.category)).sum ≤ 8) (hd : decode code pc = .ok (.invokevirtual index, 3))
    (kk : ∀ (v : Option Value) (A1 : AH) (H1 : Heap) (locs1 : List Loc), K1 v A1 → LI D aC s ρ r hw Ac A1 qo f H1 → va_S (BL s) s.heap H1 locs1 → W p l e R s m args below meth c H1 locs1 ce sl Q (F0 m (pc + 3) ls ((v.map (cv ρ)).toList ++ rest))) : W p l e R s m args below meth c H locs ce sl Q (F0 m pc ls (As.reverse ++ .ref (ρ 100) :: rest)) := by
  obtain ⟨hE, hWc, hWm, hO, hd1, hd2, hqo⟩ := hI
  have hq : qo < H.size := (Array.getElem?_eq_some_iff.mp hO).1
  refine lcall hF hc hm (by cases hw <;> rfl) rfl hn hAs hR1 hst hd hWm hS hE (fun q z => (hd2 q z).1) hls hR (fun v A1 H1 locs1 hk hW1 hk1 hS1 => kk v A1 H1 locs1 hk ?_ hS1)
  refine ⟨hE, hWc.keep (fun q h1 h2 => hk1 q h1 (hd1 q h2).2.2), hW1, ?_, hd1, hd2, hqo⟩
  show H1[qo]? = _
  rw [hk1 qo hq (fun z => (hd2 qo z).2 rfl)]
  exact hO
abbrev lvL (b : Nat) (ρ : Nat → Nat) (qo i : Nat) : List (Nat × Value) := [(4, .int (nI i)), (3, .ref qo), (2, .ref (ρ 100)), (1, .ref (ρ 0)), (0, .ref b)]
/-- an int of the script -/
theorem ls_arg {p : Program} {l : Launch} {e : Env} {R : Room} {s : State} {m : MethodId} {args : Array Value} {below : List Frame} {meth : Method} {c : Code} {H : Heap} {locs : List Loc} {ce sl : Nat} {Q : State → Prop} {ρ : Nat → Nat} {pc : Nat} {ls : Array Slot} {qo : Nat} {b L i k : Nat} {xs : Nat → Int32} {z : Int} {S : List Value} {q : Nat} (hF : CallFix p m c code 7 s args TW RL) (hX : va_X b L xs s s.heap) (hbl : b < s.heap.size) (hS : va_S (BL s) s.heap H locs) (hv : lv_has ls 7 (lvL b ρ qo i)) (hi : i + k < L) (hL : L ≤ 3072) (hz : Int32.ofInt z = nI k) (hq : pc + 6 = q) (d0 : decode code pc = .ok (.aload_n 0, 1)) (d1 : decode code (pc + 1) = .ok (.iload 4, 2)) (d3 : decode code (pc + 3) = .ok (.iconst z, 1)) (d4 : decode code (pc + 4) = .ok (.iadd, 1)) (d5 : decode code (pc + 5) = .ok (.iaload, 1))
    (kk : W p l e R s m args below meth c H locs ce sl Q (F0 m q ls (.int (xs (i + k)) :: S))) : W p l e R s m args below meth c H locs ce sl Q (F0 m pc ls S) := by
  subst hq
  refine lv_aload_n hF.1 hF.2.1 d0 rfl (lv_at hv 4 rfl) ?_
  refine lv_iload hF.1 hF.2.1 d1 (lv_at hv 0 rfl) ?_
  refine lv_iconst hF.1 hF.2.1 d3 hz ?_
  refine lv_iadd hF.1 hF.2.1 d4 ?_
  have e1 : nI i + nI k = nI (i + k) := nI_add i k
  rw [e1]
  refine va_sld hF.1 hF.2.1 hX hbl (Nat.not_le.mpr hbl) hS (vp_in_nI hi (by omega)) d5 ?_
  rw [nI_k (by omega)]
  exact kk
/-- an int as a yes or no -/
theorem ls_bool {p : Program} {l : Launch} {e : Env} {R : Room} {s : State} {m : MethodId} {args : Array Value} {below : List Frame} {meth : Method} {c : Code} {H : Heap} {locs : List Loc} {ce sl : Nat} {Q : State → Prop} {pc : Nat} {ls : Array Slot} {x : Int32} {S : List Value} {q : Nat} (hF : CallFix p m c code 7 s args TW RL) (hq : pc + 8 = q) (d0 : decode code pc = .ok (.ifCond .eq 7, 3)) (d3 : decode code (pc + 3) = .ok (.iconst 1, 1)) (d4 : decode code (pc + 4) = .ok (.goto 4, 3)) (d7 : decode code (pc + 7) = .ok (.iconst 0, 1))
    (kk : W p l e R s m args below meth c H locs ce sl Q (F0 m q ls (.int (b2i (decide (x ≠ 0))) :: S))) : W p l e R s m args below meth c H locs ce sl Q (F0 m pc ls (.int x :: S)) := by
  subst hq
  refine lv_if_eq (tgt := pc + 7) hF.1 hF.2.1 d0 (by omega) (fun h => ?_) (fun h => ?_)
  · rw [decide_eq_false (fun z => z h)] at kk
    exact lv_iconst hF.1 hF.2.1 d7 rfl kk
  · rw [decide_eq_true h] at kk
    refine lv_iconst hF.1 hF.2.1 d3 rfl ?_
    exact lv_goto (tgt := pc + 8) hF.1 hF.2.1 d4 (by omega) kk
/-- what a case leaves: the law goes on with the next one -/
def NX (p : Program) (l : Launch) (e : Env) (s : State) (m : MethodId) (below : List Frame) (meth : Method) (c : Code) (b : Nat) (D : va_G) (aC : Nat → ClassId) (qo i ce sl : Nat) (Q : State → Prop) : Prop :=
  ∀ (ρ : Nat → Nat) (r : Value) (f : Nat → Int64) (hw : Bool) (Ac Am : AH) (H : Heap) (locs : List Loc) (ls : Array Slot) (ce' sl' : Nat), LI D aC s ρ r hw Ac Am qo f H → JS hw Ac Am → va_S (BL s) s.heap H locs → lv_has ls 7 (lvL b ρ qo i) → ce' ≤ ce + 22 → sl' ≤ sl + 181 → W p l e room_1 s m #[Value.ref b] below meth c H locs ce' sl' Q (F0 m 2007 ls [])
