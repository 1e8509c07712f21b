/-! ===== the world by names, and the judgement WP ===== -/
def cv (ρ : Nat → Nat) : Value → Value
  | .ref o => .ref (ρ o)
  | v => v
def upd2 {α : Type} (f : Nat → Nat → α) (o k : Nat) (x : α) : Nat → Nat → α := fun a b => if a = o then (if b = k then x else f a b) else f a b
def fvk (ty : FieldType) (ρ : Nat → Nat) (G : Nat → Nat → Value) (A : AH) (o k : Nat) : Value := match ty with
  | .int => .int (A.1 o k)
  | .long => .long (A.2 o k)
  | _ => cv ρ (G o k)
def cellE (aC : Nat → ClassId) (ρ : Nat → Nat) (G : Nat → Nat → Value) (A : AH) (o : Nat) : va_E := match shp o with
  | .inl ci => .inr (ci, (List.range (clN ci)).map (fun k => fvk (clTy ci k) ρ G A o k))
  | .inr (t, n) => .inl (aC t, n, if t = 3 then .inr (.inl (A.2 o)) else .inl (A.1 o))
def inD (dm : Nat × Nat) (o : Nat) : Bool := Nat.ble dm.1 o && Nat.ble (o + 1) (dm.1 + dm.2)
def dmL (dm : Nat × Nat) : List Nat := (List.range dm.2).map (fun i => dm.1 + i)
theorem dmL_mem {dm : Nat × Nat} {o : Nat} (h : inD dm o = true) : o ∈ dmL dm := by
  simp only [inD, Bool.and_eq_true, Nat.ble_eq] at h
  exact List.mem_map.mpr ⟨o - dm.1, List.mem_range.mpr (by omega), by omega⟩
def wsA (aC : Nat → ClassId) (ρ : Nat → Nat) (dm : Nat × Nat) (G : Nat → Nat → Value) (A : AH) : va_W := (dmL dm).map (fun o => (ρ o, cellE aC ρ G A o))
def tysA (aC : Nat → ClassId) : List (ClassId × FieldType) := [(aC 0, .int), (aC 1, .byte), (aC 2, .boolean), (aC 3, .long)]
def fr (ρ : Nat → Nat) (dm : Nat × Nat) : Nat → Prop := fun q => ∃ o ∈ dmL dm, ρ o = q
theorem wsA_at {aC : Nat → ClassId} {ρ : Nat → Nat} {dm : Nat × Nat} {G : Nat → Nat → Value} {A : AH} {o : Nat} (h : inD dm o = true) : ∃ q0 : Nat, (dmL dm)[q0]? = some o ∧ (wsA aC ρ dm G A)[q0]? = some (ρ o, cellE aC ρ G A o) := by
  obtain ⟨q0, hq⟩ := List.getElem?_of_mem (dmL_mem h)
  exact ⟨q0, hq, by simp only [wsA, List.getElem?_map, hq, Option.map_some]⟩
theorem wsA_set {aC : Nat → ClassId} {ρ : Nat → Nat} {dm : Nat × Nat} {G : Nat → Nat → Value} {A A' : AH} {B : Nat → Prop} {o q0 : Nat} (hD : va_D B (wsA aC ρ dm G A)) (hq : (dmL dm)[q0]? = some o) (hne : ∀ x, x ≠ o → cellE aC ρ G A' x = cellE aC ρ G A x) :
    (wsA aC ρ dm G A).set q0 (ρ o, cellE aC ρ G A' o) = wsA aC ρ dm G A' := by
  have hl : q0 < (wsA aC ρ dm G A).length := by
    have := (List.getElem?_eq_some_iff.mp hq).1
    simpa [wsA] using this
  have hws : ∀ (j x : Nat), (dmL dm)[j]? = some x → (wsA aC ρ dm G A)[j]? = some (ρ x, cellE aC ρ G A x) := fun j x h => by simp only [wsA, List.getElem?_map, h, Option.map_some]
  apply List.ext_getElem?
  intro j
  by_cases hj : j = q0
  · subst hj
    rw [List.getElem?_set_self hl]
    simp only [wsA, List.getElem?_map, hq, Option.map_some]
  · rw [List.getElem?_set_ne (Ne.symm hj)]
    cases hx : (dmL dm)[j]? with
    | none => simp only [wsA, List.getElem?_map, hx, Option.map_none]
    | some x =>
      have hxo : x ≠ o := by
        intro e
        subst e
        exact hj (hD.1 j q0 _ _ (hws j x hx) (hws q0 x hq) rfl)
      simp only [wsA, List.getElem?_map, hx, Option.map_some, hne x hxo]
theorem va_D.fr {aC : Nat → ClassId} {ρ : Nat → Nat} {dm : Nat × Nat} {G : Nat → Nat → Value} {A : AH} {B : Nat → Prop} (h : va_D B (wsA aC ρ dm G A)) : va_D (fr ρ dm) (wsA aC ρ dm G A) := by
  refine ⟨h.1, fun k q hk => ?_⟩
  have := List.mem_of_getElem? hk
  obtain ⟨x, hx, rfl⟩ := List.mem_map.mp this
  exact ⟨x, hx, rfl⟩
/-- the world holds -/
def WD (D : va_G) (aC : Nat → ClassId) (ρ : Nat → Nat) (dm : Nat × Nat) (G : Nat → Nat → Value) (A : AH) (U : State) (H : Heap) : Prop :=
  va_P D classes (wsA aC ρ dm G A) H ∧ va_D (fr ρ dm) (wsA aC ρ dm G A) ∧ va_K D classes (tysA aC) U
theorem WD.moved {D : va_G} {aC : Nat → ClassId} {ρ : Nat → Nat} {dm : Nat × Nat} {G : Nat → Nat → Value} {A : AH} {u U : State} {H : Heap} (hvm : u.vm.Alike U.vm) (h : WD D aC ρ dm G A u H) : WD D aC ρ dm G A U H := ⟨h.1, h.2.1, va_K.moved hvm h.2.2⟩
/-! constants of the machine that nobody writes -/
def nestW : Cond → Bool
  | .fieldLinkNest _ _ _ _ _ _ => true
  | .methodLinkNest _ _ _ _ => true
  | _ => false
def strTab : List (String × Nat × String × Nat) := [("PromiseWeb$Reader", 92, "web", 0), ("PromiseWeb$Reader", 98, "nail", 1), ("PromiseWeb$Reader", 100, "thread", 2), ("PromiseWeb$Reader", 102, "clash", 3), ("PromiseWeb$Reader", 104, "load", 4), ("PromiseWeb$Reader", 106, "offer", 5), ("PromiseWeb$Reader", 108, "unsure", 6), ("PromiseWeb$Reader", 110, "hair", 7), ("PromiseWeb$Reader", 112, "slips", 8), ("PromiseWeb$Reader", 121, "clerks", 9), ("PromiseWeb$Reader", 174, "kept", 10), ("PromiseWeb$Reader", 176, "fading", 11), ("PromiseWeb$Reader", 178, "proving", 12), ("PromiseWeb$Reader", 180, "lied", 13), ("PromiseWeb$Reader", 135, "strong", 14), ("PromiseWeb$Reader", 137, "step", 15), ("PromiseWeb$Reader", 142, "costs", 16), ("PromiseWeb$Reader", 182, "brown", 17), ("PromiseWeb$Reader", 184, "clear", 18), ("PromiseWebModel", 133, "web", 0), ("PromiseWebModel", 221, "slips", 8), ("PromiseWebModel", 226, "clerks", 9), ("PromiseWebModel", 135, "nail", 1), ("PromiseWebModel", 137, "thread", 2), ("PromiseWebModel", 139, "clash", 3), ("PromiseWebModel", 141, "load", 4), ("PromiseWebModel", 143, "offer", 5), ("PromiseWebModel", 145, "unsure", 6), ("PromiseWebModel", 147, "hair", 7), ("PromiseWebModel", 244, "kept", 10), ("PromiseWebModel", 245, "fading", 11), ("PromiseWebModel", 247, "proving", 12), ("PromiseWebModel", 249, "lied", 13), ("PromiseWebModel", 254, "strong", 14), ("PromiseWebModel", 256, "step", 15), ("PromiseWebModel", 301, "costs", 16), ("PromiseWebModel", 324, "brown", 17), ("PromiseWebModel", 326, "clear", 18)]
def strLen : List Nat := [3, 4, 6, 5, 4, 5, 6, 4, 5, 6, 4, 6, 7, 4, 6, 4, 5, 5, 5]
def strByt : List (List Int32) := [[119, 101, 98], [110, 97, 105, 108], [116, 104, 114, 101, 97, 100], [99, 108, 97, 115, 104], [108, 111, 97, 100], [111, 102, 102, 101, 114], [117, 110, 115, 117, 114, 101], [104, 97, 105, 114], [115, 108, 105, 112, 115], [99, 108, 101, 114, 107, 115], [107, 101, 112, 116], [102, 97, 100, 105, 110, 103], [112, 114, 111, 118, 105, 110, 103], [108, 105, 101, 100], [115, 116, 114, 111, 110, 103], [115, 116, 101, 112], [99, 111, 115, 116, 115], [98, 114, 111, 119, 110], [99, 108, 101, 97, 114]]
-- texts: 0 web 1 nail 2 thread 3 clash 4 load 5 offer 6 unsure 7 hair 8 slips 9 clerks 10 kept 11 fading 12 proving 13 lied 14 strong 15 step 16 costs 17 brown 18 clear
def roomF (j : Nat) : Value := .int (([1, 7, 7, 8, 4, 5, 5, 6] : List Int32).getD j 0)
def strS (adK adV : Nat → Nat) (B : Nat → Prop) (U : State) (H : Heap) : Prop := ∀ i : Nat, i < 19 → va_O "java/lang/String" (adK i) B U H ∧ va_OF "java/lang/String" "coder" "B" (.int 0) (adK i) B U H ∧ va_OF "java/lang/String" "value" "[B" (.ref (adV i)) (adK i) B U H ∧ va_T .byte (adV i) (strLen.getD i 0) (fun j => .int ((strByt.getD i []).getD j 0)) B U H
def EX (B : Nat → Prop) (ρ : Nat → Nat) (U : State) (H : Heap) : Prop :=
  (∀ w ∈ lw_tbl, nestW w = true → va_Nw w U) ∧ (∀ q ∈ strTab, vk_R q.1 q.2.1 q.2.2.1 (ρ (1000 + q.2.2.2)) U) ∧ strS (fun j => ρ (1000 + j)) (fun j => ρ (1100 + j)) B U H ∧
  va_Z "PromiseWeb" "ROOM" "[I" (.ref (ρ 1200)) B U H ∧ va_T .int (ρ 1200) 8 roomF B U H ∧ va_Z "java/lang/String" "COMPACT_STRINGS" "Z" (.int 1) B U H ∧ (va_Z "jdk/internal/util/Preconditions" "SIOOBE_FORMATTER" "Ljava/util/function/BiFunction;" .null B U H ∨ va_Z "jdk/internal/util/Preconditions" "SIOOBE_FORMATTER" "Ljava/util/function/BiFunction;" (.ref (ρ 1201)) B U H)
theorem EX.kept {B : Nat → Prop} {ρ : Nat → Nat} {U : State} {H H1 : Heap} (h : EX B ρ U H) (hq : ∀ a : Nat, a < H.size → ¬ B a → H1[a]? = H[a]?) : EX B ρ U H1 :=
  ⟨h.1, h.2.1, fun i hi => ⟨(h.2.2.1 i hi).1.kept hq, (h.2.2.1 i hi).2.1.kept hq, (h.2.2.1 i hi).2.2.1.kept hq, (h.2.2.1 i hi).2.2.2.kept hq⟩, h.2.2.2.1.kept hq, h.2.2.2.2.1.kept hq, h.2.2.2.2.2.1.kept hq, h.2.2.2.2.2.2.imp (fun z => z.kept hq) (fun z => z.kept hq)⟩
theorem EX.narrow {B B' : Nat → Prop} {ρ : Nat → Nat} {U : State} {H : Heap} (h : EX B ρ U H) (hq : ∀ q, B' q → B q) : EX B' ρ U H :=
  ⟨h.1, h.2.1, fun i hi => ⟨(h.2.2.1 i hi).1.narrow hq, (h.2.2.1 i hi).2.1.narrow hq, (h.2.2.1 i hi).2.2.1.narrow hq, (h.2.2.1 i hi).2.2.2.narrow hq⟩, h.2.2.2.1.narrow hq, h.2.2.2.2.1.narrow hq, h.2.2.2.2.2.1.narrow hq, h.2.2.2.2.2.2.imp (fun z => z.narrow hq) (fun z => z.narrow hq)⟩
theorem EX.warm {B : Nat → Prop} {ρ : Nat → Nat} {s U : State} {H : Heap} (hW : s.WarmedH U.vm) (h : EX B ρ s H) : EX B ρ U H := by
  refine ⟨fun w hw hn => ?_, fun q hq => (h.2.1 q hq).warm hW, fun i hi => ⟨va_O.moved hW.alike (h.2.2.1 i hi).1, va_OF.moved hW.alike (h.2.2.1 i hi).2.1, va_OF.moved hW.alike (h.2.2.1 i hi).2.2.1, va_T.moved hW.alike (h.2.2.1 i hi).2.2.2⟩, va_Z.moved hW.alike h.2.2.2.1, va_T.moved hW.alike h.2.2.2.2.1, va_Z.moved hW.alike h.2.2.2.2.2.1, h.2.2.2.2.2.2.imp (fun z => va_Z.moved hW.alike z) (fun z => va_Z.moved hW.alike z)⟩
  have h1 := h.1 w hw hn
  cases w <;> simp only [nestW, Bool.false_eq_true] at hn
  · exact va_Nw.warmM hW h1
  · exact va_Nw.warmF hW h1
theorem EX.same {B : Nat → Prop} {ρ : Nat → Nat} {s U : State} {H : Heap} (hv : s.vm = U.vm) (h : EX B ρ s H) : EX B ρ U H := by
  have ha : s.vm.Alike U.vm := by rw [hv]; exact Vm.Alike.refl U.vm
  refine ⟨fun w hw hn => ?_, fun q hq => (h.2.1 q hq).same hv.symm, fun i hi => ⟨va_O.moved ha (h.2.2.1 i hi).1, va_OF.moved ha (h.2.2.1 i hi).2.1, va_OF.moved ha (h.2.2.1 i hi).2.2.1, va_T.moved ha (h.2.2.1 i hi).2.2.2⟩, va_Z.moved ha h.2.2.2.1, va_T.moved ha h.2.2.2.2.1, va_Z.moved ha h.2.2.2.2.2.1, h.2.2.2.2.2.2.imp (fun z => va_Z.moved ha z) (fun z => va_Z.moved ha z)⟩
  have h1 := h.1 w hw hn
  cases w <;> simp only [nestW, Bool.false_eq_true] at hn
  all_goals exact va_Nw.same rfl hv h1
/-! the locals -/
def lvr (ρ : Nat → Nat) (ls : Array Slot) (nL : Nat) (L : List (Option Value)) : Prop := ls.size = nL ∧ lv_wf ls ∧ ∀ (k : Nat) (v : Value), L[k]? = some (some v) → ls[k]? = some (.val (cv ρ v))
def lvl (ρ : Nat → Nat) (L : List (Option Value)) : List (Nat × Value) := (List.range L.length).filterMap (fun k => match L[k]? with
  | some (some v) => some (k, cv ρ v)
  | _ => none)
theorem lvl_mem {ρ : Nat → Nat} {L : List (Option Value)} {k : Nat} {v : Value} (h : L[k]? = some (some v)) : (k, cv ρ v) ∈ lvl ρ L :=
  List.mem_filterMap.mpr ⟨k, List.mem_range.mpr (List.getElem?_eq_some_iff.mp h).1, by rw [h]⟩
theorem lvl_of {ρ : Nat → Nat} {L : List (Option Value)} {q : Nat × Value} (h : q ∈ lvl ρ L) : ∃ v, L[q.1]? = some (some v) ∧ q.2 = cv ρ v := by
  obtain ⟨k, -, hk⟩ := List.mem_filterMap.mp h
  split at hk
  · next v hv => cases hk; exact ⟨v, hv, rfl⟩
  · cases hk
theorem lvr.has {ρ : Nat → Nat} {ls : Array Slot} {nL : Nat} {L : List (Option Value)} (h : lvr ρ ls nL L) : lv_has ls nL (lvl ρ L) := by
  refine ⟨h.1, h.2.1, fun q hq => ?_⟩
  obtain ⟨v, h1, h2⟩ := lvl_of hq
  rw [h2]
  exact h.2.2 _ _ h1
/-- what stands ahead of place i isn't of two slots -/
def nlg (L : List (Option Value)) : Nat → Bool
  | 0 => true
  | i + 1 => match L[i]? with
    | some (some (.long _)) => false
    | some (some (.double _)) => false
    | _ => true
theorem nlg_cat {ρ : Nat → Nat} {L : List (Option Value)} {k : Nat} {v : Value} (h : nlg L (k + 1) = true) (hk : L[k]? = some (some v)) : ¬ (cv ρ v).category = 2 := by
  cases v <;> simp_all [nlg, cv, Value.category]
theorem lvr_set1 {ρ : Nat → Nat} {ls : Array Slot} {nL i : Nat} {L : List (Option Value)} {v : Value} (h : lv_has ls nL ((i, cv ρ v) :: (lvl ρ L).filter (fun q => !(q.1 == i) && !(q.1 + 1 == i && q.2.category == 2)))) (hn : nlg L i = true) : lvr ρ ls nL (L.set i (some v)) := by
  refine ⟨h.1, h.2.1, fun k w hk => ?_⟩
  by_cases e : k = i
  · subst e
    have hl : k < L.length := by
      have := (List.getElem?_eq_some_iff.mp hk).1
      simpa using this
    rw [List.getElem?_set_self hl] at hk
    cases hk
    exact h.2.2 _ List.mem_cons_self
  · rw [List.getElem?_set_ne (Ne.symm e)] at hk
    refine h.2.2 (k, cv ρ w) (List.mem_cons_of_mem _ (List.mem_filter.mpr ⟨lvl_mem hk, ?_⟩))
    have : ¬ (k + 1 = i ∧ (cv ρ w).category = 2) := by
      rintro ⟨e1, e2⟩
      subst e1
      exact nlg_cat hn hk e2
    simp only [Bool.and_eq_true, Bool.not_eq_true', beq_eq_false_iff_ne, ne_eq, Bool.and_eq_false_iff]
    refine ⟨e, ?_⟩
    by_cases e1 : k + 1 = i
    · exact Or.inr (fun e2 => this ⟨e1, e2⟩)
    · exact Or.inl e1
theorem lvr_set2 {ρ : Nat → Nat} {ls : Array Slot} {nL i : Nat} {L : List (Option Value)} {v : Value} (h : lv_has ls nL ((i, cv ρ v) :: (lvl ρ L).filter (fun q => !(q.1 == i) && (!(q.1 == i + 1) && !(q.1 + 1 == i && q.2.category == 2))))) (hn : nlg L i = true) : lvr ρ ls nL ((L.set i (some v)).set (i + 1) none) := by
  refine ⟨h.1, h.2.1, fun k w hk => ?_⟩
  by_cases e0 : k = i + 1
  · subst e0
    have hl : i + 1 < (L.set i (some v)).length := by
      have := (List.getElem?_eq_some_iff.mp hk).1
      simpa using this
    rw [List.getElem?_set_self hl] at hk
    cases hk
  rw [List.getElem?_set_ne (Ne.symm e0)] at hk
  by_cases e : k = i
  · subst e
    have hl : k < L.length := by
      have := (List.getElem?_eq_some_iff.mp hk).1
      simpa using this
    rw [List.getElem?_set_self hl] at hk
    cases hk
    exact h.2.2 _ List.mem_cons_self
  · rw [List.getElem?_set_ne (Ne.symm e)] at hk
    refine h.2.2 (k, cv ρ w) (List.mem_cons_of_mem _ (List.mem_filter.mpr ⟨lvl_mem hk, ?_⟩))
    have : ¬ (k + 1 = i ∧ (cv ρ w).category = 2) := by
      rintro ⟨e1, e2⟩
      subst e1
      exact nlg_cat hn hk e2
    simp only [Bool.and_eq_true, Bool.not_eq_true', beq_eq_false_iff_ne, ne_eq, Bool.and_eq_false_iff]
    refine ⟨e, e0, ?_⟩
    by_cases e1 : k + 1 = i
    · exact Or.inr (fun e2 => this ⟨e1, e2⟩)
    · exact Or.inl e1
/-! the method, the judgement, the contract -/
def FX (p : Program) (s : State) (m : MethodId) (args : Array Value) (meth : Method) (c : Code) (M : MI) : Prop := CallFix p m c M.2.1 M.2.2.1 s args TW M.1 ∧ meth.sig.returnType = M.2.2.2 ∧ meth.locks = false
def QK (D : va_G) (aC : Nat → ClassId) (ρ : Nat → Nat) (dm : Nat × Nat) (G : Nat → Nat → Value) (K : Option Value → AH → Prop) : Array Value → State → Outcome → State → Prop := fun _ st oc t =>
  (∃ (v : Option Value) (A : AH), oc = .returned (v.map (cv ρ)) ∧ K v A ∧ WD D aC ρ dm G A t t.heap) ∧ va_F (fr ρ dm) st t
def WP (M : MI) (d : Nat) (dm : Nat × Nat) (G : Nat → Nat → Value) (pc : Nat) (L : List (Option Value)) (S : List Value) (A : AH) (K : Option Value → AH → Prop) : Prop :=
  ∀ (p : Program) (l : Launch) (e : Env) (R : Room) (s : State) (m : MethodId) (args : Array Value) (below : List Frame) (meth : Method) (c : Code) (D : va_G) (aC : Nat → ClassId) (ρ : Nat → Nat) (H : Heap) (locs : List Loc) (ls : Array Slot) (B : Nat → Prop) (ce sl : Nat) (Qc : Array Value → State → Outcome → State → Prop),
    (∀ q, fr ρ dm q → B q) → (∀ (v : Option Value) (A' : AH) (t : State), K v A' → s.WarmedH t.vm → WD D aC ρ dm G A' t t.heap → va_F B s t → Qc args s (.returned (v.map (cv ρ))) t) → (ce ≤ R.cells ∧ sl ≤ R.slots) →
    FX p s m args meth c M → d ≤ R.frames → 38 * d ≤ R.locals → WD D aC ρ dm G A s H → va_S B s.heap H locs → EX B ρ s s.heap → lvr ρ ls M.2.2.1 L →
    W p l e R s m args below meth c H locs ce sl (MQ below Qc args s ce sl B) (F0 m pc ls (S.map (cv ρ)))
def rmD (d : Nat) : Room := { frames := d, cells := 0, slots := 0, locals := 38 * d }
def Ct (y : MethodName) (M : MI) (d : Nat) (dm : Nat × Nat) (G : Nat → Nat → Value) (av : List Value) (A : AH) (K : Option Value → AH → Prop) : Prop :=
  ∀ (l : Launch) (D : va_G) (aC : Nat → ClassId) (ρ : Nat → Nat), Met l y (.code y M.2.1 M.2.2.1 M.2.2.2 :: TW) (rmD d) (va_Pc (av.map (cv ρ)) (fun U => WD D aC ρ dm G A U U.heap ∧ EX (fr ρ dm) ρ U U.heap)) (QK D aC ρ dm G K) 0 0 (fr ρ dm)
def ov : Option Value → List Value → List Value
  | some v, r => v :: r
  | none, r => r
def slL : List Value → List (Option Value)
  | [] => []
  | .long x :: vs => some (.long x) :: none :: slL vs
  | .double x :: vs => some (.double x) :: none :: slL vs
  | v :: vs => some v :: slL vs
theorem slL_args {ρ : Nat → Nat} : ∀ (av : List Value) (n k : Nat) (v : Value), (slL av)[k]? = some (some v) → (n + k, cv ρ v) ∈ lv_args n (av.map (cv ρ))
  | [], n, k, v, h => by simp [slL] at h
  | w :: vs, n, k, v, h => by
    have two : ∀ x : Value, slL (x :: vs) = some x :: none :: slL vs → (cv ρ x).category = 2 → (slL (x :: vs))[k]? = some (some v) → (n + k, cv ρ v) ∈ lv_args n ((x :: vs).map (cv ρ)) := by
      intro x hs hc hk
      rw [hs] at hk
      simp only [List.map_cons, lv_args, hc, if_pos]
      rcases k with _ | _ | k
      · simp only [List.getElem?_cons_zero, Option.some.injEq] at hk
        subst hk
        exact List.mem_cons_self
      · simp at hk
      · simp only [List.getElem?_cons_succ] at hk
        have := slL_args (ρ := ρ) vs (n + 2) k v hk
        rw [show n + 2 + k = n + (k + 1 + 1) by omega] at this
        exact List.mem_cons_of_mem _ this
    have one : ∀ x : Value, slL (x :: vs) = some x :: slL vs → ¬ (cv ρ x).category = 2 → (slL (x :: vs))[k]? = some (some v) → (n + k, cv ρ v) ∈ lv_args n ((x :: vs).map (cv ρ)) := by
      intro x hs hc hk
      rw [hs] at hk
      simp only [List.map_cons, lv_args, if_neg hc]
      rcases k with _ | k
      · simp only [List.getElem?_cons_zero, Option.some.injEq] at hk
        subst hk
        exact List.mem_cons_self
      · simp only [List.getElem?_cons_succ] at hk
        have := slL_args (ρ := ρ) vs (n + 1) k v hk
        rw [show n + 1 + k = n + (k + 1) by omega] at this
        exact List.mem_cons_of_mem _ this
    cases w with
    | long x => exact two _ rfl rfl h
    | double x => exact two _ rfl rfl h
    | int x => exact one _ rfl (by simp [cv, Value.category]) h
    | float x => exact one _ rfl (by simp [cv, Value.category]) h
    | null => exact one _ rfl (by simp [cv, Value.category]) h
    | ref x => exact one _ rfl (by simp [cv, Value.category]) h
    | retAddr x => exact one _ rfl (by simp [cv, Value.category]) h
theorem slL_len {ρ : Nat → Nat} : ∀ (av : List Value), (lg_sl (av.map (cv ρ))).length = (slL av).length
  | [] => rfl
  | w :: vs => by
    have ih := slL_len (ρ := ρ) vs
    have e : lg_sl (cv ρ w :: vs.map (cv ρ)) = (if (cv ρ w).category = 2 then [Slot.val (cv ρ w), Slot.second] else [Slot.val (cv ρ w)]) ++ lg_sl (vs.map (cv ρ)) := rfl
    rw [List.map_cons, e, List.length_append, ih]
    cases w <;> simp only [slL, cv, Value.category, List.length_cons, List.length_nil, if_pos, if_neg, reduceIte, Nat.reduceEqDiff] <;> omega
theorem lvr_entry {ρ : Nat → Nat} {av : List Value} {n : Nat} {L : List (Option Value)} (hL : slL av ++ List.replicate (n - (slL av).length) none = L) (hn : (slL av).length ≤ n) : lvr ρ ((lg_sl (av.map (cv ρ)) ++ List.replicate (n - (lg_sl (av.map (cv ρ))).length) Slot.unset).toArray) n L := by
  have h := lv_entry (av.map (cv ρ)) (n := n) (by rw [slL_len]; exact hn)
  refine ⟨h.1, h.2.1, fun k v hk => ?_⟩
  rw [← hL] at hk
  by_cases hl : k < (slL av).length
  · rw [List.getElem?_append_left hl] at hk
    have := slL_args (ρ := ρ) av 0 k v hk
    rw [Nat.zero_add] at this
    exact h.2.2 _ this
  · rw [List.getElem?_append_right (by omega)] at hk
    have := List.eq_of_mem_replicate (List.mem_of_getElem? hk)
    cases this
theorem fb_QK {D : va_G} {aC : Nat → ClassId} {ρ : Nat → Nat} {dm : Nat × Nat} {G : Nat → Nat → Value} {A : AH} {av : List Value} : FrameBlind (va_Pc av (fun U => WD D aC ρ dm G A U U.heap ∧ EX (fr ρ dm) ρ U U.heap)) := by
  intro a U g mk q
  obtain ⟨q0, q1, q2⟩ := q
  exact ⟨q0, WD.moved (u := U) (U := U.calling g mk a) (Vm.Alike.refl U.vm) q1, EX.same (s := U) (U := U.calling g mk a) rfl q2⟩
/-- a method's contract, by its walk -/
theorem Ct.of {y : MethodName} {M : MI} {d : Nat} {dm : Nat × Nat} {G : Nat → Nat → Value} {av : List Value} {A : AH} {K : Option Value → AH → Prop} (L : List (Option Value)) (hy : plainName y.cls = true) (ho : M.1 = y.cls) (hL : slL av ++ List.replicate (M.2.2.1 - (slL av).length) none = L) (hn : (slL av).length ≤ M.2.2.1) (h : WP M d dm G 0 L [] A K) : Ct y M d dm G av A K := by
  intro l D aC ρ
  refine Met.ofW (cc := M.2.1) (maxL := M.2.2.1) (ret := M.2.2.2) hy rfl ?_
  intro p e s m args below meth c s₁ B hml hv
  obtain ⟨rfl, hWD, hE⟩ := hv
  rw [lg_entry_eq]
  have hts := atoms_spec (ws := .code y M.2.1 M.2.2.1 M.2.2.2 :: TW) B.pre
  exact h p l e _ s m _ below meth c D aC ρ s.heap [] _ (fr ρ dm) 0 0 _ (fun _ z => z) (fun v A' t hk _ hwd hF => ⟨⟨v, A', rfl, hk, hwd⟩, hF⟩) ⟨Nat.zero_le _, Nat.zero_le _⟩ ⟨⟨B.exec, B.bytes, hml, by rw [ho]; exact findClass_of_methodNamed B.named, fun w hw => hts w (List.mem_cons_of_mem _ hw)⟩, B.returns, B.notSynchronized⟩ (Nat.le_refl _) (Nat.le_refl _) hWD va_S.rf hE (lvr_entry hL hn)
/-- behind a call -/
theorem run_k {p : Program} {l : Launch} {e : Env} {R : Room} {s : State} {m : MethodId} {args : Array Value} {below : List Frame} {meth : Method} {c : Code} {H H0 : Heap} {locs : List Loc} {Q : State → Prop} {D : va_G} {aC : Nat → ClassId} {ρ : Nat → Nat} {dm : Nat × Nat} {G : Nat → Nat → Value} {K' : Option Value → AH → Prop} {pc : Nat} {ls : Array Slot} {st0 rest : List Value} {a : Array Value} {B : Nat → Prop} {ce sl : Nat} (hB : ∀ q, fr ρ dm q → B q)
    (hr : va_Run p l e R s m args below meth c H locs ce sl 0 0 (F0 m pc ls st0) (rest.map (cv ρ)) (QK D aC ρ dm G K' a) (fr ρ dm)) (hS : va_S B H0 H locs)
    (kk : ∀ (v : Option Value) (A : AH) (H1 : Heap) (locs1 : List Loc), K' v A → WD D aC ρ dm G A s H1 → va_S B H0 H1 locs1 → W p l e R s m args below meth c H1 locs1 ce sl Q (F0 m (pc + 3) ls ((ov v rest).map (cv ρ)))) : W p l e R s m args below meth c H locs ce sl Q (F0 m pc ls st0) := by
  intro T hT X
  obtain ⟨v0, st₀, t, T', L, h0, X', hL, e1, e2, ⟨⟨v, A, hv, hk, hwd⟩, hz, hko⟩, st⟩ := hr T hT X
  have hv' : v0 = v.map (cv ρ) := by cases hv; rfl
  subst hv'
  rw [h0] at hz hko
  have hwd' : WD D aC ρ dm G A s T'.heap := by
    rw [e1]
    exact WD.moved (by rw [← e2]; exact X'.warmed.alike.symm) hwd
  obtain ⟨t2, a1, b1⟩ := kk v A T'.heap (locs ++ L) hk hwd'
    ⟨Nat.le_trans hS.1 (by rw [e1]; exact hz), fun q h1 h2 => by rw [e1, hko q (Nat.lt_of_lt_of_le h1 hS.1) (fun z => h2 (hB q z))]; exact hS.2.1 q h1 h2, fun q hq => by
      rcases List.mem_append.mp hq with h | h
      · exact hS.2.2 q h
      · exact hB _ (hL q h)⟩ T' rfl X'
  refine ⟨t2, st t2 ?_, b1⟩
  cases v <;> exact a1
