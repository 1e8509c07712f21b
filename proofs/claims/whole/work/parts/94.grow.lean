/-! ===== worlds that grow: walks to exits that may make cells ===== -/
def grw (ρ : Nat → Nat) (b n N z : Nat) : Prop := ∀ i, n ≤ i → i < N → ρ (b + i) = z + (i - n)
def WN (M : MI) (ini : Bool) (d b N mc ms : Nat) (E : Nat → List (Option Value) → List Value → Nat → Nat → Nat → (Nat → Nat → Value) → AH → Prop) (n kc ks : Nat) (G : Nat → Nat → Value) (A : AH) (pc : Nat) (L : List (Option Value)) (S : List Value) : Prop :=
  ∀ (p : Program) (l : Launch) (e : Env) (R : Room) (s : State) (m : MethodId) (args : Array Value) (below : List Frame) (meth : Method) (c : Code) (D : va_G) (aC : Nat → ClassId) (ρ : Nat → Nat) (H : Heap) (locs : List Loc) (ls : Array Slot) (B : Nat → Prop) (Q : State → Prop),
    (∀ q, s.heap.size ≤ q → B q) →
    (∀ (pc' : Nat) (L' : List (Option Value)) (S' : List Value) (n' kc' ks' : Nat) (G' : Nat → Nat → Value) (A' : AH) (H' : Heap) (locs' : List Loc) (ls' : Array Slot), E pc' L' S' n' kc' ks' G' A' → grw ρ b n' N H'.size → WD D aC ρ (b, n') G' A' s H' → (∀ q, fr ρ (b, n') q → B q) → va_S B s.heap H' locs' → lvr ρ ls' M.2.2.1 L' → W p l e R s m args below meth c H' locs' kc' ks' Q (F0 m pc' ls' (S'.map (cv ρ)))) →
    (mc ≤ R.cells ∧ ms ≤ R.slots) → FX p s m args meth c M → (ini = true → meth.name = "<init>") → d ≤ R.frames → 38 * d ≤ R.locals → EX B ρ s s.heap →
    grw ρ b n N H.size → WD D aC ρ (b, n) G A s H → (∀ q, fr ρ (b, n) q → B q) → va_S B s.heap H locs → lvr ρ ls M.2.2.1 L →
    W p l e R s m args below meth c H locs kc ks Q (F0 m pc ls (S.map (cv ρ)))
theorem wg_exit {M : MI} {ini : Bool} {d b N mc ms : Nat} {E : Nat → List (Option Value) → List Value → Nat → Nat → Nat → (Nat → Nat → Value) → AH → Prop} {n kc ks : Nat} {G : Nat → Nat → Value} {A : AH} {pc : Nat} {L : List (Option Value)} {S : List Value} (h : E pc L S n kc ks G A) : WN M ini d b N mc ms E n kc ks G A pc L S := by
  intro p l e R s m args below meth c D aC ρ H locs ls B Q h0 hE1 hR0 X hin hf hl hE hgr hW hfr hS hv
  exact hE1 _ _ _ _ _ _ _ _ _ _ _ h hgr hW hfr hS hv
theorem wg_aload_n {M : MI} {ini : Bool} {d b N mc ms : Nat} {E : Nat → List (Option Value) → List Value → Nat → Nat → Nat → (Nat → Nat → Value) → AH → Prop} {n kc ks : Nat} {G : Nat → Nat → Value} {A : AH} {pc : Nat} {L : List (Option Value)} {S : List Value} {i : Fin 4} {x : Nat} (q : Nat) (hd : decode M.2.1 pc = .ok (.aload_n i, 1)) (hq : pc + 1 = q) (hx : L[(i : Nat)]? = some (some (.ref x))) (k : WN M ini d b N mc ms E n kc ks G A q L (.ref x :: S)) : WN M ini d b N mc ms E n kc ks G A pc L S := by
  subst hq
  intro p l e R s m args below meth c D aC ρ H locs ls B Q h0 hE1 hR0 X hin hf hl hE hgr hW hfr hS hv
  exact lv_aload_n X.1.1 X.1.2.1 hd rfl (hv.2.2 _ _ hx) (k p l e R s m args below meth c D aC ρ H locs ls B Q h0 hE1 hR0 X hin hf hl hE hgr hW hfr hS hv)
theorem wg_iload_n {M : MI} {ini : Bool} {d b N mc ms : Nat} {E : Nat → List (Option Value) → List Value → Nat → Nat → Nat → (Nat → Nat → Value) → AH → Prop} {n kc ks : Nat} {G : Nat → Nat → Value} {A : AH} {pc : Nat} {L : List (Option Value)} {S : List Value} {i : Fin 4} {x : Int32} (q : Nat) (hd : decode M.2.1 pc = .ok (.iload_n i, 1)) (hq : pc + 1 = q) (hx : L[(i : Nat)]? = some (some (.int x))) (k : WN M ini d b N mc ms E n kc ks G A q L (.int x :: S)) : WN M ini d b N mc ms E n kc ks G A pc L S := by
  subst hq
  intro p l e R s m args below meth c D aC ρ H locs ls B Q h0 hE1 hR0 X hin hf hl hE hgr hW hfr hS hv
  exact lv_iload_n X.1.1 X.1.2.1 hd rfl (hv.2.2 _ _ hx) (k p l e R s m args below meth c D aC ρ H locs ls B Q h0 hE1 hR0 X hin hf hl hE hgr hW hfr hS hv)
theorem wg_iconst {M : MI} {ini : Bool} {d b N mc ms : Nat} {E : Nat → List (Option Value) → List Value → Nat → Nat → Nat → (Nat → Nat → Value) → AH → Prop} {n kc ks : Nat} {G : Nat → Nat → Value} {A : AH} {pc : Nat} {L : List (Option Value)} {S : List Value} {z : Int} {v : Int32} (q : Nat) (hd : decode M.2.1 pc = .ok (.iconst z, 1)) (hq : pc + 1 = q) (hv0 : Int32.ofInt z = v) (k : WN M ini d b N mc ms E n kc ks G A q L (.int v :: S)) : WN M ini d b N mc ms E n kc ks G A pc L S := by
  subst hq
  intro p l e R s m args below meth c D aC ρ H locs ls B Q h0 hE1 hR0 X hin hf hl hE hgr hW hfr hS hv
  exact lv_iconst X.1.1 X.1.2.1 hd hv0 (k p l e R s m args below meth c D aC ρ H locs ls B Q h0 hE1 hR0 X hin hf hl hE hgr hW hfr hS hv)
theorem wg_bipush {M : MI} {ini : Bool} {d b N mc ms : Nat} {E : Nat → List (Option Value) → List Value → Nat → Nat → Nat → (Nat → Nat → Value) → AH → Prop} {n kc ks : Nat} {G : Nat → Nat → Value} {A : AH} {pc : Nat} {L : List (Option Value)} {S : List Value} {z : Int} {v : Int32} (q : Nat) (hd : decode M.2.1 pc = .ok (.bipush z, 2)) (hq : pc + 2 = q) (hv0 : (Int8.ofInt z).toInt32 = v) (k : WN M ini d b N mc ms E n kc ks G A q L (.int v :: S)) : WN M ini d b N mc ms E n kc ks G A pc L S := by
  subst hq
  intro p l e R s m args below meth c D aC ρ H locs ls B Q h0 hE1 hR0 X hin hf hl hE hgr hW hfr hS hv
  exact lv_bipush X.1.1 X.1.2.1 hd hv0 (k p l e R s m args below meth c D aC ρ H locs ls B Q h0 hE1 hR0 X hin hf hl hE hgr hW hfr hS hv)
theorem wg_sipush {M : MI} {ini : Bool} {d b N mc ms : Nat} {E : Nat → List (Option Value) → List Value → Nat → Nat → Nat → (Nat → Nat → Value) → AH → Prop} {n kc ks : Nat} {G : Nat → Nat → Value} {A : AH} {pc : Nat} {L : List (Option Value)} {S : List Value} {z : Int} {v : Int32} (q : Nat) (hd : decode M.2.1 pc = .ok (.sipush z, 3)) (hq : pc + 3 = q) (hv0 : (Int16.ofInt z).toInt32 = v) (k : WN M ini d b N mc ms E n kc ks G A q L (.int v :: S)) : WN M ini d b N mc ms E n kc ks G A pc L S := by
  subst hq
  intro p l e R s m args below meth c D aC ρ H locs ls B Q h0 hE1 hR0 X hin hf hl hE hgr hW hfr hS hv
  exact lv_sipush X.1.1 X.1.2.1 hd hv0 (k p l e R s m args below meth c D aC ρ H locs ls B Q h0 hE1 hR0 X hin hf hl hE hgr hW hfr hS hv)
theorem wg_dup {M : MI} {ini : Bool} {d b N mc ms : Nat} {E : Nat → List (Option Value) → List Value → Nat → Nat → Nat → (Nat → Nat → Value) → AH → Prop} {n kc ks : Nat} {G : Nat → Nat → Value} {A : AH} {pc : Nat} {L : List (Option Value)} {S : List Value} {x : Nat} (q : Nat) (hd : decode M.2.1 pc = .ok (.dup, 1)) (hq : pc + 1 = q) (k : WN M ini d b N mc ms E n kc ks G A q L (.ref x :: .ref x :: S)) : WN M ini d b N mc ms E n kc ks G A pc L (.ref x :: S) := by
  subst hq
  intro p l e R s m args below meth c D aC ρ H locs ls B Q h0 hE1 hR0 X hin hf hl hE hgr hW hfr hS hv
  exact lv_dup X.1.1 X.1.2.1 hd rfl (k p l e R s m args below meth c D aC ρ H locs ls B Q h0 hE1 hR0 X hin hf hl hE hgr hW hfr hS hv)
theorem wg_top {M : MI} {ini : Bool} {d b N mc ms : Nat} {E : Nat → List (Option Value) → List Value → Nat → Nat → Nat → (Nat → Nat → Value) → AH → Prop} {n kc ks : Nat} {G : Nat → Nat → Value} {A : AH} {pc : Nat} {L : List (Option Value)} {S : List Value} {x v : Int32} (hx : x = v) (k : WN M ini d b N mc ms E n kc ks G A pc L (.int v :: S)) : WN M ini d b N mc ms E n kc ks G A pc L (.int x :: S) := by rw [hx]; exact k
theorem wg_eq {M : MI} {ini : Bool} {d b N mc ms : Nat} {E : Nat → List (Option Value) → List Value → Nat → Nat → Nat → (Nat → Nat → Value) → AH → Prop} {n kc ks : Nat} {G : Nat → Nat → Value} {A : AH} {pc : Nat} {L : List (Option Value)} {S : List Value} {L' : List (Option Value)} {S' : List Value} {A' : AH} {G' : Nat → Nat → Value} (hL : L = L') (hS : S = S') (hA : A = A') (hG : G = G') (k : WN M ini d b N mc ms E n kc ks G' A' pc L' S') : WN M ini d b N mc ms E n kc ks G A pc L S := by subst hL; subst hS; subst hA; subst hG; exact k
theorem wsA_setG {aC : Nat → ClassId} {ρ : Nat → Nat} {dm : Nat × Nat} {G G' : Nat → Nat → Value} {A A' : AH} {B : Nat → Prop} {o q0 : Nat} (hD : va_D B (wsA aC ρ dm G A)) (hq : (dmL dm)[q0]? = some o) (hne : ∀ x, x ≠ o → cellE aC ρ G' A' x = cellE aC ρ G A x) :
    (wsA aC ρ dm G A).set q0 (ρ o, cellE aC ρ G' A' o) = wsA aC ρ dm G' A' := by
  have hl : q0 < (wsA aC ρ dm G A).length := by
    have := (List.getElem?_eq_some_iff.mp hq).1
    simpa [wsA] using this
  have hws : ∀ (j x : Nat), (dmL dm)[j]? = some x → (wsA aC ρ dm G A)[j]? = some (ρ x, cellE aC ρ G A x) := fun j x h => by simp only [wsA, List.getElem?_map, h, Option.map_some]
  apply List.ext_getElem?
  intro j
  by_cases hj : j = q0
  · subst hj
    rw [List.getElem?_set_self hl]
    simp only [wsA, List.getElem?_map, hq, Option.map_some]
  · rw [List.getElem?_set_ne (Ne.symm hj)]
    cases hx : (dmL dm)[j]? with
    | none => simp only [wsA, List.getElem?_map, hx, Option.map_none]
    | some x =>
      have hxo : x ≠ o := by
        intro e
        subst e
        exact hj (hD.1 j q0 _ _ (hws j x hx) (hws q0 x hq) rfl)
      simp only [wsA, List.getElem?_map, hx, Option.map_some, hne x hxo]
def upG (G : Nat → Nat → Value) (o k : Nat) (v : Value) : Nat → Nat → Value := upd2 G o k v
theorem cellE_congrG {aC : Nat → ClassId} {ρ : Nat → Nat} {G G' : Nat → Nat → Value} {A A' : AH} {x : Nat} (h1 : A'.1 x = A.1 x) (h2 : A'.2 x = A.2 x) (h3 : ∀ k, cv ρ (G' x k) = cv ρ (G x k)) : cellE aC ρ G' A' x = cellE aC ρ G A x := by
  have hf : ∀ ty k, fvk ty ρ G' A' x k = fvk ty ρ G A x k := by
    intro ty k
    unfold fvk
    split
    · rw [h1]
    · rw [h2]
    · exact h3 k
  unfold cellE
  split
  · simp only [hf]
  · rw [h1, h2]
section PZ
variable {p : Program} {l : Launch} {e : Env} {R : Room} {s : State} {m : MethodId} {args : Array Value} {below : List Frame} {meth : Method} {c : Code} {D : va_G} {aC : Nat → ClassId} {ρ : Nat → Nat} {H : Heap} {locs : List Loc} {ls : Array Slot} {Q : State → Prop} {M : MI} {dm : Nat × Nat} {G G' : Nat → Nat → Value} {A A' : AH} {pc o : Nat} {rest : List Value} {H0 : Heap} {B : Nat → Prop} {ce sl : Nat}
theorem put_z (hB : ∀ q, fr ρ dm q → B q) (X : FX p s m args meth c M) (hW : WD D aC ρ dm G A s H) (hS : va_S B s.heap H locs) {index ci k : Nat} (hd : decode M.2.1 pc = .ok (.putfield index, 3)) (h1 : ci < 14) (h2 : k < clN ci) (h3 : Cond.fieldLink M.1 index (clT ci k).1 (clT ci k).2.1 (clT ci k).2.2.1 ∈ TW) (ho : inD dm o = true) (hs : shp o = .inl ci) (hfin : (clT ci k).2.2.2 = false ∨ ((clT ci k).2.2.2 = true ∧ meth.name = "<init>" ∧ (clT ci k).1 = M.1)) {v : Value} (hv : fvk (clTy ci k) ρ G' A' o k = v) (hoth : ∀ j, j ≠ k → fvk (clTy ci j) ρ G' A' o j = fvk (clTy ci j) ρ G A o j) (hne : ∀ x, x ≠ o → cellE aC ρ G' A' x = cellE aC ρ G A x) (hn : narrow (clTy ci k) v = v) (hfit : fits (clTy ci k) v = true)
    (kk : ∀ (H1 : Heap) (locs1 : List Loc), H1.size = H.size → WD D aC ρ dm G' A' s H1 → va_S B s.heap H1 locs1 → W p l e R s m args below meth c H1 locs1 ce sl Q (F0 m (pc + 3) ls rest)) : W p l e R s m args below meth c H locs ce sl Q (F0 m pc ls (v :: .ref (ρ o) :: rest)) := by
  obtain ⟨q0, hq, hat⟩ := wsA_at (aC := aC) (ρ := ρ) (G := G) (A := A) ho
  have he : (wsA aC ρ dm G A)[q0]? = some (ρ o, .inr (ci, (List.range (clN ci)).map (fun k => fvk (clTy ci k) ρ G A o k))) := by rw [hat]; simp only [cellE, hs]
  have hset : ((List.range (clN ci)).map (fun k => fvk (clTy ci k) ρ G A o k)).set k v = (List.range (clN ci)).map (fun k => fvk (clTy ci k) ρ G' A' o k) := by
    apply List.ext_getElem?
    intro j
    by_cases hj : j = k
    · subst hj
      rw [List.getElem?_set_self (by simpa using h2), List.getElem?_map, List.getElem?_range h2, Option.map_some, hv]
    · rw [List.getElem?_set_ne (Ne.symm hj), List.getElem?_map, List.getElem?_map]
      by_cases hjl : j < clN ci
      · rw [List.getElem?_range hjl, Option.map_some, Option.map_some, hoth j hj]
      · rw [List.getElem?_eq_none (by simpa using hjl), Option.map_none, Option.map_none]
  have hw : (wsA aC ρ dm G A).set q0 (ρ o, .inr (ci, ((List.range (clN ci)).map (fun k => fvk (clTy ci k) ρ G A o k)).set k v)) = wsA aC ρ dm G' A' := by
    rw [hset, ← wsA_setG hW.2.1 hq hne]
    simp only [cellE, hs]
  have hts := X.1.2.2.2.2
  have hD := hW.db hB
  have hap := va_apart (own := M.1) hts (cl_in h1) (clTy ci) (cl_ty h1) (cl_nm h1) hW.2.2 (cl_at h1)
  obtain ⟨r, g1, cell, q1, q2, q3, q4⟩ := hW.1 q0 _ he
  have hr : r = (clR ci, clT ci, clN ci) := Option.some.inj (g1.symm.trans (cl_at h1))
  subst hr
  obtain ⟨hSl, hfc, kC, hkC, hkind⟩ := hW.2.2.1 ci _ (cl_at h1)
  obtain ⟨cf, kf, fi, f, hi, hsl⟩ := hSl k h2
  have hlay := hts _ (cl_in h1 _ (u_in_lay h2))
  unfold u_lay at hlay
  have hst := (u_facts hfc hkC (u_lays hts (cl_in h1) h2) hi).1
  have hl : k < ((List.range (clN ci)).map (fun k => fvk (clTy ci k) ρ G A o k)).length := by simpa using h2
  have fin : ∀ H' : Heap, H'[ρ o]? = some (cell.setSlot f.slot v) → H'.size = H.size → (∀ q, q ≠ ρ o → H'[q]? = H[q]?) → W p l e R s m args below meth c H' (locs ++ [⟨ρ o, f.slot⟩]) ce sl Q (F0 m (pc + 3) ls rest) := by
    intro H' e1 e2 e3
    have hat1 : va_at D classes (ρ o, .inr (ci, ((List.range (clN ci)).map (fun k => fvk (clTy ci k) ρ G A o k)).set k v)) H' := ⟨_, cl_at h1, t_OB.to (V := updV (vp_V ((List.range (clN ci)).map (fun k => fvk (clTy ci k) ρ G A o k))) k v) ⟨cell.setSlot (D.2 ci k) v, (by rw [hsl] at e1; exact e1), q2, q3, t_set q4 hap h2 v⟩ (fun j _ => vp_updV_set hl v j)⟩
    have hP1 := hW.1.set hD he hat1 e3
    have hD1 := hD.set (e := .inr (ci, ((List.range (clN ci)).map (fun k => fvk (clTy ci k) ρ G A o k)).set k v)) he
    rw [hw] at hP1 hD1
    exact kk H' _ e2 ⟨hP1, hD1.fr, hW.2.2⟩ (hS.put e2 e3 (hD.2 q0 _ he))
  rcases hfin with hfin | ⟨hfin, hin2, hdecl⟩
  · rw [if_neg (by rw [hfin]; decide)] at hlay
    have h6 := u_store hfc hkC hkind hlay hi (cl_ty h1 k h2) hn hfit
    exact W.putK X.1.1 X.1.2.1 (f := f) ⟨X.1.2.2.2.1, hts _ h3, ⟨_, _, _, hi⟩, hst⟩ (by rw [q2]; exact h6) q1 q3 (by rw [hsl]; exact k2_hasslot (q4 k h2)) rfl rfl hd fin
  · rw [if_pos hfin] at hlay
    have hcf : m.cls = cf := by
      obtain ⟨_, _, c', _, _, _, -, -, hf', -, -, -, hown2, -⟩ := Cond.laysFinal_spec hlay
      have e1 : c' = cf := by have := hi.symm.trans hf'; simp at this; exact this.1.symm
      rw [hdecl] at hown2
      rw [← e1]; exact Option.some.inj (X.1.2.2.2.1.symm.trans hown2)
    have h6 := u_fits hfc hkC hkind (Or.inr hlay) hi (cl_ty h1 k h2) hn hfit
    exact W.putFinK X.1.1 X.1.2.1 X.1.2.2.2.1 (hts _ h3) hi hst hcf hin2 (by rw [q2]; exact h6) q1 q3 (by rw [hsl]; exact k2_hasslot (q4 k h2)) rfl rfl hd fin
end PZ
/-- a field's link, its own class's -/
def FA1 (own : String) (index ci k : Nat) : Prop := ci < 14 ∧ k < clN ci ∧ Cond.fieldLink own index (clT ci k).1 (clT ci k).2.1 (clT ci k).2.2.1 ∈ TW
theorem wg_puti {M : MI} {ini : Bool} {d b N mc ms : Nat} {E : Nat → List (Option Value) → List Value → Nat → Nat → Nat → (Nat → Nat → Value) → AH → Prop} {n kc ks : Nat} {G : Nat → Nat → Value} {A : AH} {pc : Nat} {L : List (Option Value)} {S : List Value} {i ci f o : Nat} {x : Int32} (q : Nat) (hd : decode M.2.1 pc = .ok (.putfield i, 3)) (hq : pc + 3 = q) (hf0 : FA1 M.1 i ci f) (ho : inD (b, n) o = true) (hs : shp o = .inl ci) (ht : clTy ci f = .int) (hfin : (clT ci f).2.2.2 = false) (k : WN M ini d b N mc ms E n kc ks G (upd2 A.1 o f x, A.2) q L S) : WN M ini d b N mc ms E n kc ks G A pc L (.int x :: .ref o :: S) := by
  subst hq
  intro p l e R s m args below meth c D aC ρ H locs ls B Q h0 hE1 hR0 X hin hf hl hE hgr hW hfr hS hv
  exact put_z hfr X hW hS hd hf0.1 hf0.2.1 hf0.2.2 ho hs (Or.inl hfin) (v := .int x) (by rw [ht]; simp only [fvk, upd2_at]) (fun j hj => fvk_i hj) (fun x hx => cellE_congr (upd2_ne hx) rfl) (by rw [ht]; rfl) (by rw [ht]; rfl) (fun H1 locs1 hz hW1 hS1 => (k p l e R s m args below meth c D aC ρ H1 locs1 ls B Q h0 hE1 hR0 X hin hf hl hE (by rw [hz]; exact hgr) hW1 hfr hS1 hv))
theorem wg_putr {M : MI} {ini : Bool} {d b N mc ms : Nat} {E : Nat → List (Option Value) → List Value → Nat → Nat → Nat → (Nat → Nat → Value) → AH → Prop} {n kc ks : Nat} {G : Nat → Nat → Value} {A : AH} {pc : Nat} {L : List (Option Value)} {S : List Value} {i ci f o x : Nat} (q : Nat) (hd : decode M.2.1 pc = .ok (.putfield i, 3)) (hq : pc + 3 = q) (hf0 : FA1 M.1 i ci f) (ho : inD (b, n) o = true) (hs : shp o = .inl ci) (ht : ∀ (ρ : Nat → Nat) (G : Nat → Nat → Value) (A : AH), fvk (clTy ci f) ρ G A o f = cv ρ (G o f)) (hfin : (clT ci f).2.2.2 = false ∨ ((clT ci f).2.2.2 = true ∧ ini = true ∧ (clT ci f).1 = M.1)) (hn : ∀ a, narrow (clTy ci f) (.ref a) = .ref a) (hft : ∀ a, fits (clTy ci f) (.ref a) = true) (k : WN M ini d b N mc ms E n kc ks (upd2 G o f (.ref x)) A q L S) : WN M ini d b N mc ms E n kc ks G A pc L (.ref x :: .ref o :: S) := by
  subst hq
  intro p l e R s m args below meth c D aC ρ H locs ls B Q h0 hE1 hR0 X hin hf hl hE hgr hW hfr hS hv
  have hg : ∀ y, y ≠ o → ∀ j, upd2 G o f (.ref x) y j = G y j := fun y hy j => by rw [upd2_ne hy]
  exact put_z (G' := upd2 G o f (.ref x)) hfr X hW hS hd hf0.1 hf0.2.1 hf0.2.2 ho hs (hfin.imp id (fun h => ⟨h.1, hin h.2.1, h.2.2⟩)) (v := .ref (ρ x)) (by rw [ht, upd2_at]; rfl) (fun j hj => by unfold fvk; split <;> first | rfl | rw [upd2_off hj]) (fun y hy => cellE_congrG rfl rfl (fun k => by rw [hg y hy])) (hn _) (hft _) (fun H1 locs1 hz hW1 hS1 => (k p l e R s m args below meth c D aC ρ H1 locs1 ls B Q h0 hE1 hR0 X hin hf hl hE (by rw [hz]; exact hgr) hW1 hfr hS1 hv))
theorem wg_geti {M : MI} {ini : Bool} {d b N mc ms : Nat} {E : Nat → List (Option Value) → List Value → Nat → Nat → Nat → (Nat → Nat → Value) → AH → Prop} {n kc ks : Nat} {G : Nat → Nat → Value} {A : AH} {pc : Nat} {L : List (Option Value)} {S : List Value} {i ci f o : Nat} {x : Int32} (q : Nat) (hd : decode M.2.1 pc = .ok (.getfield i, 3)) (hq : pc + 3 = q) (hf0 : FA M.1 i ci f) (ho : inD (b, n) o = true) (hs : shp o = .inl ci) (ht : clTy ci f = .int) (hx : A.1 o f = x) (k : WN M ini d b N mc ms E n kc ks G A q L (.int x :: S)) : WN M ini d b N mc ms E n kc ks G A pc L (.ref o :: S) := by
  subst hq
  intro p l e R s m args below meth c D aC ρ H locs ls B Q h0 hE1 hR0 X hin hf hl hE hgr hW hfr hS hv
  exact get_core X hW hE hd hf0 ho hs (v := .int x) (by rw [ht]; simp only [fvk, hx]) (k p l e R s m args below meth c D aC ρ H locs ls B Q h0 hE1 hR0 X hin hf hl hE hgr hW hfr hS hv)
theorem wg_getr {M : MI} {ini : Bool} {d b N mc ms : Nat} {E : Nat → List (Option Value) → List Value → Nat → Nat → Nat → (Nat → Nat → Value) → AH → Prop} {n kc ks : Nat} {G : Nat → Nat → Value} {A : AH} {pc : Nat} {L : List (Option Value)} {S : List Value} {i ci f o x : Nat} (q : Nat) (hd : decode M.2.1 pc = .ok (.getfield i, 3)) (hq : pc + 3 = q) (hf0 : FA M.1 i ci f) (ho : inD (b, n) o = true) (hs : shp o = .inl ci) (ht : ∀ (ρ : Nat → Nat) (G : Nat → Nat → Value) (A : AH), fvk (clTy ci f) ρ G A o f = cv ρ (G o f)) (hx : G o f = .ref x) (k : WN M ini d b N mc ms E n kc ks G A q L (.ref x :: S)) : WN M ini d b N mc ms E n kc ks G A pc L (.ref o :: S) := by
  subst hq
  intro p l e R s m args below meth c D aC ρ H locs ls B Q h0 hE1 hR0 X hin hf hl hE hgr hW hfr hS hv
  exact get_core X hW hE hd hf0 ho hs (v := .ref (ρ x)) (by rw [ht, hx]; rfl) (k p l e R s m args below meth c D aC ρ H locs ls B Q h0 hE1 hR0 X hin hf hl hE hgr hW hfr hS hv)
theorem dmL_succ (b n : Nat) : dmL (b, n + 1) = dmL (b, n) ++ [b + n] := by simp [dmL, List.range_succ]
theorem wsA_succ (aC : Nat → ClassId) (ρ : Nat → Nat) (b n : Nat) (G : Nat → Nat → Value) (A : AH) : wsA aC ρ (b, n + 1) G A = wsA aC ρ (b, n) G A ++ [(ρ (b + n), cellE aC ρ G A (b + n))] := by simp [wsA, dmL_succ]
theorem fr_succ {ρ : Nat → Nat} {b n : Nat} {B : Nat → Prop} (h : ∀ q, fr ρ (b, n) q → B q) (h1 : B (ρ (b + n))) : ∀ q, fr ρ (b, n + 1) q → B q := by
  rintro q ⟨o, ho, rfl⟩
  rw [dmL_succ] at ho
  rcases List.mem_append.mp ho with ho | ho
  · exact h _ ⟨o, ho, rfl⟩
  · rw [List.mem_singleton.mp ho]; exact h1
/-- the world with one cell more -/
theorem WD.push {D : va_G} {aC : Nat → ClassId} {ρ : Nat → Nat} {b n : Nat} {G : Nat → Nat → Value} {A : AH} {s : State} {H H1 : Heap} (hW : WD D aC ρ (b, n) G A s H) (hr : ρ (b + n) = H.size) (hk : ∀ q, q < H.size → H1[q]? = H[q]?) (ha : va_at D classes (ρ (b + n), cellE aC ρ G A (b + n)) H1) : WD D aC ρ (b, n + 1) G A s H1 := by
  have hD0 : va_D (fun _ => True) (wsA aC ρ (b, n) G A) := ⟨hW.2.1.1, fun _ _ _ => trivial⟩
  have hD1 := hD0.push (e := cellE aC ρ G A (b + n)) hW.1 hr trivial
  refine ⟨?_, ?_, hW.2.2⟩
  · rw [wsA_succ]
    refine (hW.1.kept (fun k x hx => hk x.1 ((hW.1 k x hx).lt))).app (fun k x hx => ?_)
    have hz : k < 1 := (List.getElem?_eq_some_iff.mp hx).1
    rw [show k = 0 by omega] at hx
    cases hx
    exact ha
  · have := hD1
    rw [← wsA_succ] at this
    exact this.fr
theorem grw_0 {ρ : Nat → Nat} {b n N z : Nat} (h : grw ρ b n N z) (hn : n < N) : ρ (b + n) = z := by
  have := h n (Nat.le_refl _) hn
  omega
theorem grw_1 {ρ : Nat → Nat} {b n N z : Nat} (h : grw ρ b n N z) : grw ρ b (n + 1) N (z + 1) := fun i h1 h2 => by
  have := h i (by omega) h2
  omega
def dvk (ty : FieldType) : Value := match ty with
  | .int => .int 0
  | .long => .long 0
  | _ => .null
theorem cl_dv {ci : Nat} (h : ci < 14) : ∀ k, k < clN ci → defaultValue (clTy ci k) = dvk (clTy ci k) := by
  rcases ci with _ | _ | _ | _ | _ | _ | _ | _ | _ | _ | _ | _ | _ | _ | ci
  all_goals first | omega | (intro k hk; simp only [clN] at hk; rcases k with _ | _ | _ | _ | _ | _ | _ | _ | _ | _ | _ | _ | _ | _ | _ | _ | _ | _ | _ | _ | _ | _ | _ | _ | _ | _ | _ | _ | _ | _ | _ | _ | k <;> first | rfl | omega)
theorem fvk_z {ty : FieldType} {ρ : Nat → Nat} {G : Nat → Nat → Value} {A : AH} {o k : Nat} (h1 : A.1 o k = 0) (h2 : A.2 o k = 0) (h3 : G o k = .null) : fvk ty ρ G A o k = dvk ty := by
  cases ty <;> simp only [fvk, dvk, h1, h2, h3, cv]
/-- a class's link for new -/
def NL (own : String) (index ci : Nat) : Prop := ci < 14 ∧ Cond.classLink own index (clR ci) ∈ TW ∧ Cond.instantiable (clR ci) (clN ci) ∈ TW ∧ Cond.initialized (clR ci) ∈ TW
theorem wg_new {M : MI} {ini : Bool} {d b N mc ms : Nat} {E : Nat → List (Option Value) → List Value → Nat → Nat → Nat → (Nat → Nat → Value) → AH → Prop} {n kc ks : Nat} {G : Nat → Nat → Value} {A : AH} {pc : Nat} {L : List (Option Value)} {S : List Value} {i ci : Nat} {kc' ks' x n' : Nat} (q : Nat) (hd : decode M.2.1 pc = .ok (.new i, 3)) (hq : pc + 3 = q) (hl0 : NL M.1 i ci) (hx : b + n = x) (hn1 : n + 1 = n') (hs : shp x = .inl ci) (hn : n < N) (hz : (∀ k, A.1 x k = 0) ∧ (∀ k, A.2 x k = 0) ∧ ∀ k, G x k = .null) (hkc : kc + 1 = kc') (hks : ks + clN ci = ks') (hm : kc' ≤ mc ∧ ks' ≤ ms) (k : WN M ini d b N mc ms E n' kc' ks' G A q L (.ref x :: S)) : WN M ini d b N mc ms E n kc ks G A pc L S := by
  subst hq
  intro p l e R s m args below meth c D aC ρ H locs ls B Q h0 hE1 hR0 X hin hf hl hE hgr hW hfr hS hv
  subst hkc hks hx hn1
  obtain ⟨h1, l1, l2, l3⟩ := hl0
  have hts := X.1.2.2.2.2
  have hKn := hW.2.2.1 ci _ (cl_at h1)
  refine W.newcK X.1.1 X.1.2.1 X.1.2.2.2.1 (hts _ l1) (hts _ l2) (hts _ l3) rfl hd (Nat.le_trans hm.1 hR0.1) (Nat.le_trans hm.2 hR0.2) hKn.2.1 rfl fun H1 kC hkC e1 z1 o1 => ?_
  have hr := grw_0 hgr hn
  have hb : t_OB H.size (D.1 ci) (clN ci) (D.2 ci) H1 (fun k => defaultValue (clTy ci k)) := u_born (clTy ci) hts (cl_in h1) hKn hkC e1 (cl_ty h1)
  have ha : va_at D classes (ρ (b + n), cellE aC ρ G A (b + n)) H1 := by
    simp only [cellE, hs]
    refine ⟨_, cl_at h1, ?_⟩
    rw [hr]
    refine hb.to (fun j hj => ?_)
    rw [cl_dv h1 j hj]
    have hj2 : j < clN ci := hj
    unfold vp_V
    rw [List.getD_eq_getElem?_getD, List.getElem?_map, List.getElem?_range hj2, Option.map_some, Option.getD_some]
    exact (fvk_z (hz.1 j) (hz.2.1 j) (hz.2.2 j)).symm
  have hW1 := hW.push hr o1 ha
  have := (k p l e R s m args below meth c D aC ρ H1 locs ls B Q h0 hE1 hR0 X hin hf hl hE (by rw [z1]; exact grw_1 hgr) hW1 (fr_succ hfr (by rw [hr]; exact h0 _ hS.1)) ⟨Nat.le_trans hS.1 (by omega), fun x g1 g2 => (o1 x (Nat.lt_of_lt_of_le g1 hS.1)).trans (hS.2.1 x g1 g2), hS.2.2⟩ hv)
  rw [List.map_cons, show cv ρ (.ref (b + n)) = .ref H.size by simp only [cv, hr]] at this
  exact this
def tyK (t : Nat) : FieldType := match t with
  | 0 => .int
  | 1 => .byte
  | 2 => .boolean
  | _ => .long
theorem arrV_eq {cA : ClassId} {n : Nat} {f g : Nat → Value} (h : ∀ j, f j = g j) : arrV cA n f = arrV cA n g := by rw [show f = g from funext h]
theorem wg_newa {M : MI} {ini : Bool} {d b N mc ms : Nat} {E : Nat → List (Option Value) → List Value → Nat → Nat → Nat → (Nat → Nat → Value) → AH → Prop} {n kc ks : Nat} {G : Nat → Nat → Value} {A : AH} {pc : Nat} {L : List (Option Value)} {S : List Value} {at0 : ArrayType} {t len : Nat} {kc' ks' x n' : Nat} (q : Nat) (hd : decode M.2.1 pc = .ok (.newarray at0, 2)) (hq : pc + 2 = q) (hty : newarray.typeOf at0 = tyK t) (ht4 : t < 4) (hw0 : Cond.arrayClass (tyK t) ∈ TW) (hx : b + n = x) (hn1 : n + 1 = n') (hs : shp x = .inr (t, len)) (hlen : len < 1000) (hn : n < N) (hz : (∀ k, A.1 x k = 0) ∧ ∀ k, A.2 x k = 0) (hkc : kc + 1 = kc') (hks : ks + len = ks') (hm : kc' ≤ mc ∧ ks' ≤ ms) (k : WN M ini d b N mc ms E n' kc' ks' G A q L (.ref x :: S)) : WN M ini d b N mc ms E n kc ks G A pc L (.int (nI len) :: S) := by
  subst hq
  intro p l e R s m args below meth c D aC ρ H locs ls B Q h0 hE1 hR0 X hin hf hl hE hgr hW hfr hS hv
  subst hkc hks hx hn1
  have hts := X.1.2.2.2.2
  have hr := grw_0 hgr hn
  have hc8 : componentBytes (newarray.typeOf at0) ≤ 8 := by rw [hty]; rcases (show t = 0 ∨ t = 1 ∨ t = 2 ∨ t = 3 by omega) with rfl | rfl | rfl | rfl <;> decide
  have hmul : len * componentBytes (newarray.typeOf at0) ≤ 536870912 := Nat.le_trans (Nat.mul_le_mul_left _ hc8) (by omega)
  refine va_newaK X.1.1 X.1.2.1 (by rw [hty]; exact hts _ hw0) rfl hd rfl (n := nI len) (N := len) (by rw [Int32.not_lt, ← nI_0, nI_leI (by decide) (by omega)]; omega) (nI_k (by omega)) hmul (Nat.le_trans hm.1 hR0.1) (Nat.le_trans hm.2 hR0.2) rfl fun H1 cA e1 z1 o1 hAr hNm => ?_
  have hAt : (tysA aC)[t]? = some (aC t, tyK t) := by rcases (show t = 0 ∨ t = 1 ∨ t = 2 ∨ t = 3 by omega) with rfl | rfl | rfl | rfl <;> rfl
  have hRA := (hW.2.2.2 t _ hAt).2
  have hcA : cA = aC t := by
    rw [hty] at hNm
    have h9 : s.vm.findClass ("[" ++ (tyK t).toString) = some (aC t) := by
      rcases (show t = 0 ∨ t = 1 ∨ t = 2 ∨ t = 3 by omega) with rfl | rfl | rfl | rfl <;> exact hRA
    exact Option.some.inj (hNm.symm.trans h9)
  have ha : va_at D classes (ρ (b + n), cellE aC ρ G A (b + n)) H1 := by
    simp only [cellE, hs]
    show H1[ρ (b + n)]? = some (vp_cell (aC t) (len, if t = 3 then .inr (.inl (A.2 (b + n))) else .inl (A.1 (b + n))))
    rw [hr, e1, hcA, hty]
    congr 1
    by_cases h3 : t = 3
    · subst h3
      rw [if_pos rfl, vp_cell_l]
      exact arrV_eq (fun j => by rw [hz.2]; rfl)
    · rw [if_neg h3, vp_cell_i]
      exact arrV_eq (fun j => by rw [hz.1]; rcases (show t = 0 ∨ t = 1 ∨ t = 2 by omega) with rfl | rfl | rfl <;> rfl)
  have hW1 := hW.push hr o1 ha
  have := (k p l e R s m args below meth c D aC ρ H1 locs ls B Q h0 hE1 hR0 X hin hf hl hE (by rw [z1]; exact grw_1 hgr) hW1 (fr_succ hfr (by rw [hr]; exact h0 _ hS.1)) ⟨Nat.le_trans hS.1 (by omega), fun x g1 g2 => (o1 x (Nat.lt_of_lt_of_le g1 hS.1)).trans (hS.2.1 x g1 g2), hS.2.2⟩ hv)
  rw [List.map_cons, show cv ρ (.ref (b + n)) = .ref H.size by simp only [cv, hr]] at this
  exact this
def OL (own : String) (index : Nat) : Prop := Cond.methodLink own index Lib.objectInit ∈ TW ∧ Cond.instanceMethod Lib.objectInit ∈ TW ∧ Cond.code Lib.objectInit ⟨#[0xb1]⟩ 1 none ∈ TW
theorem wg_obj {M : MI} {ini : Bool} {d b N mc ms : Nat} {E : Nat → List (Option Value) → List Value → Nat → Nat → Nat → (Nat → Nat → Value) → AH → Prop} {n kc ks : Nat} {G : Nat → Nat → Value} {A : AH} {pc : Nat} {L : List (Option Value)} {S : List Value} {i x : Nat} (q : Nat) (hd : decode M.2.1 pc = .ok (.invokespecial i, 3)) (hq : pc + 3 = q) (ho : OL M.1 i) (hd1 : 1 ≤ d) (hst : (S.map (fun v => v.category)).sum ≤ 8) (k : WN M ini d b N mc ms E n kc ks G A q L S) : WN M ini d b N mc ms E n kc ks G A pc L (.ref x :: S) := by
  subst hq
  intro p l e R s m args below meth c D aC ρ H locs ls B Q h0 hE1 hR0 X hin hf hl hE hgr hW hfr hS hv
  have hts := X.1.2.2.2.2
  have hcat := cat_le (ρ := ρ) S hst
  refine W.objInit X.1.1 X.1.2.1 X.1.2.2.2.1 (hts _ ho.1) (hts _ ho.2.1) (hts _ ho.2.2) rfl (by rw [X.1.2.2.1]; exact hv.1) rfl hd (by omega) (by show 2 * 0 + _ + 12 ≤ _; omega) ?_
  exact W.eq (g2 := F0 m (pc + 3) ls (S.map (cv ρ))) rfl (k p l e R s m args below meth c D aC ρ H locs ls B Q h0 hE1 hR0 X hin hf hl hE hgr hW hfr hS hv)
def fB (ρ : Nat → Nat) (b n z : Nat) : Nat → Prop := fun q => fr ρ (b, n) q ∨ z ≤ q
def rmI (d mc ms : Nat) : Room := { frames := d, cells := mc, slots := ms, locals := 38 * d }
def QI (D : va_G) (aC : Nat → ClassId) (ρ : Nat → Nat) (b N : Nat) (T : Nat × (Nat → Nat → Value) × AH) (F : Nat → Prop) : Array Value → State → Outcome → State → Prop := fun _ st oc t =>
  (oc = .returned none ∧ grw ρ b T.1 N t.heap.size ∧ WD D aC ρ (b, T.1) T.2.1 T.2.2 t t.heap) ∧ va_F F st t
def PI0 (D : va_G) (aC : Nat → ClassId) (ρ : Nat → Nat) (b n N z : Nat) (G : Nat → Nat → Value) (A : AH) : State → Prop := fun U => U.heap.size = z ∧ grw ρ b n N z ∧ WD D aC ρ (b, n) G A U U.heap ∧ EX (fB ρ b n z) ρ U U.heap
def CtI (y : MethodName) (M : MI) (d mc ms b N n o : Nat) (G : Nat → Nat → Value) (A : AH) (T : Nat × (Nat → Nat → Value) × AH) : Prop :=
  ∀ (l : Launch) (D : va_G) (aC : Nat → ClassId) (ρ : Nat → Nat) (z : Nat), Met l y (.code y M.2.1 M.2.2.1 M.2.2.2 :: TW) (rmI d mc ms) (va_Pc [.ref (ρ o)] (PI0 D aC ρ b n N z G A)) (QI D aC ρ b N T (fB ρ b n z)) mc ms (fB ρ b n z)
theorem fb_PI {D : va_G} {aC : Nat → ClassId} {ρ : Nat → Nat} {b n N z : Nat} {G : Nat → Nat → Value} {A : AH} {av : List Value} : FrameBlind (va_Pc av (PI0 D aC ρ b n N z G A)) := by
  intro a U g mk q
  obtain ⟨q0, q1, q2, q3, q4⟩ := q
  exact ⟨q0, q1, q2, WD.moved (u := U) (U := U.calling g mk a) (Vm.Alike.refl U.vm) q3, EX.same (s := U) (U := U.calling g mk a) rfl q4⟩
/-- the exit of a constructor -/
def EI (M : MI) (mc ms : Nat) (T : Nat × (Nat → Nat → Value) × AH) : Nat → List (Option Value) → List Value → Nat → Nat → Nat → (Nat → Nat → Value) → AH → Prop := fun pc _ S n kc ks G A => decode M.2.1 pc = .ok (.return_, 1) ∧ S = [] ∧ kc ≤ mc ∧ ks ≤ ms ∧ n = T.1 ∧ G = T.2.1 ∧ A = T.2.2
theorem CtI.of {y : MethodName} {M : MI} {d mc ms b N n o : Nat} {G : Nat → Nat → Value} {A : AH} {T : Nat × (Nat → Nat → Value) × AH} (hy : plainName y.cls = true) (ho : M.1 = y.cls) (hin : y.name = "<init>") (hM1 : M.2.2.1 = 1) (hM2 : M.2.2.2 = none) (h : WN M true d b N mc ms (EI M mc ms T) n 0 0 G A 0 [some (.ref o)] []) : CtI y M d mc ms b N n o G A T := by
  intro l D aC ρ z
  refine Met.ofW (cc := M.2.1) (maxL := M.2.2.1) (ret := M.2.2.2) hy rfl ?_
  intro p e s m args below meth c s₁ B hml hv
  obtain ⟨rfl, rfl, hgr, hWD, hE⟩ := hv
  rw [lg_entry_eq]
  have hts := atoms_spec (ws := .code y M.2.1 M.2.2.1 M.2.2.2 :: TW) B.pre
  have hX : FX p s m ([.ref (ρ o)] : List Value).toArray meth c M := ⟨⟨B.exec, B.bytes, hml, by rw [ho]; exact findClass_of_methodNamed B.named, fun w hw => hts w (List.mem_cons_of_mem _ hw)⟩, B.returns, B.notSynchronized⟩
  refine h p l e _ s m _ below meth c D aC ρ s.heap [] _ (fB ρ b n s.heap.size) _ (fun q hq => Or.inr hq) ?_ ⟨Nat.le_refl _, Nat.le_refl _⟩ hX (fun _ => by rw [(name_of_methodNamed B.named B.method).1, hin]) (Nat.le_refl _) (Nat.le_refl _) hE hgr hWD (fun q hq => Or.inl hq) va_S.rf (lvr_entry (av := [.ref o]) (by rw [hM1]; rfl) (by rw [hM1]; exact Nat.le_refl _))
  rintro pc' L' S' n' kc' ks' G' A' H' locs' ls' ⟨hd, rfl, hk1, hk2, rfl, rfl, rfl⟩ hgr' hWD' hfr' hS' hv'
  refine W.widen hk1 hk2 ?_
  exact W.vret hX.1.1 hX.1.2.1 (by rw [hX.2.1, hM2]) (fun t ht hWm => ⟨⟨rfl, by rw [ht]; exact hgr', by rw [ht]; exact hWD'.moved hWm.alike⟩, hS'.F ht⟩) hS'.2.2 hd hX.2.2
/-- a constructor of a nest mate, as the tables link it -/
def IL (own : String) (index : Nat) (y : MethodName) (M' : MI) : Prop := (∃ host, Cond.methodLinkNest own index y host ∈ lw_tbl) ∧ Cond.instanceMethod y ∈ TW ∧ Cond.initialized y.cls ∈ TW ∧ Cond.code y M'.2.1 M'.2.2.1 M'.2.2.2 ∈ TW ∧ (y.cls ≠ "java/lang/invoke/MethodHandle" ∧ y.cls ≠ "java/lang/invoke/VarHandle" ∧ (parseMethodDescriptor y.desc).map (fun d => d.parameters.length) = some 0) ∧ M'.2.2.1 = 1 ∧ M'.2.2.2 = none ∧ y.name = "<init>"
theorem wg_init {M : MI} {ini : Bool} {d b N mc ms : Nat} {E : Nat → List (Option Value) → List Value → Nat → Nat → Nat → (Nat → Nat → Value) → AH → Prop} {n kc ks : Nat} {G : Nat → Nat → Value} {A : AH} {pc : Nat} {L : List (Option Value)} {S : List Value} {i o d' mc' ms' kc' ks' : Nat} {y : MethodName} {M' : MI} {n1 : Nat} {G1 : Nat → Nat → Value} {A1 : AH} (q : Nat) (hd : decode M.2.1 pc = .ok (.invokespecial i, 3)) (hq : pc + 3 = q) (hm : IL M.1 i y M') (hc : CtI y M' d' mc' ms' b N n o G A (n1, G1, A1)) (hdd : d' + 1 ≤ d) (hkc : kc + mc' = kc') (hks : ks + ms' = ks') (hmm : kc' ≤ mc ∧ ks' ≤ ms) (hT : n ≤ n1 ∧ n1 ≤ N) (hst : (S.map (fun v => v.category)).sum ≤ 8) (k : WN M ini d b N mc ms E n1 kc' ks' G1 A1 q L S) : WN M ini d b N mc ms E n kc ks G A pc L (.ref o :: S) := by
  subst hq
  intro p l e R s m args below meth c D aC ρ H locs ls B Q h0 hE1 hR0 X hin hf hl hE hgr hW hfr hS hv
  subst hkc hks
  obtain ⟨⟨host, m1⟩, m2, m3, m4, m5, m6, m7, m8⟩ := hm
  have hts := X.1.2.2.2.2
  have hfB : ∀ q, fB ρ b n H.size q → B q := fun q hq => hq.elim (hfr q) (fun z => h0 q (Nat.le_trans hS.1 z))
  have hcn := va_cnB (R := R) (rm := rmI d' mc' ms') (mc := mc') (ms := ms') (maxL := M'.2.2.1) (ret := M'.2.2.2) (bytes := M'.2.1) (ws := .code y M'.2.1 M'.2.2.1 M'.2.2.2 :: TW) 0 hts (TW_cons m4) rfl rfl rfl (hE.1 _ m1 rfl) (hts _ m3) m5 ⟨by show d' + 1 ≤ _; omega, by show 8 + (M'.2.2.1 + 11) + 38 * d' ≤ _; omega⟩
  rw [m7] at hcn
  have hcI := hc l D aC ρ H.size
  rw [m7] at hcI
  have hrun := va_runIN (meth := meth) (locs := locs) (H := H) (below := below) (e := e) (cells := kc) (slots := ks) (g := F0 m pc ls ((.ref o :: S).map (cv ρ))) (rest := S.map (cv ρ)) (As := []) (b := ρ o) X.1 hcI ⟨hcn, m8, hts _ m2⟩ ⟨fb_PI, fun U hU hWm => ⟨rfl, by rw [hU], hgr, by rw [hU]; exact hW.moved hWm.alike, (hE.at hS hU hWm).narrow hfB⟩⟩ rfl rfl hv.1 (by simp [cv]) (lv_room (cat_le S hst)) hd ⟨Nat.le_trans hmm.1 hR0.1, Nat.le_trans hmm.2 hR0.2⟩
  intro U hU XU
  obtain ⟨v0, st₀, t, U', Ls, g0, X', hL, e1, e2, ⟨⟨hv0, hgr1, hwd⟩, hz, hko⟩, st⟩ := hrun U hU XU
  cases hv0
  rw [g0] at hz hko
  have hwd' : WD D aC ρ (b, n1) G1 A1 s U'.heap := by
    rw [e1]
    exact WD.moved (by rw [← e2]; exact X'.warmed.alike.symm) hwd
  have hfr1 : ∀ q, fr ρ (b, n1) q → B q := by
    rintro q ⟨x, hx, rfl⟩
    obtain ⟨j, hj, rfl⟩ := List.mem_map.mp hx
    have hj := List.mem_range.mp hj
    dsimp only at hj ⊢
    by_cases hjn : j < n
    · exact hfr _ ⟨b + j, List.mem_map.mpr ⟨j, List.mem_range.mpr hjn, rfl⟩, rfl⟩
    · rw [hgr j (by omega) (by omega)]
      exact h0 _ (Nat.le_trans hS.1 (Nat.le_add_right _ _))
  have hS1 : va_S B s.heap U'.heap (locs ++ Ls) := ⟨Nat.le_trans hS.1 (by rw [e1]; exact hz), fun q g1 g2 => by rw [e1, hko q (Nat.lt_of_lt_of_le g1 hS.1) (fun z => g2 (hfB q z))]; exact hS.2.1 q g1 g2, fun q hq => by
      rcases List.mem_append.mp hq with h | h
      · exact hS.2.2 q h
      · exact hfB _ (hL q h)⟩
  obtain ⟨t2, a1, b1⟩ := (k p l e R s m args below meth c D aC ρ U'.heap (locs ++ Ls) ls B Q h0 hE1 hR0 X hin hf hl hE (by rw [e1]; exact hgr1) hwd' hfr1 hS1 hv) U' rfl X'
  exact ⟨t2, st t2 a1, b1⟩
theorem wg_inv {M : MI} {ini : Bool} {d b N mc ms : Nat} {E : Nat → List (Option Value) → List Value → Nat → Nat → Nat → (Nat → Nat → Value) → AH → Prop} {n kc ks : Nat} {G : Nat → Nat → Value} {A : AH} {pc : Nat} {L : List (Option Value)} {S : List Value} {i ci o d' na : Nat} {y : MethodName} {M' : MI} {As : List Value} (q : Nat) (hd : decode M.2.1 pc = .ok (.invokevirtual i, 3)) (hq : pc + 3 = q) (hm : ML M.1 i y M' na ci) (ho : inD (b, n) o = true) (hs : shp o = .inl ci) (hn : As.length = na) (hdd : d' + 1 ≤ d) (hmm : kc ≤ mc ∧ ks ≤ ms) (hnN : N ≤ n) (hst : (S.map (fun v => v.category)).sum ≤ 8) (hc : Ct y M' d' (b, n) G (.ref o :: As) A (fun v A' => WN M ini d b N mc ms E n kc ks G A' q L (ov v S))) : WN M ini d b N mc ms E n kc ks G A pc L (As.reverse ++ .ref o :: S) := by
  subst hq
  intro p l e R s m args below meth c D aC ρ H locs ls B Q h0 hE1 hR0 X hin hf hl hE hgr hW hfr hS hv
  obtain ⟨m1, m2, m3, m4, m5, m6, m7, m8⟩ := hm
  obtain ⟨q0, hq0, hat⟩ := wsA_at (aC := aC) (ρ := ρ) (G := G) (A := A) ho
  have he : (wsA aC ρ (b, n) G A)[q0]? = some (ρ o, .inr (ci, (List.range (clN ci)).map (fun k => fvk (clTy ci k) ρ G A o k))) := by rw [hat]; simp only [cellE, hs]
  have hG : GoodIn TW (wsV M.1 i (clR ci) y (.code y M'.2.1 M'.2.2.1 M'.2.2.2 :: TW)) := by
    intro w hw
    unfold wsV at hw
    rcases List.mem_append.mp hw with hw | hw
    · simp only [List.mem_cons, List.not_mem_nil, or_false] at hw
      rcases hw with rfl | rfl | rfl | rfl
      · exact TW_g m1
      · exact TW_g m2
      · exact TW_g m3
      · exact TW_g m4
    · exact TW_cons m5 w hw
  have hrun := va_runV (meth := meth) (locs := locs) (H := H) (below := below) (e := e) (cells := kc) (slots := ks) (g := F0 m pc ls ((As.reverse ++ .ref o :: S).map (cv ρ))) (rest := S.map (cv ρ)) (As := As.map (cv ρ)) (b := ρ o) X.1 (hc l D aC ρ) (cwV (R := R) na X.1.2.2.2.2 hG rfl rfl rfl m6 ⟨by show d' + 1 ≤ _; omega, by show 8 + (M'.2.2.1 + 11) + 38 * d' ≤ _; omega⟩) ⟨fb_QK, va_recv hW.2.2 hW.1 (cl_at m8) he, fun U hU hWm => ⟨by simp [cv], by rw [hU]; exact hW.moved hWm.alike, (hE.at hS hU hWm).narrow hfr⟩⟩ rfl (by simpa using hn) hv.1 (by simp [List.map_append, List.map_reverse, cv]) (lv_room (cat_le S hst)) hd ⟨Nat.le_trans hmm.1 hR0.1, Nat.le_trans hmm.2 hR0.2⟩
  exact run_k hfr hrun hS (fun v A1 H1 locs1 hk hW1 hS1 => (hk p l e R s m args below meth c D aC ρ H1 locs1 ls B Q h0 hE1 hR0 X hin hf hl hE (fun j h1 h2 => absurd h2 (by omega)) hW1 hfr hS1 hv))
def nl (z : Nat) (G : Nat → Nat → Value) : Prop := ∀ o, z ≤ o → ∀ k, G o k = .null
theorem nl.mono {z z' : Nat} {G : Nat → Nat → Value} (h : nl z G) (hz : z ≤ z') : nl z' G := fun o ho => h o (Nat.le_trans hz ho)
theorem nl.up {z x f : Nat} {v : Value} {G : Nat → Nat → Value} (h : nl z G) (hx : x < z) : nl z (upd2 G x f v) := fun o ho k => by rw [upd2_ne (by omega)]; exact h o ho k
def zA (z : Nat) (A : AH) : Prop := ∀ o, z ≤ o → ∀ k, A.1 o k = 0 ∧ A.2 o k = 0
theorem zA.z {z x : Nat} {A : AH} (h : zA z A) (hx : z ≤ x) : (∀ k, A.1 x k = 0) ∧ ∀ k, A.2 x k = 0 := ⟨fun k => (h x hx k).1, fun k => (h x hx k).2⟩
theorem zA.n {z x : Nat} {A : AH} {G : Nat → Nat → Value} (h : zA z A) (hg : nl x G) (hx : z ≤ x) : (∀ k, A.1 x k = 0) ∧ (∀ k, A.2 x k = 0) ∧ ∀ k, G x k = .null := ⟨fun k => (h x hx k).1, fun k => (h x hx k).2, hg x (Nat.le_refl _)⟩
theorem zA.up {z x f : Nat} {v : Int32} {A : AH} (h : zA z A) (hx : x < z) : zA z (upd2 A.1 x f v, A.2) := fun o ho k => ⟨by dsimp only; rw [upd2_ne (by omega)]; exact (h o ho k).1, (h o ho k).2⟩
theorem zA.mono {z z' : Nat} {A : AH} (h : zA z A) (hz : z ≤ z') : zA z' A := fun o ho => h o (Nat.le_trans hz ho)
theorem wg_iflt {M : MI} {ini : Bool} {d b N mc ms : Nat} {E : Nat → List (Option Value) → List Value → Nat → Nat → Nat → (Nat → Nat → Value) → AH → Prop} {n kc ks : Nat} {G : Nat → Nat → Value} {A : AH} {pc : Nat} {L : List (Option Value)} {S : List Value} {x : Int32} {off : Int} (t q : Nat) (hd : decode M.2.1 pc = .ok (.ifCond .lt off, 3)) (ht : (pc : Int) + off = (t : Int)) (hq : pc + 3 = q) (kt : x < 0 → WN M ini d b N mc ms E n kc ks G A t L S) (kf : ¬ x < 0 → WN M ini d b N mc ms E n kc ks G A q L S) : WN M ini d b N mc ms E n kc ks G A pc L (.int x :: S) := by
  subst hq
  intro p l e R s m args below meth c D aC ρ H locs ls B Q h0 hE1 hR0 X hin hf hl hE hgr hW hfr hS hv
  exact lv_if_lt X.1.1 X.1.2.1 hd ht (fun h => (kt h p l e R s m args below meth c D aC ρ H locs ls B Q h0 hE1 hR0 X hin hf hl hE hgr hW hfr hS hv)) (fun h => (kf h p l e R s m args below meth c D aC ρ H locs ls B Q h0 hE1 hR0 X hin hf hl hE hgr hW hfr hS hv))
theorem wg_ifle {M : MI} {ini : Bool} {d b N mc ms : Nat} {E : Nat → List (Option Value) → List Value → Nat → Nat → Nat → (Nat → Nat → Value) → AH → Prop} {n kc ks : Nat} {G : Nat → Nat → Value} {A : AH} {pc : Nat} {L : List (Option Value)} {S : List Value} {x : Int32} {off : Int} (t q : Nat) (hd : decode M.2.1 pc = .ok (.ifCond .le off, 3)) (ht : (pc : Int) + off = (t : Int)) (hq : pc + 3 = q) (kt : x ≤ 0 → WN M ini d b N mc ms E n kc ks G A t L S) (kf : ¬ x ≤ 0 → WN M ini d b N mc ms E n kc ks G A q L S) : WN M ini d b N mc ms E n kc ks G A pc L (.int x :: S) := by
  subst hq
  intro p l e R s m args below meth c D aC ρ H locs ls B Q h0 hE1 hR0 X hin hf hl hE hgr hW hfr hS hv
  exact lv_if_le X.1.1 X.1.2.1 hd ht (fun h => (kt h p l e R s m args below meth c D aC ρ H locs ls B Q h0 hE1 hR0 X hin hf hl hE hgr hW hfr hS hv)) (fun h => (kf h p l e R s m args below meth c D aC ρ H locs ls B Q h0 hE1 hR0 X hin hf hl hE hgr hW hfr hS hv))
theorem wg_ifne {M : MI} {ini : Bool} {d b N mc ms : Nat} {E : Nat → List (Option Value) → List Value → Nat → Nat → Nat → (Nat → Nat → Value) → AH → Prop} {n kc ks : Nat} {G : Nat → Nat → Value} {A : AH} {pc : Nat} {L : List (Option Value)} {S : List Value} {x : Int32} {off : Int} (t q : Nat) (hd : decode M.2.1 pc = .ok (.ifCond .ne off, 3)) (ht : (pc : Int) + off = (t : Int)) (hq : pc + 3 = q) (kt : ¬ x = 0 → WN M ini d b N mc ms E n kc ks G A t L S) (kf : x = 0 → WN M ini d b N mc ms E n kc ks G A q L S) : WN M ini d b N mc ms E n kc ks G A pc L (.int x :: S) := by
  subst hq
  intro p l e R s m args below meth c D aC ρ H locs ls B Q h0 hE1 hR0 X hin hf hl hE hgr hW hfr hS hv
  exact lv_if_ne X.1.1 X.1.2.1 hd ht (fun h => (kt h p l e R s m args below meth c D aC ρ H locs ls B Q h0 hE1 hR0 X hin hf hl hE hgr hW hfr hS hv)) (fun h => (kf h p l e R s m args below meth c D aC ρ H locs ls B Q h0 hE1 hR0 X hin hf hl hE hgr hW hfr hS hv))
theorem wg_icle {M : MI} {ini : Bool} {d b N mc ms : Nat} {E : Nat → List (Option Value) → List Value → Nat → Nat → Nat → (Nat → Nat → Value) → AH → Prop} {n kc ks : Nat} {G : Nat → Nat → Value} {A : AH} {pc : Nat} {L : List (Option Value)} {S : List Value} {x y : Int32} {off : Int} (t q : Nat) (hd : decode M.2.1 pc = .ok (.if_icmp .le off, 3)) (ht : (pc : Int) + off = (t : Int)) (hq : pc + 3 = q) (kt : x ≤ y → WN M ini d b N mc ms E n kc ks G A t L S) (kf : ¬ x ≤ y → WN M ini d b N mc ms E n kc ks G A q L S) : WN M ini d b N mc ms E n kc ks G A pc L (.int y :: .int x :: S) := by
  subst hq
  intro p l e R s m args below meth c D aC ρ H locs ls B Q h0 hE1 hR0 X hin hf hl hE hgr hW hfr hS hv
  exact lv_icmp_le X.1.1 X.1.2.1 hd ht (fun h => (kt h p l e R s m args below meth c D aC ρ H locs ls B Q h0 hE1 hR0 X hin hf hl hE hgr hW hfr hS hv)) (fun h => (kf h p l e R s m args below meth c D aC ρ H locs ls B Q h0 hE1 hR0 X hin hf hl hE hgr hW hfr hS hv))
theorem wg_icge {M : MI} {ini : Bool} {d b N mc ms : Nat} {E : Nat → List (Option Value) → List Value → Nat → Nat → Nat → (Nat → Nat → Value) → AH → Prop} {n kc ks : Nat} {G : Nat → Nat → Value} {A : AH} {pc : Nat} {L : List (Option Value)} {S : List Value} {x y : Int32} {off : Int} (t q : Nat) (hd : decode M.2.1 pc = .ok (.if_icmp .ge off, 3)) (ht : (pc : Int) + off = (t : Int)) (hq : pc + 3 = q) (kt : y ≤ x → WN M ini d b N mc ms E n kc ks G A t L S) (kf : ¬ y ≤ x → WN M ini d b N mc ms E n kc ks G A q L S) : WN M ini d b N mc ms E n kc ks G A pc L (.int y :: .int x :: S) := by
  subst hq
  intro p l e R s m args below meth c D aC ρ H locs ls B Q h0 hE1 hR0 X hin hf hl hE hgr hW hfr hS hv
  exact lv_icmp_ge X.1.1 X.1.2.1 hd ht (fun h => (kt h p l e R s m args below meth c D aC ρ H locs ls B Q h0 hE1 hR0 X hin hf hl hE hgr hW hfr hS hv)) (fun h => (kf h p l e R s m args below meth c D aC ρ H locs ls B Q h0 hE1 hR0 X hin hf hl hE hgr hW hfr hS hv))
theorem wg_goto {M : MI} {ini : Bool} {d b N mc ms : Nat} {E : Nat → List (Option Value) → List Value → Nat → Nat → Nat → (Nat → Nat → Value) → AH → Prop} {n kc ks : Nat} {G : Nat → Nat → Value} {A : AH} {pc : Nat} {L : List (Option Value)} {S : List Value} {off : Int} (t : Nat) (hd : decode M.2.1 pc = .ok (.goto off, 3)) (ht : (pc : Int) + off = (t : Int)) (k : WN M ini d b N mc ms E n kc ks G A t L S) : WN M ini d b N mc ms E n kc ks G A pc L S := by
  intro p l e R s m args below meth c D aC ρ H locs ls B Q h0 hE1 hR0 X hin hf hl hE hgr hW hfr hS hv
  exact lv_goto X.1.1 X.1.2.1 hd ht (k p l e R s m args below meth c D aC ρ H locs ls B Q h0 hE1 hR0 X hin hf hl hE hgr hW hfr hS hv)
theorem wg_istore_n {M : MI} {ini : Bool} {d b N mc ms : Nat} {E : Nat → List (Option Value) → List Value → Nat → Nat → Nat → (Nat → Nat → Value) → AH → Prop} {n kc ks : Nat} {G : Nat → Nat → Value} {A : AH} {pc : Nat} {L : List (Option Value)} {S : List Value} {i : Fin 4} {x : Int32} (q : Nat) (hd : decode M.2.1 pc = .ok (.istore_n i, 1)) (hq : pc + 1 = q) (hn : (i : Nat) < M.2.2.1) (hg : nlg L (i : Nat) = true) (k : WN M ini d b N mc ms E n kc ks G A q (L.set (i : Nat) (some (.int x))) S) : WN M ini d b N mc ms E n kc ks G A pc L (.int x :: S) := by
  subst hq
  intro p l e R s m args below meth c D aC ρ H locs ls B Q h0 hE1 hR0 X hin hf hl hE hgr hW hfr hS hv
  exact lv_istore_n X.1.1 X.1.2.1 hd rfl hv.has hn rfl (fun ls2 h2 => (k p l e R s m args below meth c D aC ρ H locs ls2 B Q h0 hE1 hR0 X hin hf hl hE hgr hW hfr hS (lvr_set1 (v := .int x) h2 hg)))
theorem wg_iinc {M : MI} {ini : Bool} {d b N mc ms : Nat} {E : Nat → List (Option Value) → List Value → Nat → Nat → Nat → (Nat → Nat → Value) → AH → Prop} {n kc ks : Nat} {G : Nat → Nat → Value} {A : AH} {pc : Nat} {L : List (Option Value)} {S : List Value} {j : Nat} {i : Int} {x v : Int32} (q : Nat) (hd : decode M.2.1 pc = .ok (.iinc j i, 3)) (hq : pc + 3 = q) (hx : L[j]? = some (some (.int x))) (hv0 : x + Int32.ofInt i = v) (hn : j < M.2.2.1) (hg : nlg L j = true) (k : WN M ini d b N mc ms E n kc ks G A q (L.set j (some (.int v))) S) : WN M ini d b N mc ms E n kc ks G A pc L S := by
  subst hq
  intro p l e R s m args below meth c D aC ρ H locs ls B Q h0 hE1 hR0 X hin hf hl hE hgr hW hfr hS hv
  obtain ⟨kx, hkx⟩ := List.getElem?_of_mem (lvl_mem (ρ := ρ) hx)
  exact lv_iinc (k := kx) X.1.1 X.1.2.1 hd hv.has hkx hv0 hn rfl (fun ls2 h2 => (k p l e R s m args below meth c D aC ρ H locs ls2 B Q h0 hE1 hR0 X hin hf hl hE hgr hW hfr hS (lvr_set1 (v := .int v) h2 hg)))
/-- the same references -/
theorem clN_le (ci : Nat) : clN ci ≤ 32 := by
  unfold clN
  split <;> decide
theorem WD.gcong {D : va_G} {aC : Nat → ClassId} {ρ ρ' : Nat → Nat} {dm : Nat × Nat} {G G' : Nat → Nat → Value} {A A' : AH} {s : State} {H : Heap} (hW : WD D aC ρ dm G A s H) (hr : ∀ o, o ∈ dmL dm → ρ' o = ρ o) (hg : ∀ o, o ∈ dmL dm → ∀ k, k < 32 → cv ρ' (G' o k) = cv ρ (G o k)) (h1 : ∀ o, o ∈ dmL dm → A'.1 o = A.1 o) (h2 : ∀ o, o ∈ dmL dm → A'.2 o = A.2 o) : WD D aC ρ' dm G' A' s H := by
  have hw : wsA aC ρ' dm G' A' = wsA aC ρ dm G A := by
    unfold wsA
    refine List.map_congr_left (fun o ho => ?_)
    rw [hr o ho]
    congr 1
    unfold cellE
    split
    · next ci _ =>
      congr 2
      refine List.map_congr_left (fun k hk => ?_)
      have hk := List.mem_range.mp hk
      unfold fvk
      split
      · rw [h1 o ho]
      · rw [h2 o ho]
      · exact hg o ho k (Nat.lt_of_lt_of_le hk (clN_le ci))
    · rw [h1 o ho, h2 o ho]
  obtain ⟨h3, h4, h5⟩ := hW
  refine ⟨by rw [hw]; exact h3, ?_, h5⟩
  rw [← hw] at h4
  exact h4.fr
theorem wg_congG {M : MI} {ini : Bool} {d b N mc ms : Nat} {E : Nat → List (Option Value) → List Value → Nat → Nat → Nat → (Nat → Nat → Value) → AH → Prop} {n kc ks : Nat} {G : Nat → Nat → Value} {A : AH} {pc : Nat} {L : List (Option Value)} {S : List Value} {G' : Nat → Nat → Value} (hg : ∀ o, o ∈ dmL (b, n) → ∀ k, k < 32 → G' o k = G o k) (k : WN M ini d b N mc ms E n kc ks G' A pc L S) : WN M ini d b N mc ms E n kc ks G A pc L S := by
  intro p l e R s m args below meth c D aC ρ H locs ls B Q h0 hE1 hR0 X hin hf hl hE hgr hW hfr hS hv
  exact (k p l e R s m args below meth c D aC ρ H locs ls B Q h0 hE1 hR0 X hin hf hl hE hgr (hW.gcong (fun _ _ => rfl) (fun o ho k hk => by rw [hg o ho k hk]) (fun _ _ => rfl) (fun _ _ => rfl)) hfr hS hv)
/-- a contract of a method that may make cells -/
def QG (D : va_G) (aC : Nat → ClassId) (ρ : Nat → Nat) (b : Nat) (K : Option Value → Nat → (Nat → Nat → Value) → AH → Prop) (F : Nat → Prop) : Array Value → State → Outcome → State → Prop := fun _ st oc t =>
  (∃ (v : Option Value) (n : Nat) (G : Nat → Nat → Value) (A : AH), oc = .returned (v.map (cv ρ)) ∧ K v n G A ∧ WD D aC ρ (b, n) G A t t.heap) ∧ va_F F st t
def CtG (y : MethodName) (M : MI) (d mc ms b N n : Nat) (av : List Value) (G : Nat → Nat → Value) (A : AH) (K : Option Value → Nat → (Nat → Nat → Value) → AH → Prop) : Prop :=
  ∀ (l : Launch) (D : va_G) (aC : Nat → ClassId) (ρ : Nat → Nat) (z : Nat), Met l y (.code y M.2.1 M.2.2.1 M.2.2.2 :: TW) (rmI d mc ms) (va_Pc (av.map (cv ρ)) (PI0 D aC ρ b n N z G A)) (QG D aC ρ b K (fB ρ b n z)) mc ms (fB ρ b n z)
def EG (M : MI) (d b mc ms : Nat) (K : Option Value → Nat → (Nat → Nat → Value) → AH → Prop) : Nat → List (Option Value) → List Value → Nat → Nat → Nat → (Nat → Nat → Value) → AH → Prop := fun pc L S n kc ks G A => kc ≤ mc ∧ ks ≤ ms ∧ WP M d (b, n) G pc L S A (fun v A' => K v n G A')
theorem CtG.of {y : MethodName} {M : MI} {d mc ms b N n : Nat} {av : List Value} {G : Nat → Nat → Value} {A : AH} {K : Option Value → Nat → (Nat → Nat → Value) → AH → Prop} (L : List (Option Value)) (hy : plainName y.cls = true) (ho : M.1 = y.cls) (hL : slL av ++ List.replicate (M.2.2.1 - (slL av).length) none = L) (hn : (slL av).length ≤ M.2.2.1) (h : WN M false d b N mc ms (EG M d b mc ms K) n 0 0 G A 0 L []) : CtG y M d mc ms b N n av G A K := by
  intro l D aC ρ z
  refine Met.ofW (cc := M.2.1) (maxL := M.2.2.1) (ret := M.2.2.2) hy rfl ?_
  intro p e s m args below meth c s₁ B hml hv
  obtain ⟨rfl, rfl, hgr, hWD, hE⟩ := hv
  rw [lg_entry_eq]
  have hts := atoms_spec (ws := .code y M.2.1 M.2.2.1 M.2.2.2 :: TW) B.pre
  have hX : FX p s m (av.map (cv ρ)).toArray meth c M := ⟨⟨B.exec, B.bytes, hml, by rw [ho]; exact findClass_of_methodNamed B.named, fun w hw => hts w (List.mem_cons_of_mem _ hw)⟩, B.returns, B.notSynchronized⟩
  refine h p l e _ s m _ below meth c D aC ρ s.heap [] _ (fB ρ b n s.heap.size) _ (fun q hq => Or.inr hq) ?_ ⟨Nat.le_refl _, Nat.le_refl _⟩ hX (fun z => by cases z) (Nat.le_refl _) (Nat.le_refl _) hE hgr hWD (fun q hq => Or.inl hq) va_S.rf (lvr_entry hL hn)
  rintro pc' L' S' n' kc' ks' G' A' H' locs' ls' ⟨hk1, hk2, hwp⟩ hgr' hWD' hfr' hS' hv'
  refine W.widen hk1 hk2 ?_
  exact hwp p l e _ s m _ below meth c D aC ρ H' locs' ls' (fB ρ b n s.heap.size) mc ms _ hfr' (fun v A1 t hk hWm hwd hF => ⟨⟨v, n', G', A1, rfl, hk, hwd⟩, hF⟩) ⟨Nat.le_refl _, Nat.le_refl _⟩ hX (Nat.le_refl _) (Nat.le_refl _) hWD' hS' hE hv'
