/-! ===== the rules that read and write the world ===== -/
theorem cellE_congr {aC : Nat → ClassId} {ρ : Nat → Nat} {G : Nat → Nat → Value} {A A' : AH} {x : Nat} (h1 : A'.1 x = A.1 x) (h2 : A'.2 x = A.2 x) : cellE aC ρ G A' x = cellE aC ρ G A x := by
  have hf : ∀ ty k, fvk ty ρ G A' x k = fvk ty ρ G A x k := by
    intro ty k
    unfold fvk
    split
    · rw [h1]
    · rw [h2]
    · rfl
  unfold cellE
  split
  · simp only [hf]
  · rw [h1, h2]
theorem upd2_ne {α : Type} {f : Nat → Nat → α} {o k : Nat} {x : α} {a : Nat} (h : a ≠ o) : upd2 f o k x a = f a := by
  funext b
  simp [upd2, h]
theorem upd2_at {α : Type} {f : Nat → Nat → α} {o k : Nat} {x : α} : upd2 f o k x o k = x := by simp [upd2]
theorem upd2_off {α : Type} {f : Nat → Nat → α} {o k j : Nat} {x : α} (h : j ≠ k) : upd2 f o k x o j = f o j := by simp [upd2, h]
def FA (own : String) (index ci k : Nat) : Prop := ci < 14 ∧ k < clN ci ∧ (Cond.fieldLink own index (clT ci k).1 (clT ci k).2.1 (clT ci k).2.2.1 ∈ TW ∨ ∃ host, Cond.fieldLinkNest own index (clT ci k).1 (clT ci k).2.1 (clT ci k).2.2.1 host ∈ lw_tbl)
section HR
variable {p : Program} {l : Launch} {e : Env} {R : Room} {s : State} {m : MethodId} {args : Array Value} {below : List Frame} {meth : Method} {c : Code} {D : va_G} {aC : Nat → ClassId} {ρ : Nat → Nat} {H : Heap} {locs : List Loc} {ls : Array Slot} {Q : State → Prop} {M : MI} {dm : Nat × Nat} {G : Nat → Nat → Value} {A A' : AH} {pc o : Nat} {rest : List Value} {H0 : Heap} {B : Nat → Prop} {ce sl : Nat}
theorem WD.db (hB : ∀ q, fr ρ dm q → B q) (hW : WD D aC ρ dm G A s H) : va_D B (wsA aC ρ dm G A) := ⟨hW.2.1.1, fun k q hk => hB _ (hW.2.1.2 k q hk)⟩
theorem get_core (X : FX p s m args meth c M) (hW : WD D aC ρ dm G A s H) (hE : EX B ρ s H0) {index ci k : Nat} (hd : decode M.2.1 pc = .ok (.getfield index, 3)) (hf : FA M.1 index ci k) (ho : inD dm o = true) (hs : shp o = .inl ci) {v : Value} (hv : fvk (clTy ci k) ρ G A o k = v)
    (kk : W p l e R s m args below meth c H locs ce sl Q (F0 m (pc + 3) ls (v :: rest))) : W p l e R s m args below meth c H locs ce sl Q (F0 m pc ls (.ref (ρ o) :: rest)) := by
  obtain ⟨h1, h2, h3⟩ := hf
  obtain ⟨q0, hq, hat⟩ := wsA_at (aC := aC) (ρ := ρ) (G := G) (A := A) ho
  have he : (wsA aC ρ dm G A)[q0]? = some (ρ o, .inr (ci, (List.range (clN ci)).map (fun k => fvk (clTy ci k) ρ G A o k))) := by rw [hat]; simp only [cellE, hs]
  have hfs : ((List.range (clN ci)).map (fun k => fvk (clTy ci k) ρ G A o k))[k]? = some v := by rw [List.getElem?_map, List.getElem?_range h2, Option.map_some, hv]
  rcases h3 with h3 | ⟨host, h3⟩
  · exact va_get (D := D) (ci := ci) (v := v) X.1.1 X.1.2.1 X.1.2.2.2.2 (cl_in h1) X.1.2.2.2.1 hW.2.2 hW.1 q0 he (cl_at h1) k h2 (X.1.2.2.2.2 _ h3) (fun _ h9 => h9) hfs hd kk
  · exact va_getN (D := D) (ci := ci) (v := v) X.1.1 X.1.2.1 X.1.2.2.2.2 (cl_in h1) X.1.2.2.2.1 hW.2.2 hW.1 q0 he (cl_at h1) k h2 (va_Nw.use rfl (hE.1 _ h3 rfl)) (fun _ h9 => h9) hfs hd kk
theorem put_core (hB : ∀ q, fr ρ dm q → B q) (X : FX p s m args meth c M) (hW : WD D aC ρ dm G A s H) (hS : va_S B s.heap H locs) (hE : EX B ρ s H0) {index ci k : Nat} (hd : decode M.2.1 pc = .ok (.putfield index, 3)) (hf : FA M.1 index ci k) (ho : inD dm o = true) (hs : shp o = .inl ci) (hfin : (clT ci k).2.2.2 = false) {v : Value} (hv : fvk (clTy ci k) ρ G A' o k = v) (hoth : ∀ j, j ≠ k → fvk (clTy ci j) ρ G A' o j = fvk (clTy ci j) ρ G A o j) (hne : ∀ x, x ≠ o → cellE aC ρ G A' x = cellE aC ρ G A x) (hn : narrow (clTy ci k) v = v) (hfit : fits (clTy ci k) v = true)
    (kk : ∀ (H1 : Heap) (locs1 : List Loc), WD D aC ρ dm G A' s H1 → va_S B s.heap H1 locs1 → W p l e R s m args below meth c H1 locs1 ce sl Q (F0 m (pc + 3) ls rest)) : W p l e R s m args below meth c H locs ce sl Q (F0 m pc ls (v :: .ref (ρ o) :: rest)) := by
  obtain ⟨h1, h2, h3⟩ := hf
  obtain ⟨q0, hq, hat⟩ := wsA_at (aC := aC) (ρ := ρ) (G := G) (A := A) ho
  have he : (wsA aC ρ dm G A)[q0]? = some (ρ o, .inr (ci, (List.range (clN ci)).map (fun k => fvk (clTy ci k) ρ G A o k))) := by rw [hat]; simp only [cellE, hs]
  have hset : ((List.range (clN ci)).map (fun k => fvk (clTy ci k) ρ G A o k)).set k v = (List.range (clN ci)).map (fun k => fvk (clTy ci k) ρ G A' o k) := by
    apply List.ext_getElem?
    intro j
    by_cases hj : j = k
    · subst hj
      rw [List.getElem?_set_self (by simpa using h2), List.getElem?_map, List.getElem?_range h2, Option.map_some, hv]
    · rw [List.getElem?_set_ne (Ne.symm hj), List.getElem?_map, List.getElem?_map]
      by_cases hjl : j < clN ci
      · rw [List.getElem?_range hjl, Option.map_some, Option.map_some, hoth j hj]
      · rw [List.getElem?_eq_none (by simpa using hjl), Option.map_none, Option.map_none]
  have hw : (wsA aC ρ dm G A).set q0 (ρ o, .inr (ci, ((List.range (clN ci)).map (fun k => fvk (clTy ci k) ρ G A o k)).set k v)) = wsA aC ρ dm G A' := by
    rw [hset, ← wsA_set hW.2.1 hq hne]
    simp only [cellE, hs]
  rcases h3 with h3 | ⟨host, h3⟩
  · refine va_put (D := D) (ci := ci) (v := v) (ty := clTy ci k) X.1.1 X.1.2.1 X.1.2.2.2.2 (cl_in h1) (clTy ci) (cl_ty h1) (cl_nm h1) X.1.2.2.2.1 hW.2.2 hW.1 (hW.db hB) hS q0 he (cl_at h1) k h2 (X.1.2.2.2.2 _ h3) (fun _ h9 => h9) hfin (cl_ty h1 k h2) hn hfit (by simpa using h2) hd (fun H1 locs1 hP hD hS1 => ?_)
    rw [hw] at hP hD
    exact kk H1 locs1 ⟨hP, hD.fr, hW.2.2⟩ hS1
  · refine va_putN (D := D) (ci := ci) (v := v) (ty := clTy ci k) X.1.1 X.1.2.1 X.1.2.2.2.2 (cl_in h1) (clTy ci) (cl_ty h1) (cl_nm h1) X.1.2.2.2.1 hW.2.2 hW.1 (hW.db hB) hS q0 he (cl_at h1) k h2 (va_Nw.use rfl (hE.1 _ h3 rfl)) (fun _ h9 => h9) hfin (cl_ty h1 k h2) hn hfit (by simpa using h2) hd (fun H1 locs1 hP hD hS1 => ?_)
    rw [hw] at hP hD
    exact kk H1 locs1 ⟨hP, hD.fr, hW.2.2⟩ hS1
theorem wa_at {t n : Nat} (hW : WD D aC ρ dm G A s H) (ho : inD dm o = true) (hs : shp o = .inr (t, n)) : ∃ q0 : Nat, (dmL dm)[q0]? = some o ∧ (wsA aC ρ dm G A)[q0]? = some (ρ o, .inl (aC t, n, if t = 3 then .inr (.inl (A.2 o)) else .inl (A.1 o))) := by
  obtain ⟨q0, hq, hat⟩ := wsA_at (aC := aC) (ρ := ρ) (G := G) (A := A) ho
  exact ⟨q0, hq, by rw [hat]; simp only [cellE, hs]⟩
theorem wa_set {t n q0 : Nat} (hW : WD D aC ρ dm G A s H) (hq : (dmL dm)[q0]? = some o) (hs : shp o = .inr (t, n)) (hne : ∀ x, x ≠ o → cellE aC ρ G A' x = cellE aC ρ G A x) : (wsA aC ρ dm G A).set q0 (ρ o, .inl (aC t, n, if t = 3 then .inr (.inl (A'.2 o)) else .inl (A'.1 o))) = wsA aC ρ dm G A' := by
  rw [← wsA_set hW.2.1 hq hne]
  simp only [cellE, hs]
end HR
