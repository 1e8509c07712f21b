/-! ===== the law: web ===== -/
theorem WD.pre {D : va_G} {aC : Nat → ClassId} {ρ : Nat → Nat} {b n n' : Nat} {G : Nat → Nat → Value} {A : AH} {s : State} {H : Heap} (hW : WD D aC ρ (b, n') G A s H) (hn : n ≤ n') : WD D aC ρ (b, n) G A s H := by
  have at1 : ∀ (k : Nat) (q : Nat × va_E), (wsA aC ρ (b, n) G A)[k]? = some q → (wsA aC ρ (b, n') G A)[k]? = some q := by
    intro k q hk
    simp only [wsA, dmL, List.map_map, List.getElem?_map] at hk ⊢
    by_cases hkn : k < n
    · rw [List.getElem?_range (by omega)]
      rw [List.getElem?_range hkn] at hk
      exact hk
    · rw [List.getElem?_eq_none (by simp; omega)] at hk
      cases hk
  refine ⟨fun k q hk => hW.1 k q (at1 k q hk), ⟨fun i j p q hi hj hpq => hW.2.1.1 i j p q (at1 i p hi) (at1 j q hj) hpq, fun k q hk => ?_⟩, hW.2.2⟩
  obtain ⟨x, hx, rfl⟩ := List.mem_map.mp (List.mem_of_getElem? hk)
  exact ⟨x, hx, rfl⟩
theorem dmL_of {b n o : Nat} (h : o ∈ dmL (b, n)) : b ≤ o ∧ o < b + n := by
  obtain ⟨i, hi, rfl⟩ := List.mem_map.mp h
  have := List.mem_range.mp hi
  dsimp only at *
  omega
theorem dmL_in {b n o : Nat} (h1 : b ≤ o) (h2 : o < b + n) : o ∈ dmL (b, n) := List.mem_map.mpr ⟨o - b, List.mem_range.mpr (by dsimp only; omega), by dsimp only; omega⟩
/-- a part of the world was written, the rest stands as it stood -/
theorem WD.joinW {D : va_G} {aC : Nat → ClassId} {ρ ρ0 : Nat → Nat} {b n n' : Nat} {G G0 : Nat → Nat → Value} {A A0 : AH} {s : State} {H H0 : Heap} (hW : WD D aC ρ (b, n) G A s H) (hW0 : WD D aC ρ0 (b, n') G0 A0 s H0) (hr : ∀ o, o ∈ dmL (b, n') → ρ o = ρ0 o) (hc : ∀ o, o ∈ dmL (b, n') → b + n ≤ o → cellE aC ρ G A o = cellE aC ρ0 G0 A0 o ∧ H[ρ0 o]? = H0[ρ0 o]?) : WD D aC ρ (b, n') G A s H := by
  have at0 : ∀ (k o : Nat), (dmL (b, n'))[k]? = some o → o = b + k ∧ k < n' := by
    intro k o hk
    simp only [dmL, List.getElem?_map] at hk
    by_cases hkn : k < n'
    · rw [List.getElem?_range hkn] at hk
      cases hk
      exact ⟨rfl, hkn⟩
    · rw [List.getElem?_eq_none (by simp; omega)] at hk
      cases hk
  refine ⟨fun k q hk => ?_, ⟨fun i j p q hi hj hpq => ?_, fun k q hk => ?_⟩, hW.2.2⟩
  · simp only [wsA, List.getElem?_map] at hk
    cases hx : (dmL (b, n'))[k]? with
    | none => rw [hx] at hk; cases hk
    | some o =>
      rw [hx] at hk
      cases hk
      obtain ⟨e1, e2⟩ := at0 k o hx
      have hm := List.mem_of_getElem? hx
      by_cases hkn : k < n
      · refine hW.1 k _ ?_
        have : (dmL (b, n))[k]? = some o := by
          simp only [dmL, List.getElem?_map]
          rw [List.getElem?_range hkn, e1]
          rfl
        simp only [wsA, List.getElem?_map, this, Option.map_some]
      · obtain ⟨c1, c2⟩ := hc o hm (by omega)
        have h0 := hW0.1 k (ρ0 o, cellE aC ρ0 G0 A0 o) (by simp only [wsA, List.getElem?_map, hx, Option.map_some])
        have h1 := h0.kept (H1 := H) c2
        rw [← hr o hm, ← c1] at h1
        exact h1
  · have key : ∀ (k : Nat) (x : Nat × va_E), (wsA aC ρ (b, n') G A)[k]? = some x → ∃ y, (wsA aC ρ0 (b, n') G0 A0)[k]? = some y ∧ y.1 = x.1 := by
      intro k x hk
      simp only [wsA, List.getElem?_map] at hk ⊢
      cases hx : (dmL (b, n'))[k]? with
      | none => rw [hx] at hk; cases hk
      | some o =>
        rw [hx] at hk
        cases hk
        exact ⟨_, rfl, (hr o (List.mem_of_getElem? hx)).symm⟩
    obtain ⟨p', a1, a2⟩ := key i p hi
    obtain ⟨q', b1, b2⟩ := key j q hj
    exact hW0.2.1.1 i j p' q' a1 b1 (by rw [a2, b2]; exact hpq)
  · obtain ⟨x, hx, rfl⟩ := List.mem_map.mp (List.mem_of_getElem? hk)
    exact ⟨x, hx, rfl⟩
theorem EX.retag {B : Nat → Prop} {ρ ρ' : Nat → Nat} {U : State} {H : Heap} (h : EX B ρ U H) (hr : ∀ o, 1000 ≤ o → ρ' o = ρ o) : EX B ρ' U H := by
  have e1 : (fun j => ρ' (1000 + j)) = fun j => ρ (1000 + j) := funext (fun j => hr _ (by omega))
  have e2 : (fun j => ρ' (1100 + j)) = fun j => ρ (1100 + j) := funext (fun j => hr _ (by omega))
  obtain ⟨h1, h2, h3, h4, h5, h6, h7⟩ := h
  refine ⟨h1, fun q hq => by rw [hr _ (by omega)]; exact h2 q hq, ?_, by rw [hr _ (by omega)]; exact h4, by rw [hr _ (by omega)]; exact h5, h6, h7.imp id (fun z => by rw [hr _ (by omega)]; exact z)⟩
  rw [e1, e2]
  exact h3
def okV (a n : Nat) : Value → Bool
  | .ref t => Nat.ble a t && Nat.blt t n
  | .null => true
  | _ => false
theorem okV_cv {a n : Nat} {v : Value} {ρ ρ' : Nat → Nat} (h : okV a n v = true) (hr : ∀ o, a ≤ o → o < n → ρ' o = ρ o) : cv ρ' v = cv ρ v := by
  cases v with
  | ref t =>
    simp only [okV, Bool.and_eq_true, Nat.ble_eq, Nat.blt_eq] at h
    simp only [cv]
    rw [hr t h.1 h.2]
  | _ => rfl
theorem gC_ok : ∀ o, o < 60 → ∀ k, k < 32 → okV 0 60 (gC o k) = true := by decide +kernel
theorem WD.cls {D : va_G} {aC : Nat → ClassId} {ρ ρ' : Nat → Nat} {A : AH} {s : State} {H : Heap} (hW : WD D aC ρ dC gC A s H) (hr : ∀ o, o < 60 → ρ' o = ρ o) : WD D aC ρ' dC gC A s H :=
  hW.gcong (fun o ho => hr o (by have := dmL_of ho; omega)) (fun o ho k hk => okV_cv (gC_ok o (by have := dmL_of ho; omega) k hk) (fun o _ h => hr o h)) (fun _ _ => rfl) (fun _ _ => rfl)
theorem fr_cls {ρ ρ' : Nat → Nat} {b n : Nat} (hr : ∀ o, b ≤ o → o < b + n → ρ' o = ρ o) {q : Nat} (h : fr ρ' (b, n) q) : fr ρ (b, n) q := by
  obtain ⟨o, ho, rfl⟩ := h
  have := dmL_of ho
  exact ⟨o, ho, (hr o this.1 this.2).symm⟩
theorem fr_mono {ρ : Nat → Nat} {b n n' : Nat} (hn : n ≤ n') {q : Nat} (h : fr ρ (b, n) q) : fr ρ (b, n') q := by
  obtain ⟨o, ho, rfl⟩ := h
  have := dmL_of ho
  exact ⟨o, dmL_in this.1 (by omega), rfl⟩
theorem GG_ok : ∀ k, k < 32 → k ≠ 3 → k ≠ 4 → okV 100 111 (GG .null .null 100 k) = true := by decide +kernel
theorem GG_in : ∀ j, j < 10 → ∀ k, k < 32 → okV 0 0 (GG .null .null (101 + j) k) = true := by decide +kernel
theorem GG_wok : ∀ j, j < 22 → ∀ k, k < 32 → okV 111 133 (GG .null .null (111 + j) k) = true := by decide +kernel
theorem WD.inj {D : va_G} {aC : Nat → ClassId} {ρ : Nat → Nat} {dm : Nat × Nat} {G : Nat → Nat → Value} {A : AH} {s : State} {H : Heap} (hW : WD D aC ρ dm G A s H) {o1 o2 : Nat} (h1 : o1 ∈ dmL dm) (h2 : o2 ∈ dmL dm) (e : ρ o1 = ρ o2) : o1 = o2 := by
  obtain ⟨i, hi⟩ := List.getElem?_of_mem h1
  obtain ⟨j, hj⟩ := List.getElem?_of_mem h2
  have hij := hW.2.1.1 i j (ρ o1, cellE aC ρ G A o1) (ρ o2, cellE aC ρ G A o2) (by simp only [wsA, List.getElem?_map, hi, Option.map_some]) (by simp only [wsA, List.getElem?_map, hj, Option.map_some]) e
  subst hij
  exact Option.some.inj (hi.symm.trans hj)
theorem cellE_32 {aC : Nat → ClassId} {ρ ρ' : Nat → Nat} {G G' : Nat → Nat → Value} {A A' : AH} {o : Nat} (h1 : A'.1 o = A.1 o) (h2 : A'.2 o = A.2 o) (h3 : ∀ k, k < 32 → cv ρ' (G' o k) = cv ρ (G o k)) : cellE aC ρ' G' A' o = cellE aC ρ G A o := by
  unfold cellE
  split
  · next ci _ =>
    congr 2
    refine List.map_congr_left (fun k hk => ?_)
    have hk := List.mem_range.mp hk
    unfold fvk
    split
    · rw [h1]
    · rw [h2]
    · exact h3 k (Nat.lt_of_lt_of_le hk (clN_le ci))
  · rw [h1, h2]
theorem GG_off {v r : Value} : ∀ k, k < 32 → k ≠ 3 → k ≠ 4 → GG v r 100 k = GG .null .null 100 k := by
  intro k hk h3 h4
  rcases k with _ | _ | _ | _ | _ | _ | _ | _ | _ | _ | _ | _ | _ | _ | _ | _ | _ | _ | _ | _ | _ | _ | _ | _ | _ | _ | _ | _ | _ | _ | _ | _ | k <;> first | rfl | omega
theorem GG_low {v r : Value} : ∀ o, 100 < o → o < 111 → ∀ k, k < 32 → GG v r o k = GG .null .null o k := by
  intro o h1 h2 k hk
  obtain ⟨j, rfl⟩ : ∃ j, o = 101 + j := ⟨o - 101, by omega⟩
  rcases j with _ | _ | _ | _ | _ | _ | _ | _ | _ | _ | j
  all_goals first | omega | (rcases k with _ | _ | _ | _ | _ | _ | _ | _ | _ | _ | _ | _ | _ | _ | _ | _ | _ | _ | _ | _ | _ | _ | _ | _ | _ | _ | _ | _ | _ | _ | _ | _ | k <;> first | rfl | omega)
theorem GG_web0 {v r v' r' : Value} : ∀ o, 111 ≤ o → o < 133 → ∀ k, k < 32 → GG v r o k = GG v' r' o k := by
  intro o h1 h2 k hk
  obtain ⟨j, rfl⟩ : ∃ j, o = 111 + j := ⟨o - 111, by omega⟩
  rcases j with _ | _ | _ | _ | _ | _ | _ | _ | _ | _ | _ | _ | _ | _ | _ | _ | _ | _ | _ | _ | _ | _ | j
  all_goals first | omega | (rcases k with _ | _ | _ | _ | _ | _ | _ | _ | _ | _ | _ | _ | _ | _ | _ | _ | _ | _ | _ | _ | _ | _ | _ | _ | _ | _ | _ | _ | _ | _ | _ | _ | k <;> first | rfl | omega)
/-- the head of the reference's world, told by other names -/
theorem WD.head {D : va_G} {aC : Nat → ClassId} {ρ ρ' : Nat → Nat} {G G' : Nat → Nat → Value} {v r v' r' : Value} {A A' : AH} {s : State} {H : Heap} (hW : WD D aC ρ (100, 11) G A s H) (hG : ∀ o, o < 111 → ∀ k, G o k = GG v r o k) (hG' : ∀ o, o < 111 → ∀ k, G' o k = GG v' r' o k) (hr : ∀ o, 100 ≤ o → o < 111 → ρ' o = ρ o) (hv : cv ρ' v' = cv ρ v) (hr2 : cv ρ' r' = cv ρ r) (h1 : ∀ o, o < 111 → A'.1 o = A.1 o ∧ A'.2 o = A.2 o) : WD D aC ρ' (100, 11) G' A' s H := by
  refine hW.gcong (fun o ho => hr o (dmL_of ho).1 (by have := dmL_of ho; omega)) (fun o ho k hk => ?_) (fun o ho => (h1 o (by have := dmL_of ho; omega)).1) (fun o ho => (h1 o (by have := dmL_of ho; omega)).2)
  have hb := dmL_of ho
  rw [hG o (by omega), hG' o (by omega)]
  by_cases e : o = 100
  · subst e
    by_cases e3 : k = 3
    · subst e3; exact hv
    · by_cases e4 : k = 4
      · subst e4; exact hr2
      · rw [GG_off k hk e3 e4, GG_off (v := v) (r := r) k hk e3 e4]
        exact okV_cv (GG_ok k hk e3 e4) hr
  · rw [GG_low o (by omega) (by omega) k hk, GG_low (v := v) (r := r) o (by omega) (by omega) k hk]
    have := GG_in (o - 101) (by omega) k hk
    rw [show 101 + (o - 101) = o by omega] at this
    exact okV_cv this (fun t _ ht => absurd ht (Nat.not_lt_zero t))
def rT (ρ : Nat → Nat) : Value → Nat
  | .ref x => ρ x
  | _ => 0
def rV : Value → Value
  | .ref _ => .ref 201
  | v => v
def vT : Bool → Value
  | true => .ref 200
  | false => .null
def vG : Bool → Value
  | true => .ref 111
  | false => .null
def rw1 (ρ : Nat → Nat) (z a2 : Nat) : Nat → Nat := fun o => if 111 ≤ o ∧ o < 133 then z + (o - 111) else if o = 200 then ρ 111 else if o = 201 then a2 else ρ o
def rw2 (ρ : Nat → Nat) (z : Nat) : Nat → Nat := fun o => if o = 201 then z else ρ o
theorem rw1_o {ρ : Nat → Nat} {z a2 o : Nat} (h1 : o < 111 ∨ 202 ≤ o) : rw1 ρ z a2 o = ρ o := by
  unfold rw1
  rw [if_neg (by omega), if_neg (by omega), if_neg (by omega)]
theorem rw2_o {ρ : Nat → Nat} {z o : Nat} (h1 : o ≠ 201) : rw2 ρ z o = ρ o := by
  unfold rw2
  rw [if_neg h1]
theorem cv_rV {ρ : Nat → Nat} {z : Nat} {r : Value} : cv (rw1 ρ z (rT ρ r)) (rV r) = cv ρ r := by
  cases r <;> rfl
theorem cv_vT {ρ : Nat → Nat} {z a2 : Nat} {hw : Bool} : cv (rw1 ρ z a2) (vT hw) = cv ρ (vG hw) := by
  cases hw
  · rfl
  · simp only [vT, vG, cv]
    unfold rw1
    rw [if_neg (by omega), if_pos rfl]
def zW (A : AH) : AH := (fun o => if o < 111 then A.1 o else fun _ => 0, fun o => if o < 111 then A.2 o else fun _ => 0)
def mrg (A' A : AH) : AH := (fun o => if o < 111 then A'.1 o else A.1 o, fun o => if o < 111 then A'.2 o else A.2 o)
theorem zW_lo {A : AH} {o : Nat} (h : o < 111) : (zW A).1 o = A.1 o ∧ (zW A).2 o = A.2 o := ⟨if_pos h, if_pos h⟩
theorem mrg_lo {A' A : AH} {o : Nat} (h : o < 111) : (mrg A' A).1 o = A'.1 o ∧ (mrg A' A).2 o = A'.2 o := ⟨if_pos h, if_pos h⟩
theorem mrg_hi {A' A : AH} {o : Nat} (h : 111 ≤ o) : (mrg A' A).1 o = A.1 o ∧ (mrg A' A).2 o = A.2 o := ⟨if_neg (by omega), if_neg (by omega)⟩
theorem zA_zW (A : AH) : zA 111 (zW A) := fun o ho k => ⟨by unfold zW; dsimp only; rw [if_neg (by omega)], by unfold zW; dsimp only; rw [if_neg (by omega)]⟩
theorem GW_eq (hw : Bool) (r : Value) (o k : Nat) : GW hw r o k = GG (vG hw) r o k := by cases hw <;> rfl
theorem Gn_eq {v r : Value} {o : Nat} (h : o < 111) (k : Nat) : Gn v r o k = GG v r o k := if_pos h
/-- what a failed reading leaves of the reference -/
def FM (A A' : AH) : Prop := OffL [100] A A' ∧ ∀ k, 15 < k → A'.1 100 k = A.1 100 k
theorem FM.mc {w : WT} {s : Nat → Nat} {H I : Nat → Nat → Nat} {c m : Nat} {A A' : AH} (h : FM A A') (h1 : MC w s A) (h2 : MH w s H I c m A) : MC w s A' ∧ MH w s H I c m A' := by
  refine ⟨⟨h1.1.cong (fun y p q => (h.1 y (by simp; omega)).1), by rw [(h.1 102 (by decide)).1]; exact h1.2.1, h1.2.2⟩, h2.1, h2.2.1, h2.2.2.1, ?_, ?_, fun i hi => ?_, fun i hi => ?_⟩
  · rw [h.2 20 (by decide)]; exact h2.2.2.2.1
  · rw [h.2 21 (by decide)]; exact h2.2.2.2.2.1
  · unfold RwM; rw [(h.1 104 (by decide)).1]; exact h2.2.2.2.2.2.1 i hi
  · unfold RwM; rw [(h.1 105 (by decide)).1]; exact h2.2.2.2.2.2.2 i hi
set_option maxRecDepth 4000 in
theorem lW {p : Program} {l : Launch} {e : Env} {R : Room} {s : State} {m : MethodId} {args : Array Value} {below : List Frame} {meth : Method} {c : Code} {H : Heap} {locs : List Loc} {ce sl : Nat} {Q : State → Prop} {D : va_G} {aC : Nat → ClassId} {ρ : Nat → Nat} {pc : Nat} {ls : Array Slot} {rest : List Value} {r : Value} {hw : Bool} {Ac Am : AH} {qo : Nat} {f : Nat → Int64} {x : Int32} {n0 : Nat} {tp : Nat → Int32} (hF : CallFix p m c code 7 s args TW RL) (hI : LI D aC s ρ r hw Ac Am qo f H) (hS : va_S (BL s) s.heap H locs) (hls : ls.size = 7) (hR : ce + 22 ≤ R.cells ∧ sl + 181 ≤ R.slots) (hR1 : 14 ≤ R.frames ∧ 532 ≤ R.locals) (hT : Am.1 100 6 = nI n0) (h9 : n0 ≤ 900) (htp : ∀ i, i < n0 → Am.1 101 i = tp i) (hB : ∀ i, i < n0 → isB (tp i)) (hst : (rest.map (fun v => v.category)).sum ≤ 8) (hd : decode code pc = .ok (.invokevirtual 27, 3))
    (k2 : tB n0 x ≠ 0 → ∀ (A2 : AH) (H1 : Heap) (locs1 : List Loc), KQ Am 2 (.int (-1)) (some (.int (-1))) A2 → LI D aC s ρ r hw Ac A2 qo f H1 → va_S (BL s) s.heap H1 locs1 → W p l e R s m args below meth c H1 locs1 (ce + 22) (sl + 181) Q (F0 m (pc + 3) ls (.int (-1) :: rest)))
    (kf : ∀ n f' pl', x = nI n → n ≤ n0 → allP (gB tp) n (n + 1) 0 emptyW noN = .inl (f', pl') → ∀ (ρ2 : Nat → Nat) (r2 : Value) (A2 : AH) (H1 : Heap) (locs1 : List Loc), ρ2 0 = ρ 0 → ρ2 100 = ρ 100 → FM Am A2 → A2.1 100 6 = nI 0 → A2.1 100 1 = nI 4 → A2.1 100 2 = nI pl' → A2.1 100 12 = nI f' → LI D aC s ρ2 r2 hw Ac A2 qo f H1 → va_S (BL s) s.heap H1 locs1 → W p l e R s m args below meth c H1 locs1 (ce + 22) (sl + 181) Q (F0 m (pc + 3) ls (.int (-1) :: rest)))
    (ks : ∀ n w', x = nI n → n ≤ n0 → allP (gB tp) n (n + 1) 0 emptyW noN = .inr w' → ∀ (ρ2 : Nat → Nat) (r2 : Value) (A2 : AH) (H1 : Heap) (locs1 : List Loc), ρ2 0 = ρ 0 → ρ2 100 = ρ 100 → (∀ s', begOK w' (w'.1 2) s' → MC w' s' A2 ∧ ∀ H I, MH w' s' H I 0 0 A2) → A2.1 100 6 = nI 0 → A2.1 100 12 = nI 0 → A2.1 100 1 = nI 0 → A2.1 100 2 = -1 → LI D aC s ρ2 r2 true Ac A2 qo f H1 → va_S (BL s) s.heap H1 locs1 → W p l e R s m args below meth c H1 locs1 (ce + 22) (sl + 181) Q (F0 m (pc + 3) ls (.int (nI (w'.1 1)) :: rest))) :
    W p l e R s m args below meth c H locs ce sl Q (F0 m pc ls (.int x :: .ref (ρ 100) :: rest)) := by
  obtain ⟨hE, hWc, hWm, hO, hd1, hd2, hqo⟩ := hI
  have hWN : WD D aC ρ (100, 11) (GW hw r) Am s H := by
    cases hw
    · exact hWm
    · exact hWm.pre (by decide)
  have hfN : ∀ q, fr ρ (100, 11) q → fr ρ (dW hw) q := fun q h => by
    cases hw
    · exact h
    · exact fr_mono (by decide) h
  have hqz : qo < H.size := (Array.getElem?_eq_some_iff.mp hO).1
  have hρ : ∀ o, o < 111 ∨ 202 ≤ o → rw1 ρ H.size (rT ρ r) o = ρ o := fun o h => rw1_o h
  have hW1 : WD D aC (rw1 ρ H.size (rT ρ r)) (100, 11) (Gn (vT hw) (rV r)) (zW Am) s H := hWN.head (fun o _ k => GW_eq hw r o k) (fun o h k => Gn_eq h k) (fun o h1 h2 => hρ o (Or.inl h2)) cv_vT cv_rV (fun o h => zW_lo h)
  have hgr : grw (rw1 ρ H.size (rT ρ r)) 100 11 33 H.size := fun i h1 h2 => by
    unfold rw1
    rw [if_pos (by omega)]
    omega
  have hE1 : EX (BL s) (rw1 ρ H.size (rT ρ r)) s s.heap := hE.retag (fun o h => hρ o (by omega))
  have hfr1 : ∀ q, fr (rw1 ρ H.size (rT ρ r)) (100, 11) q → fr ρ (100, 11) q := fun q h => fr_cls (fun o h1 h2 => hρ o (Or.inl (by omega))) h
  have hfB : ∀ q, fB (rw1 ρ H.size (rT ρ r)) 100 11 H.size q → s.heap.size ≤ q := fun q h => h.elim (fun h => (hd2 q (hfN q (hfr1 q h))).1) (fun h => Nat.le_trans hS.1 h)
  have z1 : ∀ k, (zW Am).1 100 k = Am.1 100 k := fun k => by rw [(zW_lo (A := Am) (o := 100) (by decide)).1]
  have z2 : (zW Am).1 101 = Am.1 101 := (zW_lo (by decide)).1
  have hcg := c_X13_web (v := vT hw) (r := rV r) (K := fun v n G A' => (tB n0 x ≠ 0 ∧ QM (zW Am) A' ∧ A'.1 100 1 = nI 2 ∧ A'.1 100 2 = -1 ∧ v = some (.int (-1)) ∧ n = 11 ∧ G = Gn (vT hw) (rV r)) ∨ (∃ n1 f' pl', x = nI n1 ∧ n1 ≤ n0 ∧ allP (gB tp) n1 (n1 + 1) 0 emptyW noN = .inl (f', pl') ∧ FZ (zW Am) A' ∧ A'.1 100 1 = nI 4 ∧ A'.1 100 2 = nI pl' ∧ A'.1 100 12 = nI f' ∧ v = some (.int (-1)) ∧ n = 33 ∧ G = GG (vT hw) (.ref 111)) ∨ (∃ n1 w', x = nI n1 ∧ n1 ≤ n0 ∧ allP (gB tp) n1 (n1 + 1) 0 emptyW noN = .inr w' ∧ (∀ s', begOK w' (w'.1 2) s' → MC w' s' A' ∧ ∀ H I, MH w' s' H I 0 0 A') ∧ A'.1 100 6 = nI 0 ∧ A'.1 100 12 = nI 0 ∧ A'.1 100 1 = nI 0 ∧ A'.1 100 2 = -1 ∧ v = some (.int (nI (w'.1 1))) ∧ n = 33 ∧ G = GG (.ref 111) (.ref 111))) (x := x) (tp := tp) ((z1 6).trans hT) h9 (fun i hi => by rw [z2]; exact htp i hi) hB (zA_zW Am) (fun h A' g1 g2 g3 => Or.inl ⟨h, g1, g2, g3, rfl, rfl, rfl⟩) (fun n1 f' pl' e1 e2 e3 A' g1 g2 g3 g4 => Or.inr (Or.inl ⟨n1, f', pl', e1, e2, e3, g1, g2, g3, g4, rfl, rfl, rfl⟩)) (fun n1 w' e1 e2 e3 A' g1 g2 g3 g4 g5 => Or.inr (Or.inr ⟨n1, w', e1, e2, e3, g1, g2, g3, g4, g5, rfl, rfl, rfl⟩)) l D aC (rw1 ρ H.size (rT ρ r)) H.size
  have hob := hW1.ob (o := 100) (ci := 13) rfl rfl (by decide)
  have hm := mlL_27
  have hρ100 : rw1 ρ H.size (rT ρ r) 100 = ρ 100 := hρ 100 (by omega)
  have hrun := va_runV (meth := meth) (locs := locs) (H := H) (below := below) (e := e) (cells := ce) (slots := sl) (g := F0 m pc ls (.int x :: .ref (rw1 ρ H.size (rT ρ r) 100) :: rest)) (rest := rest) (As := [.int x]) (b := rw1 ρ H.size (rT ρ r) 100) hF hcg (cwV (R := R) 1 hF.2.2.2.2 hm.good rfl rfl rfl hm.2.2.2.2.2.1 ⟨hR1.1, by have := hm.2.2.2.2.2.2.1; show 8 + (mX13_web.2.2.1 + 11) + 38 * 13 ≤ _; omega⟩) ⟨fb_PI, hob, fun U hU hWmm => ⟨rfl, by rw [hU], hgr, by rw [hU]; exact hW1.moved hWmm.alike, (hE1.at hS hU hWmm).narrow hfB⟩⟩ rfl rfl hls rfl (lv_room hst) hd hR
  rw [hρ100] at hrun
  intro U hU XU
  obtain ⟨v0, st₀, t, U', Ls, g0, X', hL, e1, e2, ⟨⟨v, n, G, A', hv, hk, hwd⟩, hz, hko⟩, st⟩ := hrun U hU XU
  rw [g0] at hz hko
  have hwd' : WD D aC (rw1 ρ H.size (rT ρ r)) (100, n) G A' s U'.heap := by
    rw [e1]
    exact WD.moved (by rw [← e2]; exact X'.warmed.alike.symm) hwd
  have hS1 : va_S (BL s) s.heap U'.heap (locs ++ Ls) := ⟨Nat.le_trans hS.1 (by rw [e1]; exact hz), fun q g1 g2 => by rw [e1, hko q (Nat.lt_of_lt_of_le g1 hS.1) (fun z => g2 (hfB q z))]; exact hS.2.1 q g1 g2, fun q hq => by
      rcases List.mem_append.mp hq with h | h
      · exact hS.2.2 q h
      · exact hfB _ (hL q h)⟩
  have hkp : ∀ q, q < H.size → ¬ fr ρ (100, 11) q → U'.heap[q]? = H[q]? := fun q g1 g2 => by
    rw [e1]
    exact hko q g1 (fun h => h.elim (fun h => g2 (hfr1 q h)) (fun h => absurd g1 (Nat.not_lt.mpr h)))
  have hWc1 : WD D aC ρ dC gC Ac s U'.heap := hWc.keep (fun q h1 h2 => hkp q h1 (fun z => (hd1 q h2).2.2 (hfN q z)))
  have hO1 : OC aC qo f U'.heap := by
    show U'.heap[qo]? = _
    rw [hkp qo hqz (fun z => (hd2 qo (hfN qo z)).2 rfl)]
    exact hO
  have hWh : ∀ o, hw = true → o ∈ dmL (100, 33) → 100 + 11 ≤ o → U'.heap[ρ o]? = H[ρ o]? := fun o ew ho h11 => by
    subst ew
    refine hkp _ (hWm.lt ⟨o, ho, rfl⟩) ?_
    rintro ⟨y, hy, hye⟩
    have hy2 := dmL_of hy
    have := hWm.inj (o1 := y) (o2 := o) (dmL_in hy2.1 (by omega)) ho hye
    omega
  rcases hk with ⟨ht, q1, q2, q3, rfl, rfl, rfl⟩ | ⟨n1, f', pl', x1, x2, x3, q1, q2, q3, q4, rfl, rfl, rfl⟩ | ⟨n1, w', x1, x2, x3, q1, q2, q3, q4, q5, rfl, rfl, rfl⟩
  · have ev : v0 = some (.int (-1)) := by cases hv; rfl
    subst ev
    have hN2 : WD D aC ρ (100, 11) (GW hw r) (mrg A' Am) s U'.heap := hwd'.head (fun o h k => Gn_eq h k) (fun o _ k => GW_eq hw r o k) (fun o h1 h2 => (hρ o (Or.inl h2)).symm) cv_vT.symm cv_rV.symm (fun o h => mrg_lo h)
    have hM2 : WD D aC ρ (dW hw) (GW hw r) (mrg A' Am) s U'.heap := by
      cases hw with
      | false => exact hN2
      | true => exact hN2.joinW hWm (fun _ _ => rfl) (fun o ho h11 => ⟨cellE_32 (mrg_hi h11).1 (mrg_hi h11).2 (fun _ _ => rfl), hWh o rfl ho h11⟩)
    have hQ2 : QM Am (mrg A' Am) := by
      refine ⟨fun y hy => ?_, fun k hk => ?_⟩
      · by_cases h : y < 111
        · rw [(mrg_lo h).1, (mrg_lo h).2, (q1.1 y hy).1, (q1.1 y hy).2]; exact zW_lo h
        · exact mrg_hi (by omega)
      · rw [(mrg_lo (A := Am) (A' := A') (o := 100) (by decide)).1, q1.2 k hk]; exact z1 k
    obtain ⟨t2, a1, b1⟩ := k2 ht (mrg A' Am) U'.heap (locs ++ Ls) ⟨hQ2, by rw [(mrg_lo (A := Am) (A' := A') (o := 100) (by decide)).1]; exact q2, by rw [(mrg_lo (A := Am) (A' := A') (o := 100) (by decide)).1]; exact q3, rfl⟩ ⟨hE, hWc1, hM2, hO1, hd1, hd2, hqo⟩ hS1 U' rfl X'
    exact ⟨t2, st t2 a1, b1⟩
  · have ev : v0 = some (.int (-1)) := by cases hv; rfl
    subst ev
    have m1 : ∀ k, (mrg A' Am).1 100 k = A'.1 100 k := fun k => by rw [(mrg_lo (A := Am) (A' := A') (o := 100) (by decide)).1]
    have hN2 : WD D aC (rw2 ρ H.size) (100, 11) (GW hw (.ref 201)) (mrg A' Am) s U'.heap := (hwd'.pre (n := 11) (by decide)).head (fun o _ k => rfl) (fun o _ k => GW_eq hw _ o k) (fun o h1 h2 => by rw [hρ o (Or.inl h2)]; exact rw2_o (by omega)) (by
        rw [cv_vT]
        cases hw
        · rfl
        · simp only [vG, cv]; rw [rw2_o (by decide)]) (by
        simp only [cv]
        unfold rw2 rw1
        rw [if_pos rfl, if_pos (by omega)]
        rfl) (fun o h => mrg_lo h)
    have hM2 : WD D aC (rw2 ρ H.size) (dW hw) (GW hw (.ref 201)) (mrg A' Am) s U'.heap := by
      cases hw with
      | false => exact hN2
      | true =>
        refine hN2.joinW hWm (fun o ho => rw2_o (by have := dmL_of ho; omega)) (fun o ho h11 => ⟨cellE_32 (mrg_hi h11).1 (mrg_hi h11).2 (fun k hk => ?_), hWh o rfl ho h11⟩)
        have hb := dmL_of ho
        have hok := GG_wok (o - 111) (by omega) k hk
        rw [show 111 + (o - 111) = o by omega] at hok
        rw [GW_eq, GW_eq, GG_web0 (v' := .null) (r' := .null) o h11 (by omega) k hk, GG_web0 (v' := .null) (r' := .null) (r := r) o h11 (by omega) k hk]
        exact okV_cv hok (fun y h1 h2 => rw2_o (by omega))
    have hFM : FM Am (mrg A' Am) := by
      refine ⟨fun y hy => ?_, fun k hk => ?_⟩
      · by_cases h : y < 111
        · have hyw : y ∉ wbL := by simp at hy ⊢; omega
          rw [(mrg_lo h).1, (mrg_lo h).2, (q1.1 y hyw).1, (q1.1 y hyw).2]; exact zW_lo h
        · exact mrg_hi (by omega)
      · rw [m1, q1.2.1 k hk]; exact z1 k
    have hfr2 : ∀ q, fr (rw2 ρ H.size) (dW hw) q → fr ρ (dW hw) q := fun q h => by
      cases hw
      · exact fr_cls (fun o h1 h2 => rw2_o (by omega)) h
      · exact fr_cls (fun o h1 h2 => rw2_o (by omega)) h
    have hfrC : ∀ q, fr (rw2 ρ H.size) dC q → fr ρ dC q := fun q h => fr_cls (fun o h1 h2 => rw2_o (by omega)) h
    obtain ⟨t2, a1, b1⟩ := kf n1 f' pl' x1 x2 x3 (rw2 ρ H.size) (.ref 201) (mrg A' Am) U'.heap (locs ++ Ls) (rw2_o (by decide)) (rw2_o (by decide)) hFM ((m1 6).trans q1.2.2) ((m1 1).trans q2) ((m1 2).trans q3) ((m1 12).trans q4) ⟨hE.retag (fun o h => rw2_o (by omega)), hWc1.cls (fun o h => rw2_o (by omega)), hM2, hO1, fun q h => ⟨(hd1 q (hfrC q h)).1, (hd1 q (hfrC q h)).2.1, fun z => (hd1 q (hfrC q h)).2.2 (hfr2 q z)⟩, fun q h => hd2 q (hfr2 q h), hqo⟩ hS1 U' rfl X'
    exact ⟨t2, st t2 a1, b1⟩
  · have ev : v0 = some (.int (nI (w'.1 1))) := by cases hv; rfl
    subst ev
    have hfrC : ∀ q, fr (rw1 ρ H.size (rT ρ r)) dC q → fr ρ dC q := fun q h => fr_cls (fun o h1 h2 => hρ o (Or.inl (by omega))) h
    have hsp : ∀ q, fr (rw1 ρ H.size (rT ρ r)) (100, 33) q → fr ρ (100, 11) q ∨ H.size ≤ q := by
      rintro q ⟨o, ho, rfl⟩
      have hb := dmL_of ho
      by_cases h : o < 111
      · exact Or.inl ⟨o, dmL_in hb.1 (by omega), (hρ o (Or.inl h)).symm⟩
      · refine Or.inr ?_
        unfold rw1
        rw [if_pos (by omega)]
        omega
    obtain ⟨t2, a1, b1⟩ := ks n1 w' x1 x2 x3 (rw1 ρ H.size (rT ρ r)) (.ref 111) A' U'.heap (locs ++ Ls) (hρ 0 (by omega)) hρ100 q1 q2 q3 q4 q5 ⟨hE1, hWc1.cls (fun o h => hρ o (Or.inl (by omega))), hwd', hO1, fun q h => ⟨(hd1 q (hfrC q h)).1, (hd1 q (hfrC q h)).2.1, fun z => (hsp q z).elim (fun y => (hd1 q (hfrC q h)).2.2 (hfN q y)) (fun y => absurd (hWc.lt (hfrC q h)) (Nat.not_lt.mpr y))⟩, fun q h => (hsp q h).elim (fun y => hd2 q (hfN q y)) (fun y => ⟨Nat.le_trans hS.1 y, fun z => absurd hqz (Nat.not_lt.mpr (by rw [← z]; exact y))⟩), hqo⟩ hS1 U' rfl X'
    exact ⟨t2, st t2 a1, b1⟩
