theorem w_geti {M : MI} {d : Nat} {dm : Nat × Nat} {G : Nat → Nat → Value} {pc : Nat} {L : List (Option Value)} {S : List Value} {A : AH} {K : Option Value → AH → Prop} {i ci f o : Nat} (q : Nat) (hd : decode M.2.1 pc = .ok (.getfield i, 3)) (hq : pc + 3 = q) (hf0 : FA M.1 i ci f) (ho : inD dm o = true) (hs : shp o = .inl ci) (ht : clTy ci f = .int) (k : WP M d dm G q L (.int (A.1 o f) :: S) A K) : WP M d dm G pc L (.ref o :: S) A K := by
  subst hq
  intro p l e R s m args below meth c D aC ρ H locs ls B ce sl Qc hB hQ0 hR0 X hf hl hW hS hE hv
  exact get_core X hW hE hd hf0 ho hs (v := .int (A.1 o f)) (by rw [ht]; rfl) (k p l e R s m args below meth c D aC ρ H locs ls B ce sl Qc hB hQ0 hR0 X hf hl hW hS hE hv)
theorem w_getj {M : MI} {d : Nat} {dm : Nat × Nat} {G : Nat → Nat → Value} {pc : Nat} {L : List (Option Value)} {S : List Value} {A : AH} {K : Option Value → AH → Prop} {i ci f o : Nat} (q : Nat) (hd : decode M.2.1 pc = .ok (.getfield i, 3)) (hq : pc + 3 = q) (hf0 : FA M.1 i ci f) (ho : inD dm o = true) (hs : shp o = .inl ci) (ht : clTy ci f = .long) (k : WP M d dm G q L (.long (A.2 o f) :: S) A K) : WP M d dm G pc L (.ref o :: S) A K := by
  subst hq
  intro p l e R s m args below meth c D aC ρ H locs ls B ce sl Qc hB hQ0 hR0 X hf hl hW hS hE hv
  exact get_core X hW hE hd hf0 ho hs (v := .long (A.2 o f)) (by rw [ht]; rfl) (k p l e R s m args below meth c D aC ρ H locs ls B ce sl Qc hB hQ0 hR0 X hf hl hW hS hE hv)
def isRf : FieldType → Bool
  | .object _ => true
  | .array _ => true
  | _ => false
theorem fvk_rf {ty : FieldType} (h : isRf ty = true) {ρ : Nat → Nat} {G : Nat → Nat → Value} {A : AH} {o k : Nat} : fvk ty ρ G A o k = cv ρ (G o k) := by
  cases ty <;> simp_all [isRf, fvk]
theorem w_getr {M : MI} {d : Nat} {dm : Nat × Nat} {G : Nat → Nat → Value} {pc : Nat} {L : List (Option Value)} {S : List Value} {A : AH} {K : Option Value → AH → Prop} {i ci f o : Nat} {r : Value} (q : Nat) (hd : decode M.2.1 pc = .ok (.getfield i, 3)) (hq : pc + 3 = q) (hf0 : FA M.1 i ci f) (ho : inD dm o = true) (hs : shp o = .inl ci) (ht : isRf (clTy ci f) = true) (hg : G o f = r) (k : WP M d dm G q L (r :: S) A K) : WP M d dm G pc L (.ref o :: S) A K := by
  subst hq
  intro p l e R s m args below meth c D aC ρ H locs ls B ce sl Qc hB hQ0 hR0 X hf hl hW hS hE hv
  exact get_core X hW hE hd hf0 ho hs (v := cv ρ r) (by rw [fvk_rf ht, hg]) (k p l e R s m args below meth c D aC ρ H locs ls B ce sl Qc hB hQ0 hR0 X hf hl hW hS hE hv)
theorem fvk_i {ty : FieldType} {ρ : Nat → Nat} {G : Nat → Nat → Value} {A : AH} {o k j : Nat} {x : Int32} (h : j ≠ k) : fvk ty ρ G (upd2 A.1 o k x, A.2) o j = fvk ty ρ G A o j := by
  unfold fvk
  split
  · exact congrArg Value.int (upd2_off h)
  · rfl
  · rfl
theorem fvk_j {ty : FieldType} {ρ : Nat → Nat} {G : Nat → Nat → Value} {A : AH} {o k j : Nat} {x : Int64} (h : j ≠ k) : fvk ty ρ G (A.1, upd2 A.2 o k x) o j = fvk ty ρ G A o j := by
  unfold fvk
  split
  · rfl
  · exact congrArg Value.long (upd2_off h)
  · rfl
theorem w_puti {M : MI} {d : Nat} {dm : Nat × Nat} {G : Nat → Nat → Value} {pc : Nat} {L : List (Option Value)} {S : List Value} {A : AH} {K : Option Value → AH → Prop} {i ci f o : Nat} {x : Int32} (q : Nat) (hd : decode M.2.1 pc = .ok (.putfield i, 3)) (hq : pc + 3 = q) (hf0 : FA M.1 i ci f) (ho : inD dm o = true) (hs : shp o = .inl ci) (ht : clTy ci f = .int) (hfin : (clT ci f).2.2.2 = false) (k : WP M d dm G q L S (upd2 A.1 o f x, A.2) K) : WP M d dm G pc L (.int x :: .ref o :: S) A K := by
  subst hq
  intro p l e R s m args below meth c D aC ρ H locs ls B ce sl Qc hB hQ0 hR0 X hf hl hW hS hE hv
  exact put_core hB X hW hS hE hd hf0 ho hs hfin (v := .int x) (by rw [ht]; simp only [fvk, upd2_at]) (fun j hj => fvk_i hj) (fun x hx => cellE_congr (upd2_ne hx) rfl) (by rw [ht]; rfl) (by rw [ht]; rfl) (fun H1 locs1 hW1 hS1 => (k p l e R s m args below meth c D aC ρ H1 locs1 ls B ce sl Qc hB hQ0 hR0 X hf hl hW1 hS1 hE hv))
theorem w_putj {M : MI} {d : Nat} {dm : Nat × Nat} {G : Nat → Nat → Value} {pc : Nat} {L : List (Option Value)} {S : List Value} {A : AH} {K : Option Value → AH → Prop} {i ci f o : Nat} {x : Int64} (q : Nat) (hd : decode M.2.1 pc = .ok (.putfield i, 3)) (hq : pc + 3 = q) (hf0 : FA M.1 i ci f) (ho : inD dm o = true) (hs : shp o = .inl ci) (ht : clTy ci f = .long) (hfin : (clT ci f).2.2.2 = false) (k : WP M d dm G q L S (A.1, upd2 A.2 o f x) K) : WP M d dm G pc L (.long x :: .ref o :: S) A K := by
  subst hq
  intro p l e R s m args below meth c D aC ρ H locs ls B ce sl Qc hB hQ0 hR0 X hf hl hW hS hE hv
  exact put_core hB X hW hS hE hd hf0 ho hs hfin (v := .long x) (by rw [ht]; simp only [fvk, upd2_at]) (fun j hj => fvk_j hj) (fun x hx => cellE_congr rfl (upd2_ne hx)) (by rw [ht]; rfl) (by rw [ht]; rfl) (fun H1 locs1 hW1 hS1 => (k p l e R s m args below meth c D aC ρ H1 locs1 ls B ce sl Qc hB hQ0 hR0 X hf hl hW1 hS1 hE hv))
theorem w_iald {M : MI} {d : Nat} {dm : Nat × Nat} {G : Nat → Nat → Value} {pc : Nat} {L : List (Option Value)} {S : List Value} {A : AH} {K : Option Value → AH → Prop} {o n : Nat} {i : Int32} (q : Nat) (hd : decode M.2.1 pc = .ok (.iaload, 1)) (hq : pc + 1 = q) (ho : inD dm o = true) (hs : shp o = .inr (0, n)) (hin : vp_in i n) (k : WP M d dm G q L (.int (A.1 o i.toNatClampNeg) :: S) A K) : WP M d dm G pc L (.int i :: .ref o :: S) A K := by
  subst hq
  intro p l e R s m args below meth c D aC ρ H locs ls B ce sl Qc hB hQ0 hR0 X hf hl hW hS hE hv
  obtain ⟨q0, hq0, hat⟩ := wa_at hW ho hs
  exact va_iald (D := D) X.1.1 X.1.2.1 hW.2.2 hW.1 q0 0 hat rfl hin hd (k p l e R s m args below meth c D aC ρ H locs ls B ce sl Qc hB hQ0 hR0 X hf hl hW hS hE hv)
theorem w_bald {M : MI} {d : Nat} {dm : Nat × Nat} {G : Nat → Nat → Value} {pc : Nat} {L : List (Option Value)} {S : List Value} {A : AH} {K : Option Value → AH → Prop} {o n : Nat} {i : Int32} (q : Nat) (hd : decode M.2.1 pc = .ok (.baload, 1)) (hq : pc + 1 = q) (ho : inD dm o = true) (hs : shp o = .inr (1, n)) (hin : vp_in i n) (k : WP M d dm G q L (.int (A.1 o i.toNatClampNeg) :: S) A K) : WP M d dm G pc L (.int i :: .ref o :: S) A K := by
  subst hq
  intro p l e R s m args below meth c D aC ρ H locs ls B ce sl Qc hB hQ0 hR0 X hf hl hW hS hE hv
  obtain ⟨q0, hq0, hat⟩ := wa_at hW ho hs
  exact va_bald (D := D) X.1.1 X.1.2.1 hW.2.2 hW.1 q0 1 hat rfl hin hd (k p l e R s m args below meth c D aC ρ H locs ls B ce sl Qc hB hQ0 hR0 X hf hl hW hS hE hv)
theorem w_zald {M : MI} {d : Nat} {dm : Nat × Nat} {G : Nat → Nat → Value} {pc : Nat} {L : List (Option Value)} {S : List Value} {A : AH} {K : Option Value → AH → Prop} {o n : Nat} {i : Int32} (q : Nat) (hd : decode M.2.1 pc = .ok (.baload, 1)) (hq : pc + 1 = q) (ho : inD dm o = true) (hs : shp o = .inr (2, n)) (hin : vp_in i n) (k : WP M d dm G q L (.int (A.1 o i.toNatClampNeg) :: S) A K) : WP M d dm G pc L (.int i :: .ref o :: S) A K := by
  subst hq
  intro p l e R s m args below meth c D aC ρ H locs ls B ce sl Qc hB hQ0 hR0 X hf hl hW hS hE hv
  obtain ⟨q0, hq0, hat⟩ := wa_at hW ho hs
  exact va_zald (D := D) X.1.1 X.1.2.1 hW.2.2 hW.1 q0 2 hat rfl hin hd (k p l e R s m args below meth c D aC ρ H locs ls B ce sl Qc hB hQ0 hR0 X hf hl hW hS hE hv)
theorem w_lald {M : MI} {d : Nat} {dm : Nat × Nat} {G : Nat → Nat → Value} {pc : Nat} {L : List (Option Value)} {S : List Value} {A : AH} {K : Option Value → AH → Prop} {o n : Nat} {i : Int32} (q : Nat) (hd : decode M.2.1 pc = .ok (.laload, 1)) (hq : pc + 1 = q) (ho : inD dm o = true) (hs : shp o = .inr (3, n)) (hin : vp_in i n) (k : WP M d dm G q L (.long (A.2 o i.toNatClampNeg) :: S) A K) : WP M d dm G pc L (.int i :: .ref o :: S) A K := by
  subst hq
  intro p l e R s m args below meth c D aC ρ H locs ls B ce sl Qc hB hQ0 hR0 X hf hl hW hS hE hv
  obtain ⟨q0, hq0, hat⟩ := wa_at hW ho hs
  exact va_lald (D := D) X.1.1 X.1.2.1 hW.2.2 hW.1 q0 3 hat rfl hin hd (k p l e R s m args below meth c D aC ρ H locs ls B ce sl Qc hB hQ0 hR0 X hf hl hW hS hE hv)
theorem upd2_row {α : Type} {f : Nat → Nat → α} {o k : Nat} {x : α} : upd2 f o k x o = fun j => if j = k then x else f o j := by
  funext j
  simp [upd2]
theorem w_iast {M : MI} {d : Nat} {dm : Nat × Nat} {G : Nat → Nat → Value} {pc : Nat} {L : List (Option Value)} {S : List Value} {A : AH} {K : Option Value → AH → Prop} {o n : Nat} {i x : Int32} (q : Nat) (hd : decode M.2.1 pc = .ok (.iastore, 1)) (hq : pc + 1 = q) (ho : inD dm o = true) (hs : shp o = .inr (0, n)) (hin : vp_in i n) (k : WP M d dm G q L S (upd2 A.1 o i.toNatClampNeg x, A.2) K) : WP M d dm G pc L (.int x :: .int i :: .ref o :: S) A K := by
  subst hq
  intro p l e R s m args below meth c D aC ρ H locs ls B ce sl Qc hB hQ0 hR0 X hf hl hW hS hE hv
  obtain ⟨q0, hq0, hat⟩ := wa_at hW ho hs
  refine va_iast (D := D) X.1.1 X.1.2.1 hW.2.2 hW.1 (hW.db hB) hS q0 0 hat rfl hin hd (fun H1 locs1 hP hD hS1 => ?_)
  have hw := wa_set (A' := (upd2 A.1 o i.toNatClampNeg x, A.2)) hW hq0 hs (fun x hx => cellE_congr (upd2_ne hx) rfl)
  have hr : upd (A.1 o) i.toNatClampNeg x = upd2 A.1 o i.toNatClampNeg x o := upd2_row.symm
  have hw2 : (wsA aC ρ dm G A).set q0 (ρ o, .inl (aC 0, n, .inl (upd2 A.1 o i.toNatClampNeg x o))) = wsA aC ρ dm G (upd2 A.1 o i.toNatClampNeg x, A.2) := hw
  rw [hr, hw2] at hP hD
  exact (k p l e R s m args below meth c D aC ρ H1 locs1 ls B ce sl Qc hB hQ0 hR0 X hf hl ⟨hP, hD.fr, hW.2.2⟩ hS1 hE hv)
theorem w_bast {M : MI} {d : Nat} {dm : Nat × Nat} {G : Nat → Nat → Value} {pc : Nat} {L : List (Option Value)} {S : List Value} {A : AH} {K : Option Value → AH → Prop} {o n : Nat} {i x : Int32} (q : Nat) (hd : decode M.2.1 pc = .ok (.bastore, 1)) (hq : pc + 1 = q) (ho : inD dm o = true) (hs : shp o = .inr (1, n)) (hin : vp_in i n) (k : WP M d dm G q L S (upd2 A.1 o i.toNatClampNeg (vp_nar .byte x), A.2) K) : WP M d dm G pc L (.int x :: .int i :: .ref o :: S) A K := by
  subst hq
  intro p l e R s m args below meth c D aC ρ H locs ls B ce sl Qc hB hQ0 hR0 X hf hl hW hS hE hv
  obtain ⟨q0, hq0, hat⟩ := wa_at hW ho hs
  refine va_bast (D := D) X.1.1 X.1.2.1 hW.2.2 hW.1 (hW.db hB) hS q0 1 hat rfl hin hd (fun H1 locs1 hP hD hS1 => ?_)
  have hw := wa_set (A' := (upd2 A.1 o i.toNatClampNeg (vp_nar .byte x), A.2)) hW hq0 hs (fun x hx => cellE_congr (upd2_ne hx) rfl)
  have hr : upd (A.1 o) i.toNatClampNeg (vp_nar .byte x) = upd2 A.1 o i.toNatClampNeg (vp_nar .byte x) o := upd2_row.symm
  have hw2 : (wsA aC ρ dm G A).set q0 (ρ o, .inl (aC 1, n, .inl (upd2 A.1 o i.toNatClampNeg (vp_nar .byte x) o))) = wsA aC ρ dm G (upd2 A.1 o i.toNatClampNeg (vp_nar .byte x), A.2) := hw
  rw [hr, hw2] at hP hD
  exact (k p l e R s m args below meth c D aC ρ H1 locs1 ls B ce sl Qc hB hQ0 hR0 X hf hl ⟨hP, hD.fr, hW.2.2⟩ hS1 hE hv)
theorem w_zast {M : MI} {d : Nat} {dm : Nat × Nat} {G : Nat → Nat → Value} {pc : Nat} {L : List (Option Value)} {S : List Value} {A : AH} {K : Option Value → AH → Prop} {o n : Nat} {i x : Int32} (q : Nat) (hd : decode M.2.1 pc = .ok (.bastore, 1)) (hq : pc + 1 = q) (ho : inD dm o = true) (hs : shp o = .inr (2, n)) (hin : vp_in i n) (k : WP M d dm G q L S (upd2 A.1 o i.toNatClampNeg (vp_nar .boolean x), A.2) K) : WP M d dm G pc L (.int x :: .int i :: .ref o :: S) A K := by
  subst hq
  intro p l e R s m args below meth c D aC ρ H locs ls B ce sl Qc hB hQ0 hR0 X hf hl hW hS hE hv
  obtain ⟨q0, hq0, hat⟩ := wa_at hW ho hs
  refine va_zast (D := D) X.1.1 X.1.2.1 hW.2.2 hW.1 (hW.db hB) hS q0 2 hat rfl hin hd (fun H1 locs1 hP hD hS1 => ?_)
  have hw := wa_set (A' := (upd2 A.1 o i.toNatClampNeg (vp_nar .boolean x), A.2)) hW hq0 hs (fun x hx => cellE_congr (upd2_ne hx) rfl)
  have hr : upd (A.1 o) i.toNatClampNeg (vp_nar .boolean x) = upd2 A.1 o i.toNatClampNeg (vp_nar .boolean x) o := upd2_row.symm
  have hw2 : (wsA aC ρ dm G A).set q0 (ρ o, .inl (aC 2, n, .inl (upd2 A.1 o i.toNatClampNeg (vp_nar .boolean x) o))) = wsA aC ρ dm G (upd2 A.1 o i.toNatClampNeg (vp_nar .boolean x), A.2) := hw
  rw [hr, hw2] at hP hD
  exact (k p l e R s m args below meth c D aC ρ H1 locs1 ls B ce sl Qc hB hQ0 hR0 X hf hl ⟨hP, hD.fr, hW.2.2⟩ hS1 hE hv)
theorem w_last {M : MI} {d : Nat} {dm : Nat × Nat} {G : Nat → Nat → Value} {pc : Nat} {L : List (Option Value)} {S : List Value} {A : AH} {K : Option Value → AH → Prop} {o n : Nat} {i : Int32} {x : Int64} (q : Nat) (hd : decode M.2.1 pc = .ok (.lastore, 1)) (hq : pc + 1 = q) (ho : inD dm o = true) (hs : shp o = .inr (3, n)) (hin : vp_in i n) (k : WP M d dm G q L S (A.1, upd2 A.2 o i.toNatClampNeg x) K) : WP M d dm G pc L (.long x :: .int i :: .ref o :: S) A K := by
  subst hq
  intro p l e R s m args below meth c D aC ρ H locs ls B ce sl Qc hB hQ0 hR0 X hf hl hW hS hE hv
  obtain ⟨q0, hq0, hat⟩ := wa_at hW ho hs
  refine va_last (D := D) X.1.1 X.1.2.1 hW.2.2 hW.1 (hW.db hB) hS q0 3 hat rfl hin hd (fun H1 locs1 hP hD hS1 => ?_)
  have hw := wa_set (A' := (A.1, upd2 A.2 o i.toNatClampNeg x)) hW hq0 hs (fun x hx => cellE_congr rfl (upd2_ne hx))
  have hr : vp_updL (A.2 o) i.toNatClampNeg x = upd2 A.2 o i.toNatClampNeg x o := upd2_row.symm
  have hw2 : (wsA aC ρ dm G A).set q0 (ρ o, .inl (aC 3, n, .inr (.inl (upd2 A.2 o i.toNatClampNeg x o)))) = wsA aC ρ dm G (A.1, upd2 A.2 o i.toNatClampNeg x) := hw
  rw [hr, hw2] at hP hD
  exact (k p l e R s m args below meth c D aC ρ H1 locs1 ls B ce sl Qc hB hQ0 hR0 X hf hl ⟨hP, hD.fr, hW.2.2⟩ hS1 hE hv)
theorem w_alen {M : MI} {d : Nat} {dm : Nat × Nat} {G : Nat → Nat → Value} {pc : Nat} {L : List (Option Value)} {S : List Value} {A : AH} {K : Option Value → AH → Prop} {o t n : Nat} {v : Int32} (q : Nat) (hd : decode M.2.1 pc = .ok (.arraylength, 1)) (hq : pc + 1 = q) (ho : inD dm o = true) (hs : shp o = .inr (t, n)) (ht4 : t < 4) (hv0 : Int32.ofNat n = v) (k : WP M d dm G q L (.int v :: S) A K) : WP M d dm G pc L (.ref o :: S) A K := by
  subst hq
  intro p l e R s m args below meth c D aC ρ H locs ls B ce sl Qc hB hQ0 hR0 X hf hl hW hS hE hv
  obtain ⟨q0, hq0, hat⟩ := wa_at hW ho hs
  have hty : ∃ (t0 : Nat) (ty : FieldType), (tysA aC)[t0]? = some (aC t, ty) := by
    rcases t with _ | _ | _ | _ | t
    · exact ⟨0, _, rfl⟩
    · exact ⟨1, _, rfl⟩
    · exact ⟨2, _, rfl⟩
    · exact ⟨3, _, rfl⟩
    · omega
  obtain ⟨t0, ty, hty⟩ := hty
  exact va_alen (D := D) X.1.1 X.1.2.1 hW.2.2 hW.1 q0 t0 hat hty hv0 hd (k p l e R s m args below meth c D aC ρ H locs ls B ce sl Qc hB hQ0 hR0 X hf hl hW hS hE hv)
