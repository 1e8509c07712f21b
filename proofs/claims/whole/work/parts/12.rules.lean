theorem w_iconst {M : MI} {d : Nat} {dm : Nat × Nat} {G : Nat → Nat → Value} {pc : Nat} {L : List (Option Value)} {S : List Value} {A : AH} {K : Option Value → AH → Prop} {n : Int} (q : Nat) (hd : decode M.2.1 pc = .ok (.iconst n, 1)) (hq : pc + 1 = q) {v : Int32} (hv0 : Int32.ofInt n = v) (k : WP M d dm G q L (.int v :: S) A K) : WP M d dm G pc L S A K := by
  subst hq
  intro p l e R s m args below meth c D aC ρ H locs ls B ce sl Qc hB hQ0 hR0 X hf hl hW hS hE hv
  exact lv_iconst X.1.1 X.1.2.1 hd hv0 (k p l e R s m args below meth c D aC ρ H locs ls B ce sl Qc hB hQ0 hR0 X hf hl hW hS hE hv)
theorem w_bipush {M : MI} {d : Nat} {dm : Nat × Nat} {G : Nat → Nat → Value} {pc : Nat} {L : List (Option Value)} {S : List Value} {A : AH} {K : Option Value → AH → Prop} {n : Int} (q : Nat) (hd : decode M.2.1 pc = .ok (.bipush n, 2)) (hq : pc + 2 = q) {v : Int32} (hv0 : (Int8.ofInt n).toInt32 = v) (k : WP M d dm G q L (.int v :: S) A K) : WP M d dm G pc L S A K := by
  subst hq
  intro p l e R s m args below meth c D aC ρ H locs ls B ce sl Qc hB hQ0 hR0 X hf hl hW hS hE hv
  exact lv_bipush X.1.1 X.1.2.1 hd hv0 (k p l e R s m args below meth c D aC ρ H locs ls B ce sl Qc hB hQ0 hR0 X hf hl hW hS hE hv)
theorem w_sipush {M : MI} {d : Nat} {dm : Nat × Nat} {G : Nat → Nat → Value} {pc : Nat} {L : List (Option Value)} {S : List Value} {A : AH} {K : Option Value → AH → Prop} {n : Int} (q : Nat) (hd : decode M.2.1 pc = .ok (.sipush n, 3)) (hq : pc + 3 = q) {v : Int32} (hv0 : (Int16.ofInt n).toInt32 = v) (k : WP M d dm G q L (.int v :: S) A K) : WP M d dm G pc L S A K := by
  subst hq
  intro p l e R s m args below meth c D aC ρ H locs ls B ce sl Qc hB hQ0 hR0 X hf hl hW hS hE hv
  exact lv_sipush X.1.1 X.1.2.1 hd hv0 (k p l e R s m args below meth c D aC ρ H locs ls B ce sl Qc hB hQ0 hR0 X hf hl hW hS hE hv)
theorem w_lconst {M : MI} {d : Nat} {dm : Nat × Nat} {G : Nat → Nat → Value} {pc : Nat} {L : List (Option Value)} {S : List Value} {A : AH} {K : Option Value → AH → Prop} {n : Fin 2} (q : Nat) (hd : decode M.2.1 pc = .ok (.lconst n, 1)) (hq : pc + 1 = q) {v : Int64} (hv0 : Int64.ofNat (n : Nat) = v) (k : WP M d dm G q L (.long v :: S) A K) : WP M d dm G pc L S A K := by
  subst hq
  intro p l e R s m args below meth c D aC ρ H locs ls B ce sl Qc hB hQ0 hR0 X hf hl hW hS hE hv
  exact lv_lconst X.1.1 X.1.2.1 hd hv0 (k p l e R s m args below meth c D aC ρ H locs ls B ce sl Qc hB hQ0 hR0 X hf hl hW hS hE hv)
theorem w_ldc {M : MI} {d : Nat} {dm : Nat × Nat} {G : Nat → Nat → Value} {pc : Nat} {L : List (Option Value)} {S : List Value} {A : AH} {K : Option Value → AH → Prop} {i : Nat} (q : Nat) (hd : decode M.2.1 pc = .ok (.ldc i, 2)) (hq : pc + 2 = q) {v : Int32} (hc : Cond.constant M.1 i v ∈ TW) (k : WP M d dm G q L (.int v :: S) A K) : WP M d dm G pc L S A K := by
  subst hq
  intro p l e R s m args below meth c D aC ρ H locs ls B ce sl Qc hB hQ0 hR0 X hf hl hW hS hE hv
  exact lv_ldc X.1.1 X.1.2.1 X.1.2.2.2.1 (X.1.2.2.2.2 _ hc) hd (k p l e R s m args below meth c D aC ρ H locs ls B ce sl Qc hB hQ0 hR0 X hf hl hW hS hE hv)
theorem w_ldcw {M : MI} {d : Nat} {dm : Nat × Nat} {G : Nat → Nat → Value} {pc : Nat} {L : List (Option Value)} {S : List Value} {A : AH} {K : Option Value → AH → Prop} {i : Nat} (q : Nat) (hd : decode M.2.1 pc = .ok (.ldc_w i, 3)) (hq : pc + 3 = q) {v : Int32} (hc : Cond.constant M.1 i v ∈ TW) (k : WP M d dm G q L (.int v :: S) A K) : WP M d dm G pc L S A K := by
  subst hq
  intro p l e R s m args below meth c D aC ρ H locs ls B ce sl Qc hB hQ0 hR0 X hf hl hW hS hE hv
  exact lv_ldcw X.1.1 X.1.2.1 X.1.2.2.2.1 (X.1.2.2.2.2 _ hc) hd (k p l e R s m args below meth c D aC ρ H locs ls B ce sl Qc hB hQ0 hR0 X hf hl hW hS hE hv)
theorem w_ldc2 {M : MI} {d : Nat} {dm : Nat × Nat} {G : Nat → Nat → Value} {pc : Nat} {L : List (Option Value)} {S : List Value} {A : AH} {K : Option Value → AH → Prop} {i : Nat} (q : Nat) (hd : decode M.2.1 pc = .ok (.ldc2_w i, 3)) (hq : pc + 3 = q) {v : Int64} (hc : Cond.constantLong M.1 i v ∈ TW) (k : WP M d dm G q L (.long v :: S) A K) : WP M d dm G pc L S A K := by
  subst hq
  intro p l e R s m args below meth c D aC ρ H locs ls B ce sl Qc hB hQ0 hR0 X hf hl hW hS hE hv
  exact lv_ldc2 X.1.1 X.1.2.1 X.1.2.2.2.1 (X.1.2.2.2.2 _ hc) hd (k p l e R s m args below meth c D aC ρ H locs ls B ce sl Qc hB hQ0 hR0 X hf hl hW hS hE hv)
theorem w_iload_n {M : MI} {d : Nat} {dm : Nat × Nat} {G : Nat → Nat → Value} {pc : Nat} {L : List (Option Value)} {S : List Value} {A : AH} {K : Option Value → AH → Prop} {n : Fin 4} {x : Int32} (q : Nat) (hd : decode M.2.1 pc = .ok (.iload_n n, 1)) (hq : pc + 1 = q) (hx : L[(n : Nat)]? = some (some (.int x))) (k : WP M d dm G q L (.int x :: S) A K) : WP M d dm G pc L S A K := by
  subst hq
  intro p l e R s m args below meth c D aC ρ H locs ls B ce sl Qc hB hQ0 hR0 X hf hl hW hS hE hv
  exact lv_iload_n X.1.1 X.1.2.1 hd rfl (hv.2.2 _ _ hx) (k p l e R s m args below meth c D aC ρ H locs ls B ce sl Qc hB hQ0 hR0 X hf hl hW hS hE hv)
theorem w_iload {M : MI} {d : Nat} {dm : Nat × Nat} {G : Nat → Nat → Value} {pc : Nat} {L : List (Option Value)} {S : List Value} {A : AH} {K : Option Value → AH → Prop} {n : Nat} {x : Int32} (q : Nat) (hd : decode M.2.1 pc = .ok (.iload n, 2)) (hq : pc + 2 = q) (hx : L[n]? = some (some (.int x))) (k : WP M d dm G q L (.int x :: S) A K) : WP M d dm G pc L S A K := by
  subst hq
  intro p l e R s m args below meth c D aC ρ H locs ls B ce sl Qc hB hQ0 hR0 X hf hl hW hS hE hv
  exact lv_iload X.1.1 X.1.2.1 hd (hv.2.2 _ _ hx) (k p l e R s m args below meth c D aC ρ H locs ls B ce sl Qc hB hQ0 hR0 X hf hl hW hS hE hv)
theorem w_lload_n {M : MI} {d : Nat} {dm : Nat × Nat} {G : Nat → Nat → Value} {pc : Nat} {L : List (Option Value)} {S : List Value} {A : AH} {K : Option Value → AH → Prop} {n : Fin 4} {x : Int64} (q : Nat) (hd : decode M.2.1 pc = .ok (.lload_n n, 1)) (hq : pc + 1 = q) (hx : L[(n : Nat)]? = some (some (.long x))) (k : WP M d dm G q L (.long x :: S) A K) : WP M d dm G pc L S A K := by
  subst hq
  intro p l e R s m args below meth c D aC ρ H locs ls B ce sl Qc hB hQ0 hR0 X hf hl hW hS hE hv
  exact lv_lload_n X.1.1 X.1.2.1 hd rfl (hv.2.2 _ _ hx) (k p l e R s m args below meth c D aC ρ H locs ls B ce sl Qc hB hQ0 hR0 X hf hl hW hS hE hv)
theorem w_lload {M : MI} {d : Nat} {dm : Nat × Nat} {G : Nat → Nat → Value} {pc : Nat} {L : List (Option Value)} {S : List Value} {A : AH} {K : Option Value → AH → Prop} {n : Nat} {x : Int64} (q : Nat) (hd : decode M.2.1 pc = .ok (.lload n, 2)) (hq : pc + 2 = q) (hx : L[n]? = some (some (.long x))) (k : WP M d dm G q L (.long x :: S) A K) : WP M d dm G pc L S A K := by
  subst hq
  intro p l e R s m args below meth c D aC ρ H locs ls B ce sl Qc hB hQ0 hR0 X hf hl hW hS hE hv
  exact lv_lload X.1.1 X.1.2.1 hd (hv.2.2 _ _ hx) (k p l e R s m args below meth c D aC ρ H locs ls B ce sl Qc hB hQ0 hR0 X hf hl hW hS hE hv)
theorem w_aload_n {M : MI} {d : Nat} {dm : Nat × Nat} {G : Nat → Nat → Value} {pc : Nat} {L : List (Option Value)} {S : List Value} {A : AH} {K : Option Value → AH → Prop} {n : Fin 4} {x : Nat} (q : Nat) (hd : decode M.2.1 pc = .ok (.aload_n n, 1)) (hq : pc + 1 = q) (hx : L[(n : Nat)]? = some (some (.ref x))) (k : WP M d dm G q L (.ref x :: S) A K) : WP M d dm G pc L S A K := by
  subst hq
  intro p l e R s m args below meth c D aC ρ H locs ls B ce sl Qc hB hQ0 hR0 X hf hl hW hS hE hv
  exact lv_aload_n X.1.1 X.1.2.1 hd rfl (hv.2.2 _ _ hx) (k p l e R s m args below meth c D aC ρ H locs ls B ce sl Qc hB hQ0 hR0 X hf hl hW hS hE hv)
theorem w_aload {M : MI} {d : Nat} {dm : Nat × Nat} {G : Nat → Nat → Value} {pc : Nat} {L : List (Option Value)} {S : List Value} {A : AH} {K : Option Value → AH → Prop} {n : Nat} {x : Nat} (q : Nat) (hd : decode M.2.1 pc = .ok (.aload n, 2)) (hq : pc + 2 = q) (hx : L[n]? = some (some (.ref x))) (k : WP M d dm G q L (.ref x :: S) A K) : WP M d dm G pc L S A K := by
  subst hq
  intro p l e R s m args below meth c D aC ρ H locs ls B ce sl Qc hB hQ0 hR0 X hf hl hW hS hE hv
  exact lv_aload X.1.1 X.1.2.1 hd (hv.2.2 _ _ hx) (k p l e R s m args below meth c D aC ρ H locs ls B ce sl Qc hB hQ0 hR0 X hf hl hW hS hE hv)
theorem w_istore_n {M : MI} {d : Nat} {dm : Nat × Nat} {G : Nat → Nat → Value} {pc : Nat} {L : List (Option Value)} {S : List Value} {A : AH} {K : Option Value → AH → Prop} {n : Fin 4} {x : Int32} (q : Nat) (hd : decode M.2.1 pc = .ok (.istore_n n, 1)) (hq : pc + 1 = q) (hn : (n : Nat) < M.2.2.1) (hg : nlg L (n : Nat) = true) (k : WP M d dm G q (L.set (n : Nat) (some (.int x))) S A K) : WP M d dm G pc L (.int x :: S) A K := by
  subst hq
  intro p l e R s m args below meth c D aC ρ H locs ls B ce sl Qc hB hQ0 hR0 X hf hl hW hS hE hv
  exact lv_istore_n X.1.1 X.1.2.1 hd rfl hv.has hn rfl (fun ls2 h2 => (k p l e R s m args below meth c D aC ρ H locs ls2 B ce sl Qc hB hQ0 hR0 X hf hl hW hS hE (lvr_set1 (v := .int x) h2 hg)))
theorem w_istore {M : MI} {d : Nat} {dm : Nat × Nat} {G : Nat → Nat → Value} {pc : Nat} {L : List (Option Value)} {S : List Value} {A : AH} {K : Option Value → AH → Prop} {n : Nat} {x : Int32} (q : Nat) (hd : decode M.2.1 pc = .ok (.istore n, 2)) (hq : pc + 2 = q) (hn : n < M.2.2.1) (hg : nlg L n = true) (k : WP M d dm G q (L.set n (some (.int x))) S A K) : WP M d dm G pc L (.int x :: S) A K := by
  subst hq
  intro p l e R s m args below meth c D aC ρ H locs ls B ce sl Qc hB hQ0 hR0 X hf hl hW hS hE hv
  exact lv_istore X.1.1 X.1.2.1 hd hv.has hn rfl (fun ls2 h2 => (k p l e R s m args below meth c D aC ρ H locs ls2 B ce sl Qc hB hQ0 hR0 X hf hl hW hS hE (lvr_set1 (v := .int x) h2 hg)))
theorem w_astore_n {M : MI} {d : Nat} {dm : Nat × Nat} {G : Nat → Nat → Value} {pc : Nat} {L : List (Option Value)} {S : List Value} {A : AH} {K : Option Value → AH → Prop} {n : Fin 4} {x : Nat} (q : Nat) (hd : decode M.2.1 pc = .ok (.astore_n n, 1)) (hq : pc + 1 = q) (hn : (n : Nat) < M.2.2.1) (hg : nlg L (n : Nat) = true) (k : WP M d dm G q (L.set (n : Nat) (some (.ref x))) S A K) : WP M d dm G pc L (.ref x :: S) A K := by
  subst hq
  intro p l e R s m args below meth c D aC ρ H locs ls B ce sl Qc hB hQ0 hR0 X hf hl hW hS hE hv
  exact lv_astore_n X.1.1 X.1.2.1 hd rfl hv.has hn rfl (fun ls2 h2 => (k p l e R s m args below meth c D aC ρ H locs ls2 B ce sl Qc hB hQ0 hR0 X hf hl hW hS hE (lvr_set1 (v := .ref x) h2 hg)))
theorem w_astore {M : MI} {d : Nat} {dm : Nat × Nat} {G : Nat → Nat → Value} {pc : Nat} {L : List (Option Value)} {S : List Value} {A : AH} {K : Option Value → AH → Prop} {n : Nat} {x : Nat} (q : Nat) (hd : decode M.2.1 pc = .ok (.astore n, 2)) (hq : pc + 2 = q) (hn : n < M.2.2.1) (hg : nlg L n = true) (k : WP M d dm G q (L.set n (some (.ref x))) S A K) : WP M d dm G pc L (.ref x :: S) A K := by
  subst hq
  intro p l e R s m args below meth c D aC ρ H locs ls B ce sl Qc hB hQ0 hR0 X hf hl hW hS hE hv
  exact lv_astore X.1.1 X.1.2.1 hd hv.has hn rfl (fun ls2 h2 => (k p l e R s m args below meth c D aC ρ H locs ls2 B ce sl Qc hB hQ0 hR0 X hf hl hW hS hE (lvr_set1 (v := .ref x) h2 hg)))
theorem w_lstore_n {M : MI} {d : Nat} {dm : Nat × Nat} {G : Nat → Nat → Value} {pc : Nat} {L : List (Option Value)} {S : List Value} {A : AH} {K : Option Value → AH → Prop} {n : Fin 4} {x : Int64} (q : Nat) (hd : decode M.2.1 pc = .ok (.lstore_n n, 1)) (hq : pc + 1 = q) (hn : (n : Nat) + 1 < M.2.2.1) (hg : nlg L (n : Nat) = true) (k : WP M d dm G q ((L.set (n : Nat) (some (.long x))).set ((n : Nat) + 1) none) S A K) : WP M d dm G pc L (.long x :: S) A K := by
  subst hq
  intro p l e R s m args below meth c D aC ρ H locs ls B ce sl Qc hB hQ0 hR0 X hf hl hW hS hE hv
  exact lv_lstore_n X.1.1 X.1.2.1 hd rfl hv.has hn rfl (fun ls2 h2 => (k p l e R s m args below meth c D aC ρ H locs ls2 B ce sl Qc hB hQ0 hR0 X hf hl hW hS hE (lvr_set2 (v := .long x) h2 hg)))
theorem w_lstore {M : MI} {d : Nat} {dm : Nat × Nat} {G : Nat → Nat → Value} {pc : Nat} {L : List (Option Value)} {S : List Value} {A : AH} {K : Option Value → AH → Prop} {n : Nat} {x : Int64} (q : Nat) (hd : decode M.2.1 pc = .ok (.lstore n, 2)) (hq : pc + 2 = q) (hn : n + 1 < M.2.2.1) (hg : nlg L n = true) (k : WP M d dm G q ((L.set n (some (.long x))).set (n + 1) none) S A K) : WP M d dm G pc L (.long x :: S) A K := by
  subst hq
  intro p l e R s m args below meth c D aC ρ H locs ls B ce sl Qc hB hQ0 hR0 X hf hl hW hS hE hv
  exact lv_lstore X.1.1 X.1.2.1 hd hv.has hn rfl (fun ls2 h2 => (k p l e R s m args below meth c D aC ρ H locs ls2 B ce sl Qc hB hQ0 hR0 X hf hl hW hS hE (lvr_set2 (v := .long x) h2 hg)))
theorem w_iinc {M : MI} {d : Nat} {dm : Nat × Nat} {G : Nat → Nat → Value} {pc : Nat} {L : List (Option Value)} {S : List Value} {A : AH} {K : Option Value → AH → Prop} {n : Nat} {i : Int} {x v : Int32} (q : Nat) (hd : decode M.2.1 pc = .ok (.iinc n i, 3)) (hq : pc + 3 = q) (hx : L[n]? = some (some (.int x))) (hv0 : x + Int32.ofInt i = v) (hn : n < M.2.2.1) (hg : nlg L n = true) (k : WP M d dm G q (L.set n (some (.int v))) S A K) : WP M d dm G pc L S A K := by
  subst hq
  intro p l e R s m args below meth c D aC ρ H locs ls B ce sl Qc hB hQ0 hR0 X hf hl hW hS hE hv
  obtain ⟨kx, hkx⟩ := List.getElem?_of_mem (lvl_mem (ρ := ρ) hx)
  exact lv_iinc (k := kx) X.1.1 X.1.2.1 hd hv.has hkx hv0 hn rfl (fun ls2 h2 => (k p l e R s m args below meth c D aC ρ H locs ls2 B ce sl Qc hB hQ0 hR0 X hf hl hW hS hE (lvr_set1 (v := .int v) h2 hg)))
theorem w_iadd {M : MI} {d : Nat} {dm : Nat × Nat} {G : Nat → Nat → Value} {pc : Nat} {L : List (Option Value)} {S : List Value} {A : AH} {K : Option Value → AH → Prop} {x y : Int32} (q : Nat) (hd : decode M.2.1 pc = .ok (.iadd, 1)) (hq : pc + 1 = q)  (k : WP M d dm G q L (.int (x + y) :: S) A K) : WP M d dm G pc L (.int y :: .int x :: S) A K := by
  subst hq
  intro p l e R s m args below meth c D aC ρ H locs ls B ce sl Qc hB hQ0 hR0 X hf hl hW hS hE hv
  exact lv_iadd X.1.1 X.1.2.1 hd (k p l e R s m args below meth c D aC ρ H locs ls B ce sl Qc hB hQ0 hR0 X hf hl hW hS hE hv)
theorem w_isub {M : MI} {d : Nat} {dm : Nat × Nat} {G : Nat → Nat → Value} {pc : Nat} {L : List (Option Value)} {S : List Value} {A : AH} {K : Option Value → AH → Prop} {x y : Int32} (q : Nat) (hd : decode M.2.1 pc = .ok (.isub, 1)) (hq : pc + 1 = q)  (k : WP M d dm G q L (.int (x - y) :: S) A K) : WP M d dm G pc L (.int y :: .int x :: S) A K := by
  subst hq
  intro p l e R s m args below meth c D aC ρ H locs ls B ce sl Qc hB hQ0 hR0 X hf hl hW hS hE hv
  exact lv_isub X.1.1 X.1.2.1 hd (k p l e R s m args below meth c D aC ρ H locs ls B ce sl Qc hB hQ0 hR0 X hf hl hW hS hE hv)
theorem w_imul {M : MI} {d : Nat} {dm : Nat × Nat} {G : Nat → Nat → Value} {pc : Nat} {L : List (Option Value)} {S : List Value} {A : AH} {K : Option Value → AH → Prop} {x y : Int32} (q : Nat) (hd : decode M.2.1 pc = .ok (.imul, 1)) (hq : pc + 1 = q)  (k : WP M d dm G q L (.int (x * y) :: S) A K) : WP M d dm G pc L (.int y :: .int x :: S) A K := by
  subst hq
  intro p l e R s m args below meth c D aC ρ H locs ls B ce sl Qc hB hQ0 hR0 X hf hl hW hS hE hv
  exact lv_imul X.1.1 X.1.2.1 hd (k p l e R s m args below meth c D aC ρ H locs ls B ce sl Qc hB hQ0 hR0 X hf hl hW hS hE hv)
theorem w_iand {M : MI} {d : Nat} {dm : Nat × Nat} {G : Nat → Nat → Value} {pc : Nat} {L : List (Option Value)} {S : List Value} {A : AH} {K : Option Value → AH → Prop} {x y : Int32} (q : Nat) (hd : decode M.2.1 pc = .ok (.iand, 1)) (hq : pc + 1 = q)  (k : WP M d dm G q L (.int (x &&& y) :: S) A K) : WP M d dm G pc L (.int y :: .int x :: S) A K := by
  subst hq
  intro p l e R s m args below meth c D aC ρ H locs ls B ce sl Qc hB hQ0 hR0 X hf hl hW hS hE hv
  exact lv_iand X.1.1 X.1.2.1 hd (k p l e R s m args below meth c D aC ρ H locs ls B ce sl Qc hB hQ0 hR0 X hf hl hW hS hE hv)
theorem w_ior {M : MI} {d : Nat} {dm : Nat × Nat} {G : Nat → Nat → Value} {pc : Nat} {L : List (Option Value)} {S : List Value} {A : AH} {K : Option Value → AH → Prop} {x y : Int32} (q : Nat) (hd : decode M.2.1 pc = .ok (.ior, 1)) (hq : pc + 1 = q)  (k : WP M d dm G q L (.int (x ||| y) :: S) A K) : WP M d dm G pc L (.int y :: .int x :: S) A K := by
  subst hq
  intro p l e R s m args below meth c D aC ρ H locs ls B ce sl Qc hB hQ0 hR0 X hf hl hW hS hE hv
  exact lv_ior X.1.1 X.1.2.1 hd (k p l e R s m args below meth c D aC ρ H locs ls B ce sl Qc hB hQ0 hR0 X hf hl hW hS hE hv)
theorem w_ixor {M : MI} {d : Nat} {dm : Nat × Nat} {G : Nat → Nat → Value} {pc : Nat} {L : List (Option Value)} {S : List Value} {A : AH} {K : Option Value → AH → Prop} {x y : Int32} (q : Nat) (hd : decode M.2.1 pc = .ok (.ixor, 1)) (hq : pc + 1 = q)  (k : WP M d dm G q L (.int (x ^^^ y) :: S) A K) : WP M d dm G pc L (.int y :: .int x :: S) A K := by
  subst hq
  intro p l e R s m args below meth c D aC ρ H locs ls B ce sl Qc hB hQ0 hR0 X hf hl hW hS hE hv
  exact lv_ixor X.1.1 X.1.2.1 hd (k p l e R s m args below meth c D aC ρ H locs ls B ce sl Qc hB hQ0 hR0 X hf hl hW hS hE hv)
theorem w_ishl {M : MI} {d : Nat} {dm : Nat × Nat} {G : Nat → Nat → Value} {pc : Nat} {L : List (Option Value)} {S : List Value} {A : AH} {K : Option Value → AH → Prop} {x y : Int32} (q : Nat) (hd : decode M.2.1 pc = .ok (.ishl, 1)) (hq : pc + 1 = q)  (k : WP M d dm G q L (.int (x <<< (y &&& 31)) :: S) A K) : WP M d dm G pc L (.int y :: .int x :: S) A K := by
  subst hq
  intro p l e R s m args below meth c D aC ρ H locs ls B ce sl Qc hB hQ0 hR0 X hf hl hW hS hE hv
  exact lv_ishl X.1.1 X.1.2.1 hd (k p l e R s m args below meth c D aC ρ H locs ls B ce sl Qc hB hQ0 hR0 X hf hl hW hS hE hv)
theorem w_ishr {M : MI} {d : Nat} {dm : Nat × Nat} {G : Nat → Nat → Value} {pc : Nat} {L : List (Option Value)} {S : List Value} {A : AH} {K : Option Value → AH → Prop} {x y : Int32} (q : Nat) (hd : decode M.2.1 pc = .ok (.ishr, 1)) (hq : pc + 1 = q)  (k : WP M d dm G q L (.int (x >>> (y &&& 31)) :: S) A K) : WP M d dm G pc L (.int y :: .int x :: S) A K := by
  subst hq
  intro p l e R s m args below meth c D aC ρ H locs ls B ce sl Qc hB hQ0 hR0 X hf hl hW hS hE hv
  exact lv_ishr X.1.1 X.1.2.1 hd (k p l e R s m args below meth c D aC ρ H locs ls B ce sl Qc hB hQ0 hR0 X hf hl hW hS hE hv)
theorem w_idiv {M : MI} {d : Nat} {dm : Nat × Nat} {G : Nat → Nat → Value} {pc : Nat} {L : List (Option Value)} {S : List Value} {A : AH} {K : Option Value → AH → Prop} {x y : Int32} (q : Nat) (hd : decode M.2.1 pc = .ok (.idiv, 1)) (hq : pc + 1 = q) (hne : ¬ y = 0) (k : WP M d dm G q L (.int (x / y) :: S) A K) : WP M d dm G pc L (.int y :: .int x :: S) A K := by
  subst hq
  intro p l e R s m args below meth c D aC ρ H locs ls B ce sl Qc hB hQ0 hR0 X hf hl hW hS hE hv
  exact lv_idiv X.1.1 X.1.2.1 hd hne (k p l e R s m args below meth c D aC ρ H locs ls B ce sl Qc hB hQ0 hR0 X hf hl hW hS hE hv)
theorem w_irem {M : MI} {d : Nat} {dm : Nat × Nat} {G : Nat → Nat → Value} {pc : Nat} {L : List (Option Value)} {S : List Value} {A : AH} {K : Option Value → AH → Prop} {x y : Int32} (q : Nat) (hd : decode M.2.1 pc = .ok (.irem, 1)) (hq : pc + 1 = q) (hne : ¬ y = 0) (k : WP M d dm G q L (.int (x - x / y * y) :: S) A K) : WP M d dm G pc L (.int y :: .int x :: S) A K := by
  subst hq
  intro p l e R s m args below meth c D aC ρ H locs ls B ce sl Qc hB hQ0 hR0 X hf hl hW hS hE hv
  exact lv_irem X.1.1 X.1.2.1 hd hne (k p l e R s m args below meth c D aC ρ H locs ls B ce sl Qc hB hQ0 hR0 X hf hl hW hS hE hv)
theorem w_ladd {M : MI} {d : Nat} {dm : Nat × Nat} {G : Nat → Nat → Value} {pc : Nat} {L : List (Option Value)} {S : List Value} {A : AH} {K : Option Value → AH → Prop} {x y : Int64} (q : Nat) (hd : decode M.2.1 pc = .ok (.ladd, 1)) (hq : pc + 1 = q)  (k : WP M d dm G q L (.long (x + y) :: S) A K) : WP M d dm G pc L (.long y :: .long x :: S) A K := by
  subst hq
  intro p l e R s m args below meth c D aC ρ H locs ls B ce sl Qc hB hQ0 hR0 X hf hl hW hS hE hv
  exact lv_ladd X.1.1 X.1.2.1 hd (k p l e R s m args below meth c D aC ρ H locs ls B ce sl Qc hB hQ0 hR0 X hf hl hW hS hE hv)
theorem w_lmul {M : MI} {d : Nat} {dm : Nat × Nat} {G : Nat → Nat → Value} {pc : Nat} {L : List (Option Value)} {S : List Value} {A : AH} {K : Option Value → AH → Prop} {x y : Int64} (q : Nat) (hd : decode M.2.1 pc = .ok (.lmul, 1)) (hq : pc + 1 = q)  (k : WP M d dm G q L (.long (x * y) :: S) A K) : WP M d dm G pc L (.long y :: .long x :: S) A K := by
  subst hq
  intro p l e R s m args below meth c D aC ρ H locs ls B ce sl Qc hB hQ0 hR0 X hf hl hW hS hE hv
  exact lv_lmul X.1.1 X.1.2.1 hd (k p l e R s m args below meth c D aC ρ H locs ls B ce sl Qc hB hQ0 hR0 X hf hl hW hS hE hv)
theorem w_lor {M : MI} {d : Nat} {dm : Nat × Nat} {G : Nat → Nat → Value} {pc : Nat} {L : List (Option Value)} {S : List Value} {A : AH} {K : Option Value → AH → Prop} {x y : Int64} (q : Nat) (hd : decode M.2.1 pc = .ok (.lor, 1)) (hq : pc + 1 = q)  (k : WP M d dm G q L (.long (x ||| y) :: S) A K) : WP M d dm G pc L (.long y :: .long x :: S) A K := by
  subst hq
  intro p l e R s m args below meth c D aC ρ H locs ls B ce sl Qc hB hQ0 hR0 X hf hl hW hS hE hv
  exact lv_lor X.1.1 X.1.2.1 hd (k p l e R s m args below meth c D aC ρ H locs ls B ce sl Qc hB hQ0 hR0 X hf hl hW hS hE hv)
theorem w_ldiv {M : MI} {d : Nat} {dm : Nat × Nat} {G : Nat → Nat → Value} {pc : Nat} {L : List (Option Value)} {S : List Value} {A : AH} {K : Option Value → AH → Prop} {x y : Int64} (q : Nat) (hd : decode M.2.1 pc = .ok (.ldiv, 1)) (hq : pc + 1 = q) (hne : ¬ y = 0) (k : WP M d dm G q L (.long (x / y) :: S) A K) : WP M d dm G pc L (.long y :: .long x :: S) A K := by
  subst hq
  intro p l e R s m args below meth c D aC ρ H locs ls B ce sl Qc hB hQ0 hR0 X hf hl hW hS hE hv
  exact lv_ldiv X.1.1 X.1.2.1 hd hne (k p l e R s m args below meth c D aC ρ H locs ls B ce sl Qc hB hQ0 hR0 X hf hl hW hS hE hv)
theorem w_lrem {M : MI} {d : Nat} {dm : Nat × Nat} {G : Nat → Nat → Value} {pc : Nat} {L : List (Option Value)} {S : List Value} {A : AH} {K : Option Value → AH → Prop} {x y : Int64} (q : Nat) (hd : decode M.2.1 pc = .ok (.lrem, 1)) (hq : pc + 1 = q) (hne : ¬ y = 0) (k : WP M d dm G q L (.long (x - x / y * y) :: S) A K) : WP M d dm G pc L (.long y :: .long x :: S) A K := by
  subst hq
  intro p l e R s m args below meth c D aC ρ H locs ls B ce sl Qc hB hQ0 hR0 X hf hl hW hS hE hv
  exact lv_lrem X.1.1 X.1.2.1 hd hne (k p l e R s m args below meth c D aC ρ H locs ls B ce sl Qc hB hQ0 hR0 X hf hl hW hS hE hv)
theorem w_iushr {M : MI} {d : Nat} {dm : Nat × Nat} {G : Nat → Nat → Value} {pc : Nat} {L : List (Option Value)} {S : List Value} {A : AH} {K : Option Value → AH → Prop} {x y : Int32} (q : Nat) (hd : decode M.2.1 pc = .ok (.iushr, 1)) (hq : pc + 1 = q)  (k : WP M d dm G q L (.int ((x.toUInt32 >>> (y.toUInt32 &&& Int32.toUInt32 31)).toInt32) :: S) A K) : WP M d dm G pc L (.int y :: .int x :: S) A K := by
  subst hq
  intro p l e R s m args below meth c D aC ρ H locs ls B ce sl Qc hB hQ0 hR0 X hf hl hW hS hE hv
  exact lv_iushr X.1.1 X.1.2.1 hd rfl (k p l e R s m args below meth c D aC ρ H locs ls B ce sl Qc hB hQ0 hR0 X hf hl hW hS hE hv)
theorem w_lshl {M : MI} {d : Nat} {dm : Nat × Nat} {G : Nat → Nat → Value} {pc : Nat} {L : List (Option Value)} {S : List Value} {A : AH} {K : Option Value → AH → Prop} {x : Int64} {y : Int32} (q : Nat) (hd : decode M.2.1 pc = .ok (.lshl, 1)) (hq : pc + 1 = q)  (k : WP M d dm G q L (.long (x <<< (y.toInt64 &&& 63)) :: S) A K) : WP M d dm G pc L (.int y :: .long x :: S) A K := by
  subst hq
  intro p l e R s m args below meth c D aC ρ H locs ls B ce sl Qc hB hQ0 hR0 X hf hl hW hS hE hv
  exact lv_lshl X.1.1 X.1.2.1 hd rfl (k p l e R s m args below meth c D aC ρ H locs ls B ce sl Qc hB hQ0 hR0 X hf hl hW hS hE hv)
theorem w_lcmp {M : MI} {d : Nat} {dm : Nat × Nat} {G : Nat → Nat → Value} {pc : Nat} {L : List (Option Value)} {S : List Value} {A : AH} {K : Option Value → AH → Prop} {x y : Int64} (q : Nat) (hd : decode M.2.1 pc = .ok (.lcmp, 1)) (hq : pc + 1 = q)  (k : WP M d dm G q L (.int (lg_cmp x y) :: S) A K) : WP M d dm G pc L (.long y :: .long x :: S) A K := by
  subst hq
  intro p l e R s m args below meth c D aC ρ H locs ls B ce sl Qc hB hQ0 hR0 X hf hl hW hS hE hv
  exact W.lcmp X.1.1 X.1.2.1 hd (k p l e R s m args below meth c D aC ρ H locs ls B ce sl Qc hB hQ0 hR0 X hf hl hW hS hE hv)
theorem w_i2l {M : MI} {d : Nat} {dm : Nat × Nat} {G : Nat → Nat → Value} {pc : Nat} {L : List (Option Value)} {S : List Value} {A : AH} {K : Option Value → AH → Prop} {x : Int32} (q : Nat) (hd : decode M.2.1 pc = .ok (.i2l, 1)) (hq : pc + 1 = q)  (k : WP M d dm G q L (.long x.toInt64 :: S) A K) : WP M d dm G pc L (.int x :: S) A K := by
  subst hq
  intro p l e R s m args below meth c D aC ρ H locs ls B ce sl Qc hB hQ0 hR0 X hf hl hW hS hE hv
  exact lv_i2l X.1.1 X.1.2.1 hd rfl (k p l e R s m args below meth c D aC ρ H locs ls B ce sl Qc hB hQ0 hR0 X hf hl hW hS hE hv)
theorem w_l2i {M : MI} {d : Nat} {dm : Nat × Nat} {G : Nat → Nat → Value} {pc : Nat} {L : List (Option Value)} {S : List Value} {A : AH} {K : Option Value → AH → Prop} {x : Int64} (q : Nat) (hd : decode M.2.1 pc = .ok (.l2i, 1)) (hq : pc + 1 = q)  (k : WP M d dm G q L (.int x.toInt32 :: S) A K) : WP M d dm G pc L (.long x :: S) A K := by
  subst hq
  intro p l e R s m args below meth c D aC ρ H locs ls B ce sl Qc hB hQ0 hR0 X hf hl hW hS hE hv
  exact lv_l2i X.1.1 X.1.2.1 hd rfl (k p l e R s m args below meth c D aC ρ H locs ls B ce sl Qc hB hQ0 hR0 X hf hl hW hS hE hv)
theorem w_i2b {M : MI} {d : Nat} {dm : Nat × Nat} {G : Nat → Nat → Value} {pc : Nat} {L : List (Option Value)} {S : List Value} {A : AH} {K : Option Value → AH → Prop} {x : Int32} (q : Nat) (hd : decode M.2.1 pc = .ok (.i2b, 1)) (hq : pc + 1 = q)  (k : WP M d dm G q L (.int x.toInt8.toInt32 :: S) A K) : WP M d dm G pc L (.int x :: S) A K := by
  subst hq
  intro p l e R s m args below meth c D aC ρ H locs ls B ce sl Qc hB hQ0 hR0 X hf hl hW hS hE hv
  exact lv_i2b X.1.1 X.1.2.1 hd rfl (k p l e R s m args below meth c D aC ρ H locs ls B ce sl Qc hB hQ0 hR0 X hf hl hW hS hE hv)
theorem w_i2c {M : MI} {d : Nat} {dm : Nat × Nat} {G : Nat → Nat → Value} {pc : Nat} {L : List (Option Value)} {S : List Value} {A : AH} {K : Option Value → AH → Prop} {x : Int32} (q : Nat) (hd : decode M.2.1 pc = .ok (.i2c, 1)) (hq : pc + 1 = q)  (k : WP M d dm G q L (.int (x.toUInt32 % 65536).toInt32 :: S) A K) : WP M d dm G pc L (.int x :: S) A K := by
  subst hq
  intro p l e R s m args below meth c D aC ρ H locs ls B ce sl Qc hB hQ0 hR0 X hf hl hW hS hE hv
  exact lv_i2c X.1.1 X.1.2.1 hd rfl (k p l e R s m args below meth c D aC ρ H locs ls B ce sl Qc hB hQ0 hR0 X hf hl hW hS hE hv)
theorem w_dup_i {M : MI} {d : Nat} {dm : Nat × Nat} {G : Nat → Nat → Value} {pc : Nat} {L : List (Option Value)} {S : List Value} {A : AH} {K : Option Value → AH → Prop} {x : Int32} (q : Nat) (hd : decode M.2.1 pc = .ok (.dup, 1)) (hq : pc + 1 = q)  (k : WP M d dm G q L (.int x :: .int x :: S) A K) : WP M d dm G pc L (.int x :: S) A K := by
  subst hq
  intro p l e R s m args below meth c D aC ρ H locs ls B ce sl Qc hB hQ0 hR0 X hf hl hW hS hE hv
  exact lv_dup X.1.1 X.1.2.1 hd rfl (k p l e R s m args below meth c D aC ρ H locs ls B ce sl Qc hB hQ0 hR0 X hf hl hW hS hE hv)
theorem w_dup_r {M : MI} {d : Nat} {dm : Nat × Nat} {G : Nat → Nat → Value} {pc : Nat} {L : List (Option Value)} {S : List Value} {A : AH} {K : Option Value → AH → Prop} {x : Nat} (q : Nat) (hd : decode M.2.1 pc = .ok (.dup, 1)) (hq : pc + 1 = q)  (k : WP M d dm G q L (.ref x :: .ref x :: S) A K) : WP M d dm G pc L (.ref x :: S) A K := by
  subst hq
  intro p l e R s m args below meth c D aC ρ H locs ls B ce sl Qc hB hQ0 hR0 X hf hl hW hS hE hv
  exact lv_dup X.1.1 X.1.2.1 hd rfl (k p l e R s m args below meth c D aC ρ H locs ls B ce sl Qc hB hQ0 hR0 X hf hl hW hS hE hv)
theorem w_pop {M : MI} {d : Nat} {dm : Nat × Nat} {G : Nat → Nat → Value} {pc : Nat} {L : List (Option Value)} {S : List Value} {A : AH} {K : Option Value → AH → Prop} {x : Int32} (q : Nat) (hd : decode M.2.1 pc = .ok (.pop, 1)) (hq : pc + 1 = q)  (k : WP M d dm G q L S A K) : WP M d dm G pc L (.int x :: S) A K := by
  subst hq
  intro p l e R s m args below meth c D aC ρ H locs ls B ce sl Qc hB hQ0 hR0 X hf hl hW hS hE hv
  exact lv_pop X.1.1 X.1.2.1 hd rfl (k p l e R s m args below meth c D aC ρ H locs ls B ce sl Qc hB hQ0 hR0 X hf hl hW hS hE hv)
theorem w_dup2 {M : MI} {d : Nat} {dm : Nat × Nat} {G : Nat → Nat → Value} {pc : Nat} {L : List (Option Value)} {S : List Value} {A : AH} {K : Option Value → AH → Prop} {x : Int32} {y : Nat} (q : Nat) (hd : decode M.2.1 pc = .ok (.dup2, 1)) (hq : pc + 1 = q)  (k : WP M d dm G q L (.int x :: .ref y :: .int x :: .ref y :: S) A K) : WP M d dm G pc L (.int x :: .ref y :: S) A K := by
  subst hq
  intro p l e R s m args below meth c D aC ρ H locs ls B ce sl Qc hB hQ0 hR0 X hf hl hW hS hE hv
  exact lv_dup2_11 X.1.1 X.1.2.1 hd rfl rfl (k p l e R s m args below meth c D aC ρ H locs ls B ce sl Qc hB hQ0 hR0 X hf hl hW hS hE hv)
theorem w_dup2_l {M : MI} {d : Nat} {dm : Nat × Nat} {G : Nat → Nat → Value} {pc : Nat} {L : List (Option Value)} {S : List Value} {A : AH} {K : Option Value → AH → Prop} {x : Int64} (q : Nat) (hd : decode M.2.1 pc = .ok (.dup2, 1)) (hq : pc + 1 = q)  (k : WP M d dm G q L (.long x :: .long x :: S) A K) : WP M d dm G pc L (.long x :: S) A K := by
  subst hq
  intro p l e R s m args below meth c D aC ρ H locs ls B ce sl Qc hB hQ0 hR0 X hf hl hW hS hE hv
  exact lv_dup2_2 X.1.1 X.1.2.1 hd rfl (k p l e R s m args below meth c D aC ρ H locs ls B ce sl Qc hB hQ0 hR0 X hf hl hW hS hE hv)
theorem w_ifeq {M : MI} {d : Nat} {dm : Nat × Nat} {G : Nat → Nat → Value} {pc : Nat} {L : List (Option Value)} {S : List Value} {A : AH} {K : Option Value → AH → Prop} {x : Int32} {off : Int} (t q : Nat) (hd : decode M.2.1 pc = .ok (.ifCond .eq off, 3)) (ht : (pc : Int) + off = (t : Int)) (hq : pc + 3 = q) (kt : x = 0 → WP M d dm G t L S A K) (kf : ¬ x = 0 → WP M d dm G q L S A K) : WP M d dm G pc L (.int x :: S) A K := by
  subst hq
  intro p l e R s m args below meth c D aC ρ H locs ls B ce sl Qc hB hQ0 hR0 X hf hl hW hS hE hv
  exact lv_if_eq X.1.1 X.1.2.1 hd ht (fun h => (kt h p l e R s m args below meth c D aC ρ H locs ls B ce sl Qc hB hQ0 hR0 X hf hl hW hS hE hv)) (fun h => (kf h p l e R s m args below meth c D aC ρ H locs ls B ce sl Qc hB hQ0 hR0 X hf hl hW hS hE hv))
theorem w_ifne {M : MI} {d : Nat} {dm : Nat × Nat} {G : Nat → Nat → Value} {pc : Nat} {L : List (Option Value)} {S : List Value} {A : AH} {K : Option Value → AH → Prop} {x : Int32} {off : Int} (t q : Nat) (hd : decode M.2.1 pc = .ok (.ifCond .ne off, 3)) (ht : (pc : Int) + off = (t : Int)) (hq : pc + 3 = q) (kt : ¬ x = 0 → WP M d dm G t L S A K) (kf : x = 0 → WP M d dm G q L S A K) : WP M d dm G pc L (.int x :: S) A K := by
  subst hq
  intro p l e R s m args below meth c D aC ρ H locs ls B ce sl Qc hB hQ0 hR0 X hf hl hW hS hE hv
  exact lv_if_ne X.1.1 X.1.2.1 hd ht (fun h => (kt h p l e R s m args below meth c D aC ρ H locs ls B ce sl Qc hB hQ0 hR0 X hf hl hW hS hE hv)) (fun h => (kf h p l e R s m args below meth c D aC ρ H locs ls B ce sl Qc hB hQ0 hR0 X hf hl hW hS hE hv))
theorem w_iflt {M : MI} {d : Nat} {dm : Nat × Nat} {G : Nat → Nat → Value} {pc : Nat} {L : List (Option Value)} {S : List Value} {A : AH} {K : Option Value → AH → Prop} {x : Int32} {off : Int} (t q : Nat) (hd : decode M.2.1 pc = .ok (.ifCond .lt off, 3)) (ht : (pc : Int) + off = (t : Int)) (hq : pc + 3 = q) (kt : x < 0 → WP M d dm G t L S A K) (kf : ¬ x < 0 → WP M d dm G q L S A K) : WP M d dm G pc L (.int x :: S) A K := by
  subst hq
  intro p l e R s m args below meth c D aC ρ H locs ls B ce sl Qc hB hQ0 hR0 X hf hl hW hS hE hv
  exact lv_if_lt X.1.1 X.1.2.1 hd ht (fun h => (kt h p l e R s m args below meth c D aC ρ H locs ls B ce sl Qc hB hQ0 hR0 X hf hl hW hS hE hv)) (fun h => (kf h p l e R s m args below meth c D aC ρ H locs ls B ce sl Qc hB hQ0 hR0 X hf hl hW hS hE hv))
theorem w_ifge {M : MI} {d : Nat} {dm : Nat × Nat} {G : Nat → Nat → Value} {pc : Nat} {L : List (Option Value)} {S : List Value} {A : AH} {K : Option Value → AH → Prop} {x : Int32} {off : Int} (t q : Nat) (hd : decode M.2.1 pc = .ok (.ifCond .ge off, 3)) (ht : (pc : Int) + off = (t : Int)) (hq : pc + 3 = q) (kt : 0 ≤ x → WP M d dm G t L S A K) (kf : ¬ 0 ≤ x → WP M d dm G q L S A K) : WP M d dm G pc L (.int x :: S) A K := by
  subst hq
  intro p l e R s m args below meth c D aC ρ H locs ls B ce sl Qc hB hQ0 hR0 X hf hl hW hS hE hv
  exact lv_if_ge X.1.1 X.1.2.1 hd ht (fun h => (kt h p l e R s m args below meth c D aC ρ H locs ls B ce sl Qc hB hQ0 hR0 X hf hl hW hS hE hv)) (fun h => (kf h p l e R s m args below meth c D aC ρ H locs ls B ce sl Qc hB hQ0 hR0 X hf hl hW hS hE hv))
theorem w_ifgt {M : MI} {d : Nat} {dm : Nat × Nat} {G : Nat → Nat → Value} {pc : Nat} {L : List (Option Value)} {S : List Value} {A : AH} {K : Option Value → AH → Prop} {x : Int32} {off : Int} (t q : Nat) (hd : decode M.2.1 pc = .ok (.ifCond .gt off, 3)) (ht : (pc : Int) + off = (t : Int)) (hq : pc + 3 = q) (kt : 0 < x → WP M d dm G t L S A K) (kf : ¬ 0 < x → WP M d dm G q L S A K) : WP M d dm G pc L (.int x :: S) A K := by
  subst hq
  intro p l e R s m args below meth c D aC ρ H locs ls B ce sl Qc hB hQ0 hR0 X hf hl hW hS hE hv
  exact lv_if_gt X.1.1 X.1.2.1 hd ht (fun h => (kt h p l e R s m args below meth c D aC ρ H locs ls B ce sl Qc hB hQ0 hR0 X hf hl hW hS hE hv)) (fun h => (kf h p l e R s m args below meth c D aC ρ H locs ls B ce sl Qc hB hQ0 hR0 X hf hl hW hS hE hv))
theorem w_ifle {M : MI} {d : Nat} {dm : Nat × Nat} {G : Nat → Nat → Value} {pc : Nat} {L : List (Option Value)} {S : List Value} {A : AH} {K : Option Value → AH → Prop} {x : Int32} {off : Int} (t q : Nat) (hd : decode M.2.1 pc = .ok (.ifCond .le off, 3)) (ht : (pc : Int) + off = (t : Int)) (hq : pc + 3 = q) (kt : x ≤ 0 → WP M d dm G t L S A K) (kf : ¬ x ≤ 0 → WP M d dm G q L S A K) : WP M d dm G pc L (.int x :: S) A K := by
  subst hq
  intro p l e R s m args below meth c D aC ρ H locs ls B ce sl Qc hB hQ0 hR0 X hf hl hW hS hE hv
  exact lv_if_le X.1.1 X.1.2.1 hd ht (fun h => (kt h p l e R s m args below meth c D aC ρ H locs ls B ce sl Qc hB hQ0 hR0 X hf hl hW hS hE hv)) (fun h => (kf h p l e R s m args below meth c D aC ρ H locs ls B ce sl Qc hB hQ0 hR0 X hf hl hW hS hE hv))
theorem w_iceq {M : MI} {d : Nat} {dm : Nat × Nat} {G : Nat → Nat → Value} {pc : Nat} {L : List (Option Value)} {S : List Value} {A : AH} {K : Option Value → AH → Prop} {x y : Int32} {off : Int} (t q : Nat) (hd : decode M.2.1 pc = .ok (.if_icmp .eq off, 3)) (ht : (pc : Int) + off = (t : Int)) (hq : pc + 3 = q) (kt : x = y → WP M d dm G t L S A K) (kf : ¬ x = y → WP M d dm G q L S A K) : WP M d dm G pc L (.int y :: .int x :: S) A K := by
  subst hq
  intro p l e R s m args below meth c D aC ρ H locs ls B ce sl Qc hB hQ0 hR0 X hf hl hW hS hE hv
  exact lv_icmp_eq X.1.1 X.1.2.1 hd ht (fun h => (kt h p l e R s m args below meth c D aC ρ H locs ls B ce sl Qc hB hQ0 hR0 X hf hl hW hS hE hv)) (fun h => (kf h p l e R s m args below meth c D aC ρ H locs ls B ce sl Qc hB hQ0 hR0 X hf hl hW hS hE hv))
theorem w_icne {M : MI} {d : Nat} {dm : Nat × Nat} {G : Nat → Nat → Value} {pc : Nat} {L : List (Option Value)} {S : List Value} {A : AH} {K : Option Value → AH → Prop} {x y : Int32} {off : Int} (t q : Nat) (hd : decode M.2.1 pc = .ok (.if_icmp .ne off, 3)) (ht : (pc : Int) + off = (t : Int)) (hq : pc + 3 = q) (kt : ¬ x = y → WP M d dm G t L S A K) (kf : x = y → WP M d dm G q L S A K) : WP M d dm G pc L (.int y :: .int x :: S) A K := by
  subst hq
  intro p l e R s m args below meth c D aC ρ H locs ls B ce sl Qc hB hQ0 hR0 X hf hl hW hS hE hv
  exact lv_icmp_ne X.1.1 X.1.2.1 hd ht (fun h => (kt h p l e R s m args below meth c D aC ρ H locs ls B ce sl Qc hB hQ0 hR0 X hf hl hW hS hE hv)) (fun h => (kf h p l e R s m args below meth c D aC ρ H locs ls B ce sl Qc hB hQ0 hR0 X hf hl hW hS hE hv))
theorem w_iclt {M : MI} {d : Nat} {dm : Nat × Nat} {G : Nat → Nat → Value} {pc : Nat} {L : List (Option Value)} {S : List Value} {A : AH} {K : Option Value → AH → Prop} {x y : Int32} {off : Int} (t q : Nat) (hd : decode M.2.1 pc = .ok (.if_icmp .lt off, 3)) (ht : (pc : Int) + off = (t : Int)) (hq : pc + 3 = q) (kt : x < y → WP M d dm G t L S A K) (kf : ¬ x < y → WP M d dm G q L S A K) : WP M d dm G pc L (.int y :: .int x :: S) A K := by
  subst hq
  intro p l e R s m args below meth c D aC ρ H locs ls B ce sl Qc hB hQ0 hR0 X hf hl hW hS hE hv
  exact lv_icmp_lt X.1.1 X.1.2.1 hd ht (fun h => (kt h p l e R s m args below meth c D aC ρ H locs ls B ce sl Qc hB hQ0 hR0 X hf hl hW hS hE hv)) (fun h => (kf h p l e R s m args below meth c D aC ρ H locs ls B ce sl Qc hB hQ0 hR0 X hf hl hW hS hE hv))
theorem w_icge {M : MI} {d : Nat} {dm : Nat × Nat} {G : Nat → Nat → Value} {pc : Nat} {L : List (Option Value)} {S : List Value} {A : AH} {K : Option Value → AH → Prop} {x y : Int32} {off : Int} (t q : Nat) (hd : decode M.2.1 pc = .ok (.if_icmp .ge off, 3)) (ht : (pc : Int) + off = (t : Int)) (hq : pc + 3 = q) (kt : y ≤ x → WP M d dm G t L S A K) (kf : ¬ y ≤ x → WP M d dm G q L S A K) : WP M d dm G pc L (.int y :: .int x :: S) A K := by
  subst hq
  intro p l e R s m args below meth c D aC ρ H locs ls B ce sl Qc hB hQ0 hR0 X hf hl hW hS hE hv
  exact lv_icmp_ge X.1.1 X.1.2.1 hd ht (fun h => (kt h p l e R s m args below meth c D aC ρ H locs ls B ce sl Qc hB hQ0 hR0 X hf hl hW hS hE hv)) (fun h => (kf h p l e R s m args below meth c D aC ρ H locs ls B ce sl Qc hB hQ0 hR0 X hf hl hW hS hE hv))
theorem w_icgt {M : MI} {d : Nat} {dm : Nat × Nat} {G : Nat → Nat → Value} {pc : Nat} {L : List (Option Value)} {S : List Value} {A : AH} {K : Option Value → AH → Prop} {x y : Int32} {off : Int} (t q : Nat) (hd : decode M.2.1 pc = .ok (.if_icmp .gt off, 3)) (ht : (pc : Int) + off = (t : Int)) (hq : pc + 3 = q) (kt : y < x → WP M d dm G t L S A K) (kf : ¬ y < x → WP M d dm G q L S A K) : WP M d dm G pc L (.int y :: .int x :: S) A K := by
  subst hq
  intro p l e R s m args below meth c D aC ρ H locs ls B ce sl Qc hB hQ0 hR0 X hf hl hW hS hE hv
  exact lv_icmp_gt X.1.1 X.1.2.1 hd ht (fun h => (kt h p l e R s m args below meth c D aC ρ H locs ls B ce sl Qc hB hQ0 hR0 X hf hl hW hS hE hv)) (fun h => (kf h p l e R s m args below meth c D aC ρ H locs ls B ce sl Qc hB hQ0 hR0 X hf hl hW hS hE hv))
theorem w_icle {M : MI} {d : Nat} {dm : Nat × Nat} {G : Nat → Nat → Value} {pc : Nat} {L : List (Option Value)} {S : List Value} {A : AH} {K : Option Value → AH → Prop} {x y : Int32} {off : Int} (t q : Nat) (hd : decode M.2.1 pc = .ok (.if_icmp .le off, 3)) (ht : (pc : Int) + off = (t : Int)) (hq : pc + 3 = q) (kt : x ≤ y → WP M d dm G t L S A K) (kf : ¬ x ≤ y → WP M d dm G q L S A K) : WP M d dm G pc L (.int y :: .int x :: S) A K := by
  subst hq
  intro p l e R s m args below meth c D aC ρ H locs ls B ce sl Qc hB hQ0 hR0 X hf hl hW hS hE hv
  exact lv_icmp_le X.1.1 X.1.2.1 hd ht (fun h => (kt h p l e R s m args below meth c D aC ρ H locs ls B ce sl Qc hB hQ0 hR0 X hf hl hW hS hE hv)) (fun h => (kf h p l e R s m args below meth c D aC ρ H locs ls B ce sl Qc hB hQ0 hR0 X hf hl hW hS hE hv))
theorem w_goto {M : MI} {d : Nat} {dm : Nat × Nat} {G : Nat → Nat → Value} {pc : Nat} {L : List (Option Value)} {S : List Value} {A : AH} {K : Option Value → AH → Prop} {off : Int} (t : Nat) (hd : decode M.2.1 pc = .ok (.goto off, 3)) (ht : (pc : Int) + off = (t : Int)) (k : WP M d dm G t L S A K) : WP M d dm G pc L S A K := by
  intro p l e R s m args below meth c D aC ρ H locs ls B ce sl Qc hB hQ0 hR0 X hf hl hW hS hE hv
  exact lv_goto X.1.1 X.1.2.1 hd ht (k p l e R s m args below meth c D aC ρ H locs ls B ce sl Qc hB hQ0 hR0 X hf hl hW hS hE hv)
theorem w_nnR {M : MI} {d : Nat} {dm : Nat × Nat} {G : Nat → Nat → Value} {pc : Nat} {L : List (Option Value)} {S : List Value} {A : AH} {K : Option Value → AH → Prop} {x : Nat} {off : Int} (t : Nat) (hd : decode M.2.1 pc = .ok (.ifnonnull off, 3)) (ht : (pc : Int) + off = (t : Int)) (k : WP M d dm G t L S A K) : WP M d dm G pc L (.ref x :: S) A K := by
  intro p l e R s m args below meth c D aC ρ H locs ls B ce sl Qc hB hQ0 hR0 X hf hl hW hS hE hv
  exact lv_ifnonnull X.1.1 X.1.2.1 hd ht (k p l e R s m args below meth c D aC ρ H locs ls B ce sl Qc hB hQ0 hR0 X hf hl hW hS hE hv)
theorem w_nN {M : MI} {d : Nat} {dm : Nat × Nat} {G : Nat → Nat → Value} {pc : Nat} {L : List (Option Value)} {S : List Value} {A : AH} {K : Option Value → AH → Prop} {off : Int} (t : Nat) (hd : decode M.2.1 pc = .ok (.ifnull off, 3)) (ht : (pc : Int) + off = (t : Int)) (k : WP M d dm G t L S A K) : WP M d dm G pc L (.null :: S) A K := by
  intro p l e R s m args below meth c D aC ρ H locs ls B ce sl Qc hB hQ0 hR0 X hf hl hW hS hE hv
  exact lv_ifnullN X.1.1 X.1.2.1 hd ht (k p l e R s m args below meth c D aC ρ H locs ls B ce sl Qc hB hQ0 hR0 X hf hl hW hS hE hv)
theorem w_nR {M : MI} {d : Nat} {dm : Nat × Nat} {G : Nat → Nat → Value} {pc : Nat} {L : List (Option Value)} {S : List Value} {A : AH} {K : Option Value → AH → Prop} {x : Nat} {off : Int} (q : Nat) (hd : decode M.2.1 pc = .ok (.ifnull off, 3)) (hq : pc + 3 = q)  (k : WP M d dm G q L S A K) : WP M d dm G pc L (.ref x :: S) A K := by
  subst hq
  intro p l e R s m args below meth c D aC ρ H locs ls B ce sl Qc hB hQ0 hR0 X hf hl hW hS hE hv
  exact lv_ifnull X.1.1 X.1.2.1 hd (k p l e R s m args below meth c D aC ρ H locs ls B ce sl Qc hB hQ0 hR0 X hf hl hW hS hE hv)
theorem w_nnN {M : MI} {d : Nat} {dm : Nat × Nat} {G : Nat → Nat → Value} {pc : Nat} {L : List (Option Value)} {S : List Value} {A : AH} {K : Option Value → AH → Prop} {off : Int} (q : Nat) (hd : decode M.2.1 pc = .ok (.ifnonnull off, 3)) (hq : pc + 3 = q)  (k : WP M d dm G q L S A K) : WP M d dm G pc L (.null :: S) A K := by
  subst hq
  intro p l e R s m args below meth c D aC ρ H locs ls B ce sl Qc hB hQ0 hR0 X hf hl hW hS hE hv
  exact lv_ifnonnullN X.1.1 X.1.2.1 hd (k p l e R s m args below meth c D aC ρ H locs ls B ce sl Qc hB hQ0 hR0 X hf hl hW hS hE hv)
theorem w_tabIn {M : MI} {d : Nat} {dm : Nat × Nat} {G : Nat → Nat → Value} {pc : Nat} {L : List (Option Value)} {S : List Value} {A : AH} {K : Option Value → AH → Prop} {dflt lo hi : Int} {offs : Array Int} {len : Nat} {x : Int32} {off : Int} (t : Nat) (hd : decode M.2.1 pc = .ok (.tableswitch dflt lo hi offs, len)) (h1 : ¬ x.toInt < lo) (h2 : ¬ hi < x.toInt) (ho : offs[(x.toInt - lo).toNat]? = some off) (ht : (pc : Int) + off = (t : Int)) (k : WP M d dm G t L S A K) : WP M d dm G pc L (.int x :: S) A K := by
  intro p l e R s m args below meth c D aC ρ H locs ls B ce sl Qc hB hQ0 hR0 X hf hl hW hS hE hv
  exact lv_tableIn X.1.1 X.1.2.1 hd h1 h2 ho ht (k p l e R s m args below meth c D aC ρ H locs ls B ce sl Qc hB hQ0 hR0 X hf hl hW hS hE hv)
theorem w_tabOut {M : MI} {d : Nat} {dm : Nat × Nat} {G : Nat → Nat → Value} {pc : Nat} {L : List (Option Value)} {S : List Value} {A : AH} {K : Option Value → AH → Prop} {dflt lo hi : Int} {offs : Array Int} {len : Nat} {x : Int32} (t : Nat) (hd : decode M.2.1 pc = .ok (.tableswitch dflt lo hi offs, len)) (h : x.toInt < lo ∨ hi < x.toInt) (ht : (pc : Int) + dflt = (t : Int)) (k : WP M d dm G t L S A K) : WP M d dm G pc L (.int x :: S) A K := by
  intro p l e R s m args below meth c D aC ρ H locs ls B ce sl Qc hB hQ0 hR0 X hf hl hW hS hE hv
  exact lv_tableOut X.1.1 X.1.2.1 hd h ht (k p l e R s m args below meth c D aC ρ H locs ls B ce sl Qc hB hQ0 hR0 X hf hl hW hS hE hv)
theorem w_iret {M : MI} {d : Nat} {dm : Nat × Nat} {G : Nat → Nat → Value} {pc : Nat} {L : List (Option Value)} {S : List Value} {A : AH} {K : Option Value → AH → Prop} {v : Int32} (hd : decode M.2.1 pc = .ok (.ireturn, 1)) (hr : M.2.2.2 = some .int) (k : K (some (.int v)) A) : WP M d dm G pc L [.int v] A K := by
  intro p l e R s m args below meth c D aC ρ H locs ls B ce sl Qc hB hQ0 hR0 X hf hl hW hS hE hv
  exact W.iret X.1.1 X.1.2.1 (X.2.1.trans hr) (fun t ht hWm => hQ0 (some (.int v)) A t k hWm (by rw [ht]; exact hW.moved hWm.alike) (hS.F ht)) hS.2.2 hd X.2.2
theorem w_zret {M : MI} {d : Nat} {dm : Nat × Nat} {G : Nat → Nat → Value} {pc : Nat} {L : List (Option Value)} {S : List Value} {A : AH} {K : Option Value → AH → Prop} {v : Int32} {ty : FieldType} (hd : decode M.2.1 pc = .ok (.ireturn, 1)) (hr : M.2.2.2 = some ty) (hn : narrow ty (.int v) = .int v) (k : K (some (.int v)) A) : WP M d dm G pc L [.int v] A K := by
  intro p l e R s m args below meth c D aC ρ H locs ls B ce sl Qc hB hQ0 hR0 X hf hl hW hS hE hv
  exact W.zret X.1.1 X.1.2.1 (X.2.1.trans hr) hn (fun t ht hWm => hQ0 (some (.int v)) A t k hWm (by rw [ht]; exact hW.moved hWm.alike) (hS.F ht)) hS.2.2 hd X.2.2
theorem w_lret {M : MI} {d : Nat} {dm : Nat × Nat} {G : Nat → Nat → Value} {pc : Nat} {L : List (Option Value)} {S : List Value} {A : AH} {K : Option Value → AH → Prop} {v : Int64} (hd : decode M.2.1 pc = .ok (.lreturn, 1)) (hr : M.2.2.2 = some .long) (k : K (some (.long v)) A) : WP M d dm G pc L [.long v] A K := by
  intro p l e R s m args below meth c D aC ρ H locs ls B ce sl Qc hB hQ0 hR0 X hf hl hW hS hE hv
  exact W.lret X.1.1 X.1.2.1 (X.2.1.trans hr) (fun t ht hWm => hQ0 (some (.long v)) A t k hWm (by rw [ht]; exact hW.moved hWm.alike) (hS.F ht)) hS.2.2 hd X.2.2
theorem w_vret {M : MI} {d : Nat} {dm : Nat × Nat} {G : Nat → Nat → Value} {pc : Nat} {L : List (Option Value)} {S : List Value} {A : AH} {K : Option Value → AH → Prop} (hd : decode M.2.1 pc = .ok (.return_, 1)) (hr : M.2.2.2 = none) (k : K none A) : WP M d dm G pc L [] A K := by
  intro p l e R s m args below meth c D aC ρ H locs ls B ce sl Qc hB hQ0 hR0 X hf hl hW hS hE hv
  exact W.vret X.1.1 X.1.2.1 (X.2.1.trans hr) (fun t ht hWm => hQ0 none A t k hWm (by rw [ht]; exact hW.moved hWm.alike) (hS.F ht)) hS.2.2 hd X.2.2
theorem w_aret {M : MI} {d : Nat} {dm : Nat × Nat} {G : Nat → Nat → Value} {pc : Nat} {L : List (Option Value)} {S : List Value} {A : AH} {K : Option Value → AH → Prop} {x : Nat} {rt : FieldType} (hd : decode M.2.1 pc = .ok (.areturn, 1)) (hr : M.2.2.2 = some rt) (hrt : (∃ n, rt = .object n) ∨ ∃ t, rt = .array t) (k : K (some (.ref x)) A) : WP M d dm G pc L [.ref x] A K := by
  intro p l e R s m args below meth c D aC ρ H locs ls B ce sl Qc hB hQ0 hR0 X hf hl hW hS hE hv
  exact W.aret X.1.1 X.1.2.1 (X.2.1.trans hr) hrt (Or.inr ⟨ρ x, rfl⟩) (fun t ht hWm => hQ0 (some (.ref x)) A t k hWm (by rw [ht]; exact hW.moved hWm.alike) (hS.F ht)) hS.2.2 hd X.2.2
