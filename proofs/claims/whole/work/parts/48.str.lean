/-! ===== constants ===== -/
theorem ldcwStr {p : Program} {l : Launch} {e : Env} {R : Room} {s : State} {m : MethodId} {args : Array Value} {below : List Frame} {meth : Method} {c : Code} {T : State} {locs : List Loc} {cells slots : Nat}
    (X : Stand p l e R s m args below meth c T locs cells slots) (hexec : p.tables.exec = Jvm.exec) {own text : String} {index : Nat} {a : Addr} (hown : s.vm.findClass own = some m.cls)
    (hconst : (Cond.stringRef own index text).before #[] s = true) (hev : (Term.string own index).eval #[] s none [] s = some (.ref a)) {g : JFrame} (hg : g.method = m) (hdg : decode c.code g.pc = .ok (.ldc_w index, 3)) :
    ∀ target, Steps p.tables e below (T.setTop { g with pc := g.pc + 3, stack := .ref a :: g.stack }) target → Steps p.tables e below (T.setTop g) target := by
  obtain ⟨k, cf, i, a', hk, hcf, hcp, -, hr, hev'⟩ := Cond.stringRef_spec hown hconst
  cases hev.symm.trans hev'
  obtain ⟨k', hk', he⟩ := X.warmed.alike.2.2 _ _ hk
  have hr' : k'.resolved[index]? = some (some (.string a)) := by
    rcases X.warmed.entry hk hk' index with h | ⟨h, -⟩
    · rw [h]; exact hr
    · rw [hr] at h; cases h
  intro target hrest
  subst hg
  jvm_step X.here [hexec, hdg, ldc_w.wp_string (e := e) (s := T) (f := g) X.here.top hk' (by rw [he]; exact hcf) hcp hr']
  exact hrest
theorem w_ldcS {M : MI} {d : Nat} {dm : Nat × Nat} {G : Nat → Nat → Value} {pc : Nat} {L : List (Option Value)} {S : List Value} {A : AH} {K : Option Value → AH → Prop} {i j : Nat} {tx : String} (q : Nat) (hd : decode M.2.1 pc = .ok (.ldc i, 2)) (hq : pc + 2 = q) (hm : (M.1, i, tx, j) ∈ strTab) (k : WP M d dm G q L (.ref (1000 + j) :: S) A K) : WP M d dm G pc L S A K := by
  subst hq
  intro p l e R s m args below meth c D aC ρ H locs ls B ce sl Qc hB hQ0 hR0 X hf hl hW hS hE hv
  exact va_ldcS X.1.1 X.1.2.1 X.1.2.2.2.1 (hE.2.1 _ hm) hd (k p l e R s m args below meth c D aC ρ H locs ls B ce sl Qc hB hQ0 hR0 X hf hl hW hS hE hv)
theorem w_ldcwS {M : MI} {d : Nat} {dm : Nat × Nat} {G : Nat → Nat → Value} {pc : Nat} {L : List (Option Value)} {S : List Value} {A : AH} {K : Option Value → AH → Prop} {i j : Nat} {tx : String} (q : Nat) (hd : decode M.2.1 pc = .ok (.ldc_w i, 3)) (hq : pc + 3 = q) (hm : (M.1, i, tx, j) ∈ strTab) (k : WP M d dm G q L (.ref (1000 + j) :: S) A K) : WP M d dm G pc L S A K := by
  subst hq
  intro p l e R s m args below meth c D aC ρ H locs ls B ce sl Qc hB hQ0 hR0 X hf hl hW hS hE hv
  intro T hT X9
  obtain ⟨t, a1, b1⟩ := (k p l e R s m args below meth c D aC ρ H locs ls B ce sl Qc hB hQ0 hR0 X hf hl hW hS hE hv) T hT X9
  exact ⟨t, ldcwStr X9 X.1.1 X.1.2.2.2.1 (hE.2.1 _ hm).1 (hE.2.1 _ hm).2 (g := F0 m pc ls (S.map (cv ρ))) rfl (by rw [X.1.2.1]; exact hd) t a1, b1⟩
theorem w_gets {M : MI} {d : Nat} {dm : Nat × Nat} {G : Nat → Nat → Value} {pc : Nat} {L : List (Option Value)} {S : List Value} {A : AH} {K : Option Value → AH → Prop} {i : Nat} {C n ds : String} {v : Value} (q : Nat) (hd : decode M.2.1 pc = .ok (.getstatic i, 3)) (hq : pc + 3 = q) (hl0 : Cond.fieldLink M.1 i C n ds ∈ TW) (hz : ∀ (B : Nat → Prop) (ρ : Nat → Nat) (s : State), EX B ρ s s.heap → va_Z C n ds (cv ρ v) B s s.heap) (k : WP M d dm G q L (v :: S) A K) : WP M d dm G pc L S A K := by
  subst hq
  intro p l e R s m args below meth c D aC ρ H locs ls B ce sl Qc hB hQ0 hR0 X hf hl hW hS hE hv
  exact va_gets X.1.1 X.1.2.1 (hz B ρ s hE) hS X.1.2.2.2.1 (X.1.2.2.2.2 _ hl0) (fun _ h => h) hd (k p l e R s m args below meth c D aC ρ H locs ls B ce sl Qc hB hQ0 hR0 X hf hl hW hS hE hv)
theorem w_gets2 {M : MI} {d : Nat} {dm : Nat × Nat} {G : Nat → Nat → Value} {pc : Nat} {L : List (Option Value)} {S : List Value} {A : AH} {K : Option Value → AH → Prop} {i : Nat} {C n ds : String} {v1 v2 : Value} (q : Nat) (hd : decode M.2.1 pc = .ok (.getstatic i, 3)) (hq : pc + 3 = q) (hl0 : Cond.fieldLink M.1 i C n ds ∈ TW) (hz : ∀ (B : Nat → Prop) (ρ : Nat → Nat) (s : State), EX B ρ s s.heap → va_Z C n ds (cv ρ v1) B s s.heap ∨ va_Z C n ds (cv ρ v2) B s s.heap) (k1 : WP M d dm G q L (v1 :: S) A K) (k2 : WP M d dm G q L (v2 :: S) A K) : WP M d dm G pc L S A K := by
  subst hq
  intro p l e R s m args below meth c D aC ρ H locs ls B ce sl Qc hB hQ0 hR0 X hf hl hW hS hE hv
  rcases hz B ρ s hE with z | z
  · exact va_gets X.1.1 X.1.2.1 z hS X.1.2.2.2.1 (X.1.2.2.2.2 _ hl0) (fun _ h => h) hd (k1 p l e R s m args below meth c D aC ρ H locs ls B ce sl Qc hB hQ0 hR0 X hf hl hW hS hE hv)
  · exact va_gets X.1.1 X.1.2.1 z hS X.1.2.2.2.1 (X.1.2.2.2.2 _ hl0) (fun _ h => h) hd (k2 p l e R s m args below meth c D aC ρ H locs ls B ce sl Qc hB hQ0 hR0 X hf hl hW hS hE hv)
theorem w_getsN {M : MI} {d : Nat} {dm : Nat × Nat} {G : Nat → Nat → Value} {pc : Nat} {L : List (Option Value)} {S : List Value} {A : AH} {K : Option Value → AH → Prop} {i : Nat} {C n ds host : String} {v : Value} (q : Nat) (hd : decode M.2.1 pc = .ok (.getstatic i, 3)) (hq : pc + 3 = q) (hl0 : Cond.fieldLinkNest M.1 i C n ds host ∈ lw_tbl) (hz : ∀ (B : Nat → Prop) (ρ : Nat → Nat) (s : State), EX B ρ s s.heap → va_Z C n ds (cv ρ v) B s s.heap) (k : WP M d dm G q L (v :: S) A K) : WP M d dm G pc L S A K := by
  subst hq
  intro p l e R s m args below meth c D aC ρ H locs ls B ce sl Qc hB hQ0 hR0 X hf hl hW hS hE hv
  exact va_getsN X.1.1 X.1.2.1 (hz B ρ s hE) hS X.1.2.2.2.1 (va_Nw.use rfl (hE.1 _ hl0 rfl)) (fun _ h => h) hd (k p l e R s m args below meth c D aC ρ H locs ls B ce sl Qc hB hQ0 hR0 X hf hl hW hS hE hv)
theorem w_sfld {M : MI} {d : Nat} {dm : Nat × Nat} {G : Nat → Nat → Value} {pc : Nat} {L : List (Option Value)} {S : List Value} {A : AH} {K : Option Value → AH → Prop} {i o : Nat} {n ds : String} {v : Value} (q : Nat) (hd : decode M.2.1 pc = .ok (.getfield i, 3)) (hq : pc + 3 = q) (hl0 : Cond.fieldLink M.1 i "java/lang/String" n ds ∈ TW) (hz : ∀ (B : Nat → Prop) (ρ : Nat → Nat) (s : State), EX B ρ s s.heap → va_OF "java/lang/String" n ds (cv ρ v) (ρ o) B s s.heap) (k : WP M d dm G q L (v :: S) A K) : WP M d dm G pc L (.ref o :: S) A K := by
  subst hq
  intro p l e R s m args below meth c D aC ρ H locs ls B ce sl Qc hB hQ0 hR0 X hf hl hW hS hE hv
  exact vk_getf X.1.1 X.1.2.1 (hz B ρ s hE) hS X.1.2.2.2.1 (X.1.2.2.2.2 _ hl0) (fun _ h => h) hd (k p l e R s m args below meth c D aC ρ H locs ls B ce sl Qc hB hQ0 hR0 X hf hl hW hS hE hv)
theorem w_tlen {M : MI} {d : Nat} {dm : Nat × Nat} {G : Nat → Nat → Value} {pc : Nat} {L : List (Option Value)} {S : List Value} {A : AH} {K : Option Value → AH → Prop} {o N : Nat} {ty : FieldType} {f : Nat → Value} (q : Nat) (hd : decode M.2.1 pc = .ok (.arraylength, 1)) (hq : pc + 1 = q) (hz : ∀ (B : Nat → Prop) (ρ : Nat → Nat) (s : State), EX B ρ s s.heap → va_T ty (ρ o) N f B s s.heap) (k : WP M d dm G q L (.int (nI N) :: S) A K) : WP M d dm G pc L (.ref o :: S) A K := by
  subst hq
  intro p l e R s m args below meth c D aC ρ H locs ls B ce sl Qc hB hQ0 hR0 X hf hl hW hS hE hv
  exact va_tlen X.1.1 X.1.2.1 (hz B ρ s hE) hS rfl hd (k p l e R s m args below meth c D aC ρ H locs ls B ce sl Qc hB hQ0 hR0 X hf hl hW hS hE hv)
theorem w_tb {M : MI} {d : Nat} {dm : Nat × Nat} {G : Nat → Nat → Value} {pc : Nat} {L : List (Option Value)} {S : List Value} {A : AH} {K : Option Value → AH → Prop} {o N i : Nat} {f : Nat → Int32} (q : Nat) (hd : decode M.2.1 pc = .ok (.baload, 1)) (hq : pc + 1 = q) (hz : ∀ (B : Nat → Prop) (ρ : Nat → Nat) (s : State), EX B ρ s s.heap → va_T .byte (ρ o) N (fun j => .int (f j)) B s s.heap) (hi : i < N) (hN : N < 2 ^ 31) (k : WP M d dm G q L (.int (f i) :: S) A K) : WP M d dm G pc L (.int (nI i) :: .ref o :: S) A K := by
  subst hq
  intro p l e R s m args below meth c D aC ρ H locs ls B ce sl Qc hB hQ0 hR0 X hf hl hW hS hE hv
  exact va_tb X.1.1 X.1.2.1 (hz B ρ s hE) hS (vin hi hN) (by rw [nI_k (Nat.lt_trans hi hN)]; rfl) hd (k p l e R s m args below meth c D aC ρ H locs ls B ce sl Qc hB hQ0 hR0 X hf hl hW hS hE hv)
theorem w_ti {M : MI} {d : Nat} {dm : Nat × Nat} {G : Nat → Nat → Value} {pc : Nat} {L : List (Option Value)} {S : List Value} {A : AH} {K : Option Value → AH → Prop} {o N i : Nat} {v : Int32} {f : Nat → Value} (q : Nat) (hd : decode M.2.1 pc = .ok (.iaload, 1)) (hq : pc + 1 = q) (hz : ∀ (B : Nat → Prop) (ρ : Nat → Nat) (s : State), EX B ρ s s.heap → va_T .int (ρ o) N f B s s.heap) (hi : i < N) (hN : N < 2 ^ 31) (hv0 : f i = .int v) (k : WP M d dm G q L (.int v :: S) A K) : WP M d dm G pc L (.int (nI i) :: .ref o :: S) A K := by
  subst hq
  intro p l e R s m args below meth c D aC ρ H locs ls B ce sl Qc hB hQ0 hR0 X hf hl hW hS hE hv
  exact va_ti X.1.1 X.1.2.1 (hz B ρ s hE) hS (vin hi hN) (by rw [nI_k (Nat.lt_trans hi hN), hv0]; rfl) hd (k p l e R s m args below meth c D aC ρ H locs ls B ce sl Qc hB hQ0 hR0 X hf hl hW hS hE hv)
/-- a method of String, as the tables link it -/
def MLs (own : String) (index : Nat) (y : MethodName) (M' : MI) (n : Nat) : Prop := Cond.methodLink own index y ∈ TW ∧ Cond.instanceMethod y ∈ TW ∧ Cond.selects "java/lang/String" y y ∈ TW ∧ Cond.initialized "java/lang/String" ∈ TW ∧ Cond.code y M'.2.1 M'.2.2.1 M'.2.2.2 ∈ TW ∧ (y.cls = "java/lang/String" ∧ y.cls ≠ "java/lang/invoke/MethodHandle" ∧ y.cls ≠ "java/lang/invoke/VarHandle" ∧ (parseMethodDescriptor y.desc).map (fun d => d.parameters.length) = some n) ∧ M'.2.2.1 ≤ 19
theorem w_invS {M : MI} {d d' : Nat} {dm : Nat × Nat} {G : Nat → Nat → Value} {pc : Nat} {L : List (Option Value)} {As rest : List Value} {A : AH} {K : Option Value → AH → Prop} {y : MethodName} {M' : MI} {n index : Nat} (q : Nat) {j : Nat} (hd : decode M.2.1 pc = .ok (.invokevirtual index, 3)) (hq : pc + 3 = q) (hm : MLs M.1 index y M' n) (hj : j < 19) (hn : As.length = n) (hdd : d' + 1 ≤ d) (hst : (rest.map (fun v => v.category)).sum ≤ 8) (hc : Ct y M' d' dm G (.ref (1000 + j) :: As) A (fun v A' => WP M d dm G q L (ov v rest) A' K)) : WP M d dm G pc L (As.reverse ++ .ref (1000 + j) :: rest) A K := by
  subst hq
  intro p l e R s m args below meth c D aC ρ H locs ls B ce sl Qc hB hQ0 hR0 X hf hl hW hS hE hv
  obtain ⟨m1, m2, m3, m4, m5, m6, m7⟩ := hm
  have hG : GoodIn TW (wsV M.1 index "java/lang/String" y (.code y M'.2.1 M'.2.2.1 M'.2.2.2 :: TW)) := by
    intro w hw
    unfold wsV at hw
    rcases List.mem_append.mp hw with hw | hw
    · simp only [List.mem_cons, List.not_mem_nil, or_false] at hw
      rcases hw with rfl | rfl | rfl | rfl
      · exact TW_g m1
      · exact TW_g m2
      · exact TW_g m3
      · exact TW_g m4
    · exact TW_cons m5 w hw
  have hrun := va_runV (meth := meth) (locs := locs) (H := H) (below := below) (e := e) (cells := ce) (slots := sl) (g := F0 m pc ls ((As.reverse ++ .ref (1000 + j) :: rest).map (cv ρ))) (rest := rest.map (cv ρ)) (As := As.map (cv ρ)) (b := ρ (1000 + j)) X.1 (hc l D aC ρ) (cwV (R := R) n X.1.2.2.2.2 hG rfl rfl rfl m6 ⟨by show d' + 1 ≤ _; omega, by show 8 + (M'.2.2.1 + 11) + 38 * d' ≤ _; omega⟩) ⟨fb_QK, va_Orecv (hE.2.2.1 j hj).1 hS, fun U hU hWm => ⟨by simp [cv], by rw [hU]; exact hW.moved hWm.alike, (hE.at hS hU hWm).narrow hB⟩⟩ rfl (by simpa using hn) hv.1 (by simp [List.map_append, List.map_reverse, cv]) (lv_room (cat_le rest hst)) hd hR0
  exact run_k hB hrun hS (fun v A1 H1 locs1 hk hW1 hS1 => hk p l e R s m args below meth c D aC ρ H1 locs1 ls B ce sl Qc hB hQ0 hR0 X hf hl hW1 hS1 hE hv)
theorem w_invS0 {M : MI} {d d' : Nat} {dm : Nat × Nat} {G : Nat → Nat → Value} {pc : Nat} {L : List (Option Value)} {S : List Value} {A : AH} {K : Option Value → AH → Prop} {y : MethodName} {M' : MI} {index j : Nat} (q : Nat) (hd : decode M.2.1 pc = .ok (.invokevirtual index, 3)) (hq : pc + 3 = q) (hm : MLs M.1 index y M' 0) (hj : j < 19) (hdd : d' + 1 ≤ d) (hst : (S.map (fun v => v.category)).sum ≤ 8) (hc : Ct y M' d' dm G (.ref (1000 + j) :: []) A (fun v A' => WP M d dm G q L (ov v S) A' K)) : WP M d dm G pc L (.ref (1000 + j) :: S) A K := w_invS (As := []) q hd hq hm hj rfl hdd hst hc
theorem w_invS1 {M : MI} {d d' : Nat} {dm : Nat × Nat} {G : Nat → Nat → Value} {pc : Nat} {L : List (Option Value)} {S : List Value} {A : AH} {K : Option Value → AH → Prop} {y : MethodName} {M' : MI} {index j : Nat} {x0 : Value} (q : Nat) (hd : decode M.2.1 pc = .ok (.invokevirtual index, 3)) (hq : pc + 3 = q) (hm : MLs M.1 index y M' 1) (hj : j < 19) (hdd : d' + 1 ≤ d) (hst : (S.map (fun v => v.category)).sum ≤ 8) (hc : Ct y M' d' dm G (.ref (1000 + j) :: [x0]) A (fun v A' => WP M d dm G q L (ov v S) A' K)) : WP M d dm G pc L (x0 :: .ref (1000 + j) :: S) A K := w_invS (As := [x0]) q hd hq hm hj rfl hdd hst hc
theorem ex_byt {j : Nat} (hj : j < 19) (B : Nat → Prop) (ρ : Nat → Nat) (s : State) (h : EX B ρ s s.heap) : va_T .byte (ρ (1100 + j)) (strLen.getD j 0) (fun i => .int ((strByt.getD j []).getD i 0)) B s s.heap := (h.2.2.1 j hj).2.2.2
theorem ex_val {j : Nat} (hj : j < 19) (B : Nat → Prop) (ρ : Nat → Nat) (s : State) (h : EX B ρ s s.heap) : va_OF "java/lang/String" "value" "[B" (cv ρ (.ref (1100 + j))) (ρ (1000 + j)) B s s.heap := (h.2.2.1 j hj).2.2.1
theorem ex_cod {j : Nat} (hj : j < 19) (B : Nat → Prop) (ρ : Nat → Nat) (s : State) (h : EX B ρ s s.heap) : va_OF "java/lang/String" "coder" "B" (cv ρ (.int 0)) (ρ (1000 + j)) B s s.heap := (h.2.2.1 j hj).2.1
theorem ex_cs (B : Nat → Prop) (ρ : Nat → Nat) (s : State) (h : EX B ρ s s.heap) : va_Z "java/lang/String" "COMPACT_STRINGS" "Z" (cv ρ (.int 1)) B s s.heap := h.2.2.2.2.2.1
theorem ex_fm (B : Nat → Prop) (ρ : Nat → Nat) (s : State) (h : EX B ρ s s.heap) : va_Z "jdk/internal/util/Preconditions" "SIOOBE_FORMATTER" "Ljava/util/function/BiFunction;" (cv ρ .null) B s s.heap ∨ va_Z "jdk/internal/util/Preconditions" "SIOOBE_FORMATTER" "Ljava/util/function/BiFunction;" (cv ρ (.ref 1201)) B s s.heap := h.2.2.2.2.2.2
theorem ex_room (B : Nat → Prop) (ρ : Nat → Nat) (s : State) (h : EX B ρ s s.heap) : va_Z "PromiseWeb" "ROOM" "[I" (cv ρ (.ref 1200)) B s s.heap := h.2.2.2.1
theorem ex_roomT (B : Nat → Prop) (ρ : Nat → Nat) (s : State) (h : EX B ρ s s.heap) : va_T .int (ρ 1200) 8 roomF B s s.heap := h.2.2.2.2.1
/-! the texts' letters -/
def sN (j i : Nat) : Nat := ((strByt.getD j []).getD i 0).toInt.toNat
theorem sN_ok : ∀ j, j < 19 → ∀ i, i < strLen.getD j 0 → (97 ≤ sN j i ∧ sN j i ≤ 122) ∧ (((strByt.getD j []).getD i 0 &&& nI 255).toUInt32 % 65536).toInt32 = nI (sN j i) := by decide +kernel
theorem sLen_ok : ∀ j, j < 19 → 1 ≤ strLen.getD j 0 ∧ strLen.getD j 0 ≤ 8 := by decide +kernel
theorem narC : ∀ n, n < 128 → narrow .char (.int (nI n)) = .int (nI n) := by decide +kernel
def scode (j : Nat) : Nat := lc (sN j) 0 (strLen.getD j 0)
theorem wdF_ltn {f : Nat → Nat} {b q : Nat} : ∀ {k : Nat}, (∀ j, j < k → f (q + j) < b) → wdF f b q k < b ^ k
  | 0, _ => by simp [wdF]
  | k + 1, hf => by
    have ih := wdF_ltn (k := k) (fun j hj => hf j (by omega))
    have h2 := hf k (by omega)
    simp only [wdF, Nat.pow_succ]
    have h3 : (wdF f b q k + 1) * b ≤ b ^ k * b := Nat.mul_le_mul_right b ih
    rw [Nat.add_mul] at h3
    omega
theorem scode_lt : ∀ j, j < 19 → scode j < 2 ^ 40 := by decide +kernel
theorem scode_inj : ∀ i, i < 19 → ∀ j, j < 19 → scode i = scode j → i = j := by decide +kernel
theorem msJ0_335 : MLs RJ0 335 yJ0_coder_7d493 mJ0_coder_7d493 0 := ⟨TW_at 495 (by decide +kernel) (by decide +kernel), TW_at 496 (by decide +kernel) (by decide +kernel), TW_at 497 (by decide +kernel) (by decide +kernel), TW_at 126 (by decide +kernel) (by decide +kernel), TW_at 498 (by decide +kernel) (by decide +kernel), by decide +kernel, by decide⟩
theorem msJ0_492 : MLs RJ0 492 yJ0_isLatin1_aae02 mJ0_isLatin1_aae02 0 := ⟨TW_at 505 (by decide +kernel) (by decide +kernel), TW_at 506 (by decide +kernel) (by decide +kernel), TW_at 507 (by decide +kernel) (by decide +kernel), TW_at 126 (by decide +kernel) (by decide +kernel), TW_at 508 (by decide +kernel) (by decide +kernel), by decide +kernel, by decide⟩
theorem msX9_42 : MLs RX9 42 yJ0_length_8abf5 mJ0_length_8abf5 0 := ⟨TW_at 491 (by decide +kernel) (by decide +kernel), TW_at 492 (by decide +kernel) (by decide +kernel), TW_at 493 (by decide +kernel) (by decide +kernel), TW_at 126 (by decide +kernel) (by decide +kernel), TW_at 494 (by decide +kernel) (by decide +kernel), by decide +kernel, by decide⟩
theorem msX9_48 : MLs RX9 48 yJ0_charAt_5068e mJ0_charAt_5068e 1 := ⟨TW_at 501 (by decide +kernel) (by decide +kernel), TW_at 502 (by decide +kernel) (by decide +kernel), TW_at 503 (by decide +kernel) (by decide +kernel), TW_at 126 (by decide +kernel) (by decide +kernel), TW_at 504 (by decide +kernel) (by decide +kernel), by decide +kernel, by decide⟩
theorem msX13_66 : MLs RX13 66 yJ0_length_8abf5 mJ0_length_8abf5 0 := ⟨TW_at 1597 (by decide +kernel) (by decide +kernel), TW_at 492 (by decide +kernel) (by decide +kernel), TW_at 493 (by decide +kernel) (by decide +kernel), TW_at 126 (by decide +kernel) (by decide +kernel), TW_at 494 (by decide +kernel) (by decide +kernel), by decide +kernel, by decide⟩
theorem msX13_74 : MLs RX13 74 yJ0_charAt_5068e mJ0_charAt_5068e 1 := ⟨TW_at 1598 (by decide +kernel) (by decide +kernel), TW_at 502 (by decide +kernel) (by decide +kernel), TW_at 503 (by decide +kernel) (by decide +kernel), TW_at 126 (by decide +kernel) (by decide +kernel), TW_at 504 (by decide +kernel) (by decide +kernel), by decide +kernel, by decide⟩
theorem flJ0_9 : Cond.fieldLink RJ0 9 "java/lang/String" "value" "[B" ∈ TW := TW_at 2143 (by decide +kernel) (by decide +kernel)
theorem flJ0_15 : Cond.fieldLink RJ0 15 "java/lang/String" "coder" "B" ∈ TW := TW_at 2144 (by decide +kernel) (by decide +kernel)
theorem flJ0_38 : Cond.fieldLink RJ0 38 "java/lang/String" "COMPACT_STRINGS" "Z" ∈ TW := TW_at 499 (by decide +kernel) (by decide +kernel)
theorem flJ0_1053 : Cond.fieldLink RJ0 1053 "jdk/internal/util/Preconditions" "SIOOBE_FORMATTER" "Ljava/util/function/BiFunction;" ∈ TW := TW_at 515 (by decide +kernel) (by decide +kernel)
theorem flX5_79 : Cond.fieldLinkNest RX5 79 "PromiseWeb" "ROOM" "[I" "PromiseWeb" ∈ lw_tbl := List.mem_of_getElem? (i := 546) (by decide +kernel)
theorem c_J0_coder {K : Option Value → AH → Prop} {dm : Nat × Nat} {G : Nat → Nat → Value} {A : AH} {j : Nat} (hj : j < 19) (h : K (some (.int 0)) A) : Ct yJ0_coder_7d493 mJ0_coder_7d493 0 dm G [.ref (1000 + j)] A K := by
  refine Ct.of [some (.ref (1000 + j))] rfl rfl rfl (Nat.le_of_ble_eq_true rfl) ?_
  refine w_gets 3 dJ0_coder_7d493_0 rfl flJ0_38 ex_cs ?_
  refine w_ifeq 13 6 dJ0_coder_7d493_3 rfl rfl (fun c => absurd c (by decide)) (fun _ => ?_)
  refine w_aload_n 7 dJ0_coder_7d493_6 rfl rfl ?_
  refine w_sfld 10 dJ0_coder_7d493_7 rfl flJ0_15 (ex_cod hj) ?_
  refine w_goto 14 dJ0_coder_7d493_10 rfl ?_
  exact wr_z dJ0_coder_7d493_14 rfl rfl h
theorem c_J0_isLatin1 {K : Option Value → AH → Prop} {dm : Nat × Nat} {G : Nat → Nat → Value} {A : AH} {j : Nat} (hj : j < 19) (h : K (some (.int 1)) A) : Ct yJ0_isLatin1_aae02 mJ0_isLatin1_aae02 0 dm G [.ref (1000 + j)] A K := by
  refine Ct.of [some (.ref (1000 + j))] rfl rfl rfl (Nat.le_of_ble_eq_true rfl) ?_
  refine w_gets 3 dJ0_isLatin1_aae02_0 rfl flJ0_38 ex_cs ?_
  refine w_ifeq 17 6 dJ0_isLatin1_aae02_3 rfl rfl (fun c => absurd c (by decide)) (fun _ => ?_)
  refine w_aload_n 7 dJ0_isLatin1_aae02_6 rfl rfl ?_
  refine w_sfld 10 dJ0_isLatin1_aae02_7 rfl flJ0_15 (ex_cod hj) ?_
  refine w_ifne 17 13 dJ0_isLatin1_aae02_10 rfl rfl (fun c => absurd rfl c) (fun _ => ?_)
  refine w_iconst 14 dJ0_isLatin1_aae02_13 rfl (v := 1) rfl ?_
  refine w_goto 18 dJ0_isLatin1_aae02_14 rfl ?_
  exact wr_z dJ0_isLatin1_aae02_18 rfl rfl h
theorem c_J0_length {K : Option Value → AH → Prop} {dm : Nat × Nat} {G : Nat → Nat → Value} {A : AH} {j : Nat} (hj : j < 19) (h : K (some (.int (nI (strLen.getD j 0)))) A) : Ct yJ0_length_8abf5 mJ0_length_8abf5 1 dm G [.ref (1000 + j)] A K := by
  refine Ct.of [some (.ref (1000 + j))] rfl rfl rfl (Nat.le_of_ble_eq_true rfl) ?_
  refine w_aload_n 1 dJ0_length_8abf5_0 rfl rfl ?_
  refine w_sfld 4 dJ0_length_8abf5_1 rfl flJ0_9 (ex_val hj) ?_
  refine w_tlen 5 dJ0_length_8abf5_4 rfl (ex_byt hj) ?_
  refine w_aload_n 6 dJ0_length_8abf5_5 rfl rfl ?_
  refine w_invS0 9 dJ0_length_8abf5_6 rfl msJ0_335 hj (d' := 0) (by decide) (Nat.le_of_ble_eq_true rfl) (c_J0_coder hj ?_)
  refine w_ishr 10 dJ0_length_8abf5_9 rfl ?_
  refine wr_i dJ0_length_8abf5_10 rfl (kq h ?_)
  have h1 := sLen_ok j hj
  have h2 := pk_shrN (n := strLen.getD j 0) (by omega) ((0 : Int32) &&& 31) 0 (by decide)
  rw [Nat.pow_zero, Nat.div_one] at h2
  exact h2
theorem c_J3_checkIndex {K : Option Value → AH → Prop} {dm : Nat × Nat} {G : Nat → Nat → Value} {A : AH} {k n : Nat} {r : Value} (hk : k < n) (hn : n < 2 ^ 31) (h : K (some (.int (nI k))) A) : Ct yJ3_checkIndex_8e157 mJ3_checkIndex_8e157 0 dm G [.int (nI k), .int (nI n), .ref 1201] A K := by
  refine Ct.of [some (.int (nI k)), some (.int (nI n)), some (.ref 1201)] rfl rfl rfl (Nat.le_of_ble_eq_true rfl) ?_
  refine w_iload_n 1 dJ3_checkIndex_8e157_0 rfl rfl ?_
  refine w_ifltN 9 4 dJ3_checkIndex_8e157_1 rfl rfl (by omega) ?_
  refine w_iload_n 5 dJ3_checkIndex_8e157_4 rfl rfl ?_
  refine w_iload_n 6 dJ3_checkIndex_8e157_5 rfl rfl ?_
  refine w_icltN 16 9 dJ3_checkIndex_8e157_6 rfl rfl (by omega) (by omega) (fun _ => ?_) (fun c => absurd hk (by omega))
  refine w_iload_n 17 dJ3_checkIndex_8e157_16 rfl rfl ?_
  exact wr_i dJ3_checkIndex_8e157_17 rfl h
theorem c_J3_checkIndexN {K : Option Value → AH → Prop} {dm : Nat × Nat} {G : Nat → Nat → Value} {A : AH} {k n : Nat} {r : Value} (hk : k < n) (hn : n < 2 ^ 31) (h : K (some (.int (nI k))) A) : Ct yJ3_checkIndex_8e157 mJ3_checkIndex_8e157 0 dm G [.int (nI k), .int (nI n), .null] A K := by
  refine Ct.of [some (.int (nI k)), some (.int (nI n)), some (.null)] rfl rfl rfl (Nat.le_of_ble_eq_true rfl) ?_
  refine w_iload_n 1 dJ3_checkIndex_8e157_0 rfl rfl ?_
  refine w_ifltN 9 4 dJ3_checkIndex_8e157_1 rfl rfl (by omega) ?_
  refine w_iload_n 5 dJ3_checkIndex_8e157_4 rfl rfl ?_
  refine w_iload_n 6 dJ3_checkIndex_8e157_5 rfl rfl ?_
  refine w_icltN 16 9 dJ3_checkIndex_8e157_6 rfl rfl (by omega) (by omega) (fun _ => ?_) (fun c => absurd hk (by omega))
  refine w_iload_n 17 dJ3_checkIndex_8e157_16 rfl rfl ?_
  exact wr_i dJ3_checkIndex_8e157_17 rfl h
theorem c_J0_checkIndex {K : Option Value → AH → Prop} {dm : Nat × Nat} {G : Nat → Nat → Value} {A : AH} {k n : Nat} (hk : k < n) (hn : n < 2 ^ 31) (h : K none A) : Ct yJ0_checkIndex_df160 mJ0_checkIndex_df160 1 dm G [.int (nI k), .int (nI n)] A K := by
  refine Ct.of [some (.int (nI k)), some (.int (nI n))] rfl rfl rfl (Nat.le_of_ble_eq_true rfl) ?_
  refine w_iload_n 1 dJ0_checkIndex_df160_0 rfl rfl ?_
  refine w_iload_n 2 dJ0_checkIndex_df160_1 rfl rfl ?_
  refine w_gets2 5 dJ0_checkIndex_df160_2 rfl flJ0_1053 ex_fm ?_ ?_
  · refine w_invs3 8 dJ0_checkIndex_df160_5 rfl slJ0_1059 (d' := 0) (by decide) (Nat.le_of_ble_eq_true rfl) (c_J3_checkIndexN (r := .null) hk hn ?_)
    refine w_pop 9 dJ0_checkIndex_df160_8 rfl ?_
    exact wr_v dJ0_checkIndex_df160_9 rfl h
  · refine w_invs3 8 dJ0_checkIndex_df160_5 rfl slJ0_1059 (d' := 0) (by decide) (Nat.le_of_ble_eq_true rfl) (c_J3_checkIndex (r := .null) hk hn ?_)
    refine w_pop 9 dJ0_checkIndex_df160_8 rfl ?_
    exact wr_v dJ0_checkIndex_df160_9 rfl h
theorem c_J1_charAt {K : Option Value → AH → Prop} {dm : Nat × Nat} {G : Nat → Nat → Value} {A : AH} {j k : Nat} (hj : j < 19) (hk : k < strLen.getD j 0) (h : K (some (.int (nI (sN j k)))) A) : Ct yJ1_charAt_3b067 mJ1_charAt_3b067 2 dm G [.ref (1100 + j), .int (nI k)] A K := by
  have h1 := sLen_ok j hj
  obtain ⟨h2, h3⟩ := sN_ok j hj k hk
  refine Ct.of [some (.ref (1100 + j)), some (.int (nI k))] rfl rfl rfl (Nat.le_of_ble_eq_true rfl) ?_
  refine w_iload_n 1 dJ1_charAt_3b067_0 rfl rfl ?_
  refine w_aload_n 2 dJ1_charAt_3b067_1 rfl rfl ?_
  refine w_tlen 3 dJ1_charAt_3b067_2 rfl (ex_byt hj) ?_
  refine w_invs2 6 dJ1_charAt_3b067_3 rfl slJ1_9 (d' := 1) (by decide) (Nat.le_of_ble_eq_true rfl) (c_J0_checkIndex hk (by omega) ?_)
  refine w_aload_n 7 dJ1_charAt_3b067_6 rfl rfl ?_
  refine w_iload_n 8 dJ1_charAt_3b067_7 rfl rfl ?_
  refine w_tb 9 dJ1_charAt_3b067_8 rfl (ex_byt hj) hk (by omega) ?_
  refine w_sipush 12 dJ1_charAt_3b067_9 rfl (v := nI 255) rfl ?_
  refine w_iand 13 dJ1_charAt_3b067_12 rfl ?_
  refine w_i2c 14 dJ1_charAt_3b067_13 rfl ?_
  refine w_top h3 ?_
  exact wr_z dJ1_charAt_3b067_14 rfl (narC _ (by omega)) h
theorem c_J0_charAt {K : Option Value → AH → Prop} {dm : Nat × Nat} {G : Nat → Nat → Value} {A : AH} {j k : Nat} (hj : j < 19) (hk : k < strLen.getD j 0) (h : K (some (.int (nI (sN j k)))) A) : Ct yJ0_charAt_5068e mJ0_charAt_5068e 3 dm G [.ref (1000 + j), .int (nI k)] A K := by
  obtain ⟨h2, h3⟩ := sN_ok j hj k hk
  refine Ct.of [some (.ref (1000 + j)), some (.int (nI k))] rfl rfl rfl (Nat.le_of_ble_eq_true rfl) ?_
  refine w_aload_n 1 dJ0_charAt_5068e_0 rfl rfl ?_
  refine w_invS0 4 dJ0_charAt_5068e_1 rfl msJ0_492 hj (d' := 0) (by decide) (Nat.le_of_ble_eq_true rfl) (c_J0_isLatin1 hj ?_)
  refine w_ifeq 16 7 dJ0_charAt_5068e_4 rfl rfl (fun c => absurd c (by decide)) (fun _ => ?_)
  refine w_aload_n 8 dJ0_charAt_5068e_7 rfl rfl ?_
  refine w_sfld 11 dJ0_charAt_5068e_8 rfl flJ0_9 (ex_val hj) ?_
  refine w_iload_n 12 dJ0_charAt_5068e_11 rfl rfl ?_
  refine w_invs2 15 dJ0_charAt_5068e_12 rfl slJ0_495 (d' := 2) (by decide) (Nat.le_of_ble_eq_true rfl) (c_J1_charAt hj hk ?_)
  exact wr_z dJ0_charAt_5068e_15 rfl (narC _ (by omega)) h
set_option maxRecDepth 4000 in
theorem c_X9_isWord {K : Option Value → AH → Prop} {A : AH} {j kk cc : Nat} (hj : j < 19) (hk : A.1 7 4 = nI kk) (hk4 : kk ≤ 4) (hc : kk = 1 → A.2 7 6 = lN cc) (hcl : kk = 1 → cc < 2 ^ 40) (h : K (some (.int (b2i (decide (kk = 1 ∧ cc = scode j))))) A) : Ct yX9_isWord mX9_isWord 4 dC gC [.ref 7, .ref (1000 + j)] A K := by
  refine Ct.of [some (.ref 7), some (.ref (1000 + j)), none, none, none] rfl rfl rfl (Nat.le_of_ble_eq_true rfl) ?_
  obtain ⟨l1, l8⟩ := sLen_ok j hj
  have hsl := scode_lt j hj
  have lp5 : ∀ (nf : Nat) (i : Nat), i ≤ strLen.getD j 0 → strLen.getD j 0 - i < nf → WP mX9_isWord 4 dC gC 5 [some (.ref 7), some (.ref (1000 + j)), some (.long (lN (lc (sN j) 0 i))), none, some (.int (nI i))] [] A K := by
    intro nf
    induction nf with
    | zero => intros; omega
    | succ nf ih =>
      intro i hi hms
      refine w_iload 7 dX9_isWord_5 rfl rfl ?_
      refine w_aload_n 8 dX9_isWord_7 rfl rfl ?_
      refine w_invS0 11 dX9_isWord_8 rfl msX9_42 hj (d' := 1) (by decide) (Nat.le_of_ble_eq_true rfl) (c_J0_length hj ?_)
      refine w_icgeN 37 14 dX9_isWord_11 rfl rfl (by omega) (by omega) (fun c11 => ?_) (fun c11 => ?_)
      · skip
        have e1 : i = strLen.getD j 0 := by omega
        subst e1
        refine w_aload_n 38 dX9_isWord_37 rfl rfl ?_
        refine w_getiv 41 dX9_isWord_38 rfl faX9_26 rfl rfl rfl hk ?_
        refine w_iconst 42 dX9_isWord_41 rfl (v := nI 1) rfl ?_
        refine w_icneN 58 45 dX9_isWord_42 rfl rfl (by omega) (by omega) (fun c42 => ?_) (fun c42 => ?_)
        · skip
          refine w_iconst 59 dX9_isWord_58 rfl (v := nI 0) rfl ?_
          refine wr_z dX9_isWord_59 rfl (by first | rfl | exact nb_b2i _) ?_
          exact kq h (by rw [decide_eq_false (fun z => c42 z.1)]; rfl)
        · skip
          refine w_aload_n 46 dX9_isWord_45 rfl rfl ?_
          refine w_getjv 49 dX9_isWord_46 rfl faX9_35 rfl rfl rfl (hc c42) ?_
          refine w_lload_n 50 dX9_isWord_49 rfl rfl ?_
          refine w_lcmp 51 dX9_isWord_50 rfl ?_
          refine w_ifneL 58 54 dX9_isWord_51 rfl rfl (show cc < 2 ^ 63 by have := hcl c42; omega) (show scode j < 2 ^ 63 by omega) (fun c51 => ?_) (fun c51 => ?_)
          · skip
            refine w_iconst 59 dX9_isWord_58 rfl (v := nI 0) rfl ?_
            refine wr_z dX9_isWord_59 rfl (by first | rfl | exact nb_b2i _) ?_
            exact kq h (by rw [decide_eq_false (fun z => c51 z.2)]; rfl)
          · skip
            refine w_iconst 55 dX9_isWord_54 rfl (v := nI 1) rfl ?_
            refine w_goto 59 dX9_isWord_55 rfl ?_
            refine wr_z dX9_isWord_59 rfl (by first | rfl | exact nb_b2i _) ?_
            exact kq h (by rw [decide_eq_true ⟨c42, c51⟩]; rfl)
      · skip
        refine w_lload_n 15 dX9_isWord_14 rfl rfl ?_
        refine w_iconst 16 dX9_isWord_15 rfl (v := nI 5) rfl ?_
        refine w_lshl 17 dX9_isWord_16 rfl ?_
        refine w_aload_n 18 dX9_isWord_17 rfl rfl ?_
        refine w_iload 20 dX9_isWord_18 rfl rfl ?_
        refine w_invS1 23 dX9_isWord_20 rfl msX9_48 hj (d' := 3) (by decide) (Nat.le_of_ble_eq_true rfl) (c_J0_charAt hj c11 ?_)
        obtain ⟨hn1, hn2⟩ := (sN_ok j hj i c11).1
        refine w_bipush 25 dX9_isWord_23 rfl (v := nI 97) rfl ?_
        refine w_isubN 26 dX9_isWord_25 rfl hn1 ?_
        refine w_iconst 27 dX9_isWord_26 rfl (v := nI 1) rfl ?_
        refine w_iaddN 28 dX9_isWord_27 rfl ?_
        refine w_i2lN 29 dX9_isWord_28 rfl (by omega) ?_
        refine w_lor 30 dX9_isWord_29 rfl ?_
        refine w_topl (lorE (show sN j i - 97 + 1 < 32 by omega)) ?_
        rw [show lc (sN j) 0 i * 32 + (sN j i - 97 + 1) = lc (sN j) 0 (i + 1) by show _ = lc (sN j) 0 i * 32 + (sN j (0 + i) - 96); rw [Nat.zero_add]; omega]
        refine w_lst2 31 dX9_isWord_30 rfl (by decide) rfl ?_
        refine w_inc4 34 dX9_isWord_31 rfl (by decide) rfl (v := nI (_ + 1)) (nI_1 _) ?_
        refine w_goto 5 dX9_isWord_34 rfl ?_
        exact ih (i + 1) (by omega) (by omega)
  refine w_lconst 1 dX9_isWord_0 rfl (v := lN 0) rfl ?_
  refine w_lst2 2 dX9_isWord_1 rfl (by decide) rfl ?_
  refine w_iconst 3 dX9_isWord_2 rfl (v := nI 0) rfl ?_
  refine w_ist4 5 dX9_isWord_3 rfl (by decide) rfl ?_
  exact lp5 _ 0 (Nat.zero_le _) (Nat.lt_succ_self _)

