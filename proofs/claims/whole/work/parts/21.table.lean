/-! ===== arraycopy ===== -/
def cpy2 (f : Nat → Nat → Int32) (a0 a sp dp n : Nat) : Nat → Nat → Int32 := fun o k => if o = a then (if dp ≤ k ∧ k < dp + n then f a0 (sp + (k - dp)) else f a k) else f o k
theorem cpy2_ne {f : Nat → Nat → Int32} {a0 a sp dp n x : Nat} (h : x ≠ a) : cpy2 f a0 a sp dp n x = f x := by
  funext k
  simp [cpy2, h]
theorem cpy2_row {f : Nat → Nat → Int32} {a0 a sp dp n : Nat} : cpy2 f a0 a sp dp n a = va_cpy (f a0) (f a) sp dp n := by
  funext k
  simp [cpy2, va_cpy]
theorem cpy2_in {f : Nat → Nat → Int32} {a0 a sp dp n k : Nat} (h1 : dp ≤ k) (h2 : k < dp + n) : cpy2 f a0 a sp dp n a k = f a0 (sp + (k - dp)) := by simp [cpy2, h1, h2]
theorem cpy2_out {f : Nat → Nat → Int32} {a0 a sp dp n k : Nat} (h : k < dp ∨ dp + n ≤ k) : cpy2 f a0 a sp dp n a k = f a k := by
  have : ¬ (dp ≤ k ∧ k < dp + n) := by omega
  simp [cpy2, this]
def CL (own : String) (index : Nat) : Prop := Cond.methodLink own index arraycopyName ∈ TW ∧ Cond.native arraycopyName ∈ TW ∧ Cond.static arraycopyName ∈ TW ∧ Cond.initialized "java/lang/System" ∈ TW
theorem w_copyi {M : MI} {d : Nat} {dm : Nat × Nat} {G : Nat → Nat → Value} {pc : Nat} {L : List (Option Value)} {S : List Value} {A : AH} {K : Option Value → AH → Prop} {i a0 a n0 n1 sp dp n : Nat} (q : Nat) (hd : decode M.2.1 pc = .ok (.invokestatic i, 3)) (hq : pc + 3 = q) (hc : CL M.1 i) (ho0 : inD dm a0 = true) (hs0 : shp a0 = .inr (0, n0)) (ho : inD dm a = true) (hs : shp a = .inr (0, n1)) (hn0 : n0 < 2 ^ 31) (hn1 : n1 < 2 ^ 31) (h4 : sp + n ≤ n0) (h5 : dp + n ≤ n1) (hdd : 1 ≤ d) (hst : (S.map (fun v => v.category)).sum ≤ 8)
    (k : WP M d dm G q L S (cpy2 A.1 a0 a sp dp n, A.2) K) : WP M d dm G pc L (.int (nI n) :: .int (nI dp) :: .ref a :: .int (nI sp) :: .ref a0 :: S) A K := by
  subst hq
  intro p l e R s m args below meth c D aC ρ H locs ls B ce sl Qc hB hQ0 hR0 X hf hl hW hS hE hv
  obtain ⟨q0, hq0, hat0⟩ := wa_at hW ho0 hs0
  obtain ⟨q1, hq1, hat1⟩ := wa_at hW ho hs
  have z1 : ¬ nI sp < 0 := nI_lt0 (by omega)
  have z2 : ¬ nI dp < 0 := nI_lt0 (by omega)
  have z3 : ¬ nI n < 0 := nI_lt0 (by omega)
  have e1 : (nI sp).toNatClampNeg = sp := nI_k (by omega)
  have e2 : (nI dp).toNatClampNeg = dp := nI_k (by omega)
  have e3 : (nI n).toNatClampNeg = n := nI_k (by omega)
  have hcat := cat_le (ρ := ρ) S hst
  have e9 : nativeFrameWords "java/lang/System" "arraycopy" 5 = 7 := by decide
  have hR : ((S.map (cv ρ)).map fun v => v.category).sum + (nativeFrameWords "java/lang/System" "arraycopy" 5 + 11) ≤ R.locals := by omega
  refine va_copyi (D := D) (ty := .int) X.1.1 X.1.2.1 (by rw [X.1.2.2.1, hv.1]) X.1.2.2.2.1 (X.1.2.2.2.2 _ hc.1) (X.1.2.2.2.2 _ hc.2.1) (X.1.2.2.2.2 _ hc.2.2.1) (X.1.2.2.2.2 _ hc.2.2.2) hW.2.2 hW.1 (hW.db hB) hS q0 q1 0 0 hat0 hat1 rfl rfl rfl z1 z2 z3 (by rw [e1, e3]; exact h4) (by rw [e2, e3]; exact h5) (fun _ _ => rfl) (Nat.le_trans hdd hf) hR hd (fun H1 locs1 hP hD hS1 => ?_)
  rw [e1, e2, e3] at hP hD
  have hw := wa_set (A' := (cpy2 A.1 a0 a sp dp n, A.2)) hW hq1 hs (fun x hx => cellE_congr (cpy2_ne hx) rfl)
  have hw2 : (wsA aC ρ dm G A).set q1 (ρ a, .inl (aC 0, n1, .inl (cpy2 A.1 a0 a sp dp n a))) = wsA aC ρ dm G (cpy2 A.1 a0 a sp dp n, A.2) := hw
  rw [← cpy2_row, hw2] at hP hD
  exact k p l e R s m args below meth c D aC ρ H1 locs1 ls B ce sl Qc hB hQ0 hR0 X hf hl ⟨hP, hD.fr, hW.2.2⟩ hS1 hE hv
def popc (m : Nat) : Nat := cntTo (fun i => m.testBit i) 8
def bcE (i : Int32) : Int32 :=
  let a := i - ((i.toUInt32 >>> ((1 : Int32).toUInt32 &&& Int32.toUInt32 31)).toInt32 &&& 1431655765)
  let b := (a &&& 858993459) + ((a.toUInt32 >>> ((2 : Int32).toUInt32 &&& Int32.toUInt32 31)).toInt32 &&& 858993459)
  let c := (b + (b.toUInt32 >>> ((4 : Int32).toUInt32 &&& Int32.toUInt32 31)).toInt32) &&& 252645135
  let d := c + (c.toUInt32 >>> ((8 : Int32).toUInt32 &&& Int32.toUInt32 31)).toInt32
  let e := d + (d.toUInt32 >>> ((16 : Int32).toUInt32 &&& Int32.toUInt32 31)).toInt32
  e &&& 63
theorem bcE_nI : ∀ m, m < 256 → bcE (nI m) = nI (popc m) := by decide +kernel

/-! ===== Math.max, Math.min ===== -/
def MXL (own : String) (index : Nat) (y : MethodName) (cd : ByteArray) : Prop := Cond.methodLink own index y ∈ TW ∧ Cond.static y ∈ TW ∧ Cond.initialized "java/lang/Math" ∈ TW ∧ Cond.code y cd 2 (some .int) ∈ TW
theorem w_mmax {M : MI} {d : Nat} {dm : Nat × Nat} {G : Nat → Nat → Value} {pc : Nat} {L : List (Option Value)} {S : List Value} {A : AH} {K : Option Value → AH → Prop} {i : Nat} {x y : Int32} (q : Nat) (hd : decode M.2.1 pc = .ok (.invokestatic i, 3)) (hq : pc + 3 = q) (hc : MXL M.1 i Lib.Math.max.name Lib.Math.max.code) (hdd : 1 ≤ d) (hst : (S.map (fun v => v.category)).sum ≤ 8) (k : WP M d dm G q L (.int (if x < y then y else x) :: S) A K) : WP M d dm G pc L (.int y :: .int x :: S) A K := by
  subst hq
  intro p l e R s m args below meth c D aC ρ H locs ls B ce sl Qc hB hQ0 hR0 X hf hl hW hS hE hv
  have hcat := cat_le (ρ := ρ) S hst
  exact va_mmax X.1.1 X.1.2.1 (by rw [X.1.2.2.1, hv.1]) X.1.2.2.2.1 (X.1.2.2.2.2 _ hc.1) (X.1.2.2.2.2 _ hc.2.1) (X.1.2.2.2.2 _ hc.2.2.1) (X.1.2.2.2.2 _ hc.2.2.2) (Nat.le_trans hdd hf) (by omega) hR0.1 hR0.2 hd (k p l e R s m args below meth c D aC ρ H locs ls B ce sl Qc hB hQ0 hR0 X hf hl hW hS hE hv)
theorem w_mmin {M : MI} {d : Nat} {dm : Nat × Nat} {G : Nat → Nat → Value} {pc : Nat} {L : List (Option Value)} {S : List Value} {A : AH} {K : Option Value → AH → Prop} {i : Nat} {x y : Int32} (q : Nat) (hd : decode M.2.1 pc = .ok (.invokestatic i, 3)) (hq : pc + 3 = q) (hc : MXL M.1 i Lib.Math.min.name Lib.Math.min.code) (hdd : 1 ≤ d) (hst : (S.map (fun v => v.category)).sum ≤ 8) (k : WP M d dm G q L (.int (if y < x then y else x) :: S) A K) : WP M d dm G pc L (.int y :: .int x :: S) A K := by
  subst hq
  intro p l e R s m args below meth c D aC ρ H locs ls B ce sl Qc hB hQ0 hR0 X hf hl hW hS hE hv
  have hcat := cat_le (ρ := ρ) S hst
  exact va_mmin X.1.1 X.1.2.1 (by rw [X.1.2.2.1, hv.1]) X.1.2.2.2.1 (X.1.2.2.2.2 _ hc.1) (X.1.2.2.2.2 _ hc.2.1) (X.1.2.2.2.2 _ hc.2.2.1) (X.1.2.2.2.2 _ hc.2.2.2) (Nat.le_trans hdd hf) (by omega) hR0.1 hR0.2 hd (k p l e R s m args below meth c D aC ρ H locs ls B ce sl Qc hB hQ0 hR0 X hf hl hW hS hE hv)

theorem clX8_19 : CL RX8 19 := ⟨TW_at 650 (by decide +kernel) (by decide +kernel), TW_at 652 (by decide +kernel) (by decide +kernel), TW_at 651 (by decide +kernel) (by decide +kernel), TW_at 130 (by decide +kernel) (by decide +kernel)⟩
theorem clX7_54 : CL RX7 54 := ⟨TW_at 1183 (by decide +kernel) (by decide +kernel), TW_at 652 (by decide +kernel) (by decide +kernel), TW_at 651 (by decide +kernel) (by decide +kernel), TW_at 130 (by decide +kernel) (by decide +kernel)⟩
theorem mxX2_21 : MXL RX2 21 Lib.Math.min.name Lib.Math.min.code := ⟨TW_at 692 (by decide +kernel) (by decide +kernel), TW_at 693 (by decide +kernel) (by decide +kernel), TW_at 131 (by decide +kernel) (by decide +kernel), TW_at 694 (by decide +kernel) (by decide +kernel)⟩
theorem mxX7_46 : MXL RX7 46 Lib.Math.max.name Lib.Math.max.code := ⟨TW_at 755 (by decide +kernel) (by decide +kernel), TW_at 756 (by decide +kernel) (by decide +kernel), TW_at 131 (by decide +kernel) (by decide +kernel), TW_at 757 (by decide +kernel) (by decide +kernel)⟩
theorem mxX7_51 : MXL RX7 51 Lib.Math.min.name Lib.Math.min.code := ⟨TW_at 758 (by decide +kernel) (by decide +kernel), TW_at 693 (by decide +kernel) (by decide +kernel), TW_at 131 (by decide +kernel) (by decide +kernel), TW_at 694 (by decide +kernel) (by decide +kernel)⟩
theorem mxX0_40 : MXL RX0 40 Lib.Math.min.name Lib.Math.min.code := ⟨TW_at 783 (by decide +kernel) (by decide +kernel), TW_at 693 (by decide +kernel) (by decide +kernel), TW_at 131 (by decide +kernel) (by decide +kernel), TW_at 694 (by decide +kernel) (by decide +kernel)⟩
theorem mxX0_81 : MXL RX0 81 Lib.Math.max.name Lib.Math.max.code := ⟨TW_at 858 (by decide +kernel) (by decide +kernel), TW_at 756 (by decide +kernel) (by decide +kernel), TW_at 131 (by decide +kernel) (by decide +kernel), TW_at 757 (by decide +kernel) (by decide +kernel)⟩
theorem mxX2_68 : MXL RX2 68 Lib.Math.max.name Lib.Math.max.code := ⟨TW_at 1061 (by decide +kernel) (by decide +kernel), TW_at 756 (by decide +kernel) (by decide +kernel), TW_at 131 (by decide +kernel) (by decide +kernel), TW_at 757 (by decide +kernel) (by decide +kernel)⟩
theorem mxX4_32 : MXL RX4 32 Lib.Math.min.name Lib.Math.min.code := ⟨TW_at 1184 (by decide +kernel) (by decide +kernel), TW_at 693 (by decide +kernel) (by decide +kernel), TW_at 131 (by decide +kernel) (by decide +kernel), TW_at 694 (by decide +kernel) (by decide +kernel)⟩
set_option maxRecDepth 4000 in
theorem c_J6_bitCount_0f7a4 {K : Option Value → AH → Prop} {dm : Nat × Nat} {G : Nat → Nat → Value} {A : AH} {m : Nat} (hm : m < 256) (h : K (some (.int (nI (popc m)))) A) : Ct yJ6_bitCount_0f7a4 mJ6_bitCount_0f7a4 0 dm G [.int (nI m)] A K := by
  refine Ct.of [some (.int (nI m))] rfl rfl rfl (Nat.le_of_ble_eq_true rfl) ?_
  refine w_iload_n 1 dJ6_bitCount_0f7a4_0 rfl rfl ?_
  refine w_iload_n 2 dJ6_bitCount_0f7a4_1 rfl rfl ?_
  refine w_iconst 3 dJ6_bitCount_0f7a4_2 rfl (v := 1) rfl ?_
  refine w_iushr 4 dJ6_bitCount_0f7a4_3 rfl ?_
  refine w_ldcw 7 dJ6_bitCount_0f7a4_4 rfl kcJ6_265 ?_
  refine w_iand 8 dJ6_bitCount_0f7a4_7 rfl ?_
  refine w_isub 9 dJ6_bitCount_0f7a4_8 rfl ?_
  refine w_ist0 10 dJ6_bitCount_0f7a4_9 rfl (by decide) rfl ?_
  refine w_iload_n 11 dJ6_bitCount_0f7a4_10 rfl rfl ?_
  refine w_ldcw 14 dJ6_bitCount_0f7a4_11 rfl kcJ6_266 ?_
  refine w_iand 15 dJ6_bitCount_0f7a4_14 rfl ?_
  refine w_iload_n 16 dJ6_bitCount_0f7a4_15 rfl rfl ?_
  refine w_iconst 17 dJ6_bitCount_0f7a4_16 rfl (v := 2) rfl ?_
  refine w_iushr 18 dJ6_bitCount_0f7a4_17 rfl ?_
  refine w_ldcw 21 dJ6_bitCount_0f7a4_18 rfl kcJ6_266 ?_
  refine w_iand 22 dJ6_bitCount_0f7a4_21 rfl ?_
  refine w_iadd 23 dJ6_bitCount_0f7a4_22 rfl ?_
  refine w_ist0 24 dJ6_bitCount_0f7a4_23 rfl (by decide) rfl ?_
  refine w_iload_n 25 dJ6_bitCount_0f7a4_24 rfl rfl ?_
  refine w_iload_n 26 dJ6_bitCount_0f7a4_25 rfl rfl ?_
  refine w_iconst 27 dJ6_bitCount_0f7a4_26 rfl (v := 4) rfl ?_
  refine w_iushr 28 dJ6_bitCount_0f7a4_27 rfl ?_
  refine w_iadd 29 dJ6_bitCount_0f7a4_28 rfl ?_
  refine w_ldcw 32 dJ6_bitCount_0f7a4_29 rfl kcJ6_267 ?_
  refine w_iand 33 dJ6_bitCount_0f7a4_32 rfl ?_
  refine w_ist0 34 dJ6_bitCount_0f7a4_33 rfl (by decide) rfl ?_
  refine w_iload_n 35 dJ6_bitCount_0f7a4_34 rfl rfl ?_
  refine w_iload_n 36 dJ6_bitCount_0f7a4_35 rfl rfl ?_
  refine w_bipush 38 dJ6_bitCount_0f7a4_36 rfl (v := 8) rfl ?_
  refine w_iushr 39 dJ6_bitCount_0f7a4_38 rfl ?_
  refine w_iadd 40 dJ6_bitCount_0f7a4_39 rfl ?_
  refine w_ist0 41 dJ6_bitCount_0f7a4_40 rfl (by decide) rfl ?_
  refine w_iload_n 42 dJ6_bitCount_0f7a4_41 rfl rfl ?_
  refine w_iload_n 43 dJ6_bitCount_0f7a4_42 rfl rfl ?_
  refine w_bipush 45 dJ6_bitCount_0f7a4_43 rfl (v := 16) rfl ?_
  refine w_iushr 46 dJ6_bitCount_0f7a4_45 rfl ?_
  refine w_iadd 47 dJ6_bitCount_0f7a4_46 rfl ?_
  refine w_ist0 48 dJ6_bitCount_0f7a4_47 rfl (by decide) rfl ?_
  refine w_iload_n 49 dJ6_bitCount_0f7a4_48 rfl rfl ?_
  refine w_bipush 51 dJ6_bitCount_0f7a4_49 rfl (v := 63) rfl ?_
  refine w_iand 52 dJ6_bitCount_0f7a4_51 rfl ?_
  refine wr_i dJ6_bitCount_0f7a4_52 rfl ?_
  exact kq h (bcE_nI m hm)

def tabOK (t : Nat) : Prop := inD dC t = true ∧ inD dC (t + 1) = true ∧ shp t = .inl 8 ∧ shp (t + 1) = .inr (0, 48) ∧ gC t 0 = .ref (t + 1)
theorem tabOK_of {b j : Nat} (hb : b = 9 ∨ b = 26) (hj : j < 8) : tabOK (b + 1 + 2 * j) := by
  rcases hb with rfl | rfl <;> rcases j with _ | _ | _ | _ | _ | _ | _ | _ | j <;> first | exact ⟨rfl, rfl, rfl, rfl, rfl⟩ | omega
theorem i6 {i c : Int32} {n : Nat} (h1 : ¬ i < 0) (h2 : ¬ nI n ≤ i) (h3 : ¬ c < 0) (h4 : ¬ nI 6 ≤ c) (hn : n ≤ 8) : ∃ i' c' : Nat, i = nI i' ∧ c = nI c' ∧ i' < n ∧ c' < 6 := by
  obtain ⟨i', hi, rfl⟩ := nI_of h1
  obtain ⟨c', hc, rfl⟩ := nI_of h3
  rw [nI_leI (by omega) hi] at h2
  rw [nI_leI (by omega) hc] at h4
  exact ⟨i', c', rfl, rfl, by omega, by omega⟩
set_option maxRecDepth 4000 in
theorem c_X8_cell {K : Option Value → AH → Prop} {A : AH} {t n : Nat} {i c : Int32} (ht : tabOK t) (hn : A.1 t 1 = nI n) (hn8 : n ≤ 8) (h0 : (i < 0 ∨ nI n ≤ i ∨ c < 0 ∨ nI 6 ≤ c) → K (some (.int (nI 0))) A) (h1 : ∀ i' c' : Nat, i = nI i' → c = nI c' → i' < n → c' < 6 → K (some (.int (A.1 (t + 1) (i' * 6 + c')))) A) : Ct yX8_cell mX8_cell 0 dC gC [.ref t, .int i, .int c] A K := by
  refine Ct.of [some (.ref t), some (.int i), some (.int c), none] rfl rfl rfl (Nat.le_of_ble_eq_true rfl) ?_
  refine w_iload_n 1 dX8_cell_0 rfl rfl ?_
  refine w_iflt 26 4 dX8_cell_1 rfl rfl (fun c1 => ?_) (fun c1 => ?_)
  · skip
    refine w_iconst 27 dX8_cell_26 rfl (v := nI 0) rfl ?_
    refine w_ist3 28 dX8_cell_27 rfl (by decide) rfl ?_
    refine w_iload_n 29 dX8_cell_28 rfl rfl ?_
    refine w_ifeqN 46 32 dX8_cell_29 rfl rfl (by decide) (fun _ => ?_) (fun cc => absurd cc (by decide))
    refine w_iconst 47 dX8_cell_46 rfl (v := nI 0) rfl ?_
    refine wr_i dX8_cell_47 rfl ?_
    exact h0 (Or.inl c1)
  · skip
    refine w_iload_n 5 dX8_cell_4 rfl rfl ?_
    refine w_aload_n 6 dX8_cell_5 rfl rfl ?_
    refine w_getiv 9 dX8_cell_6 rfl faX8_15 ht.1 ht.2.2.1 rfl hn ?_
    refine w_icge 26 12 dX8_cell_9 rfl rfl (fun c9 => ?_) (fun c9 => ?_)
    · skip
      refine w_iconst 27 dX8_cell_26 rfl (v := nI 0) rfl ?_
      refine w_ist3 28 dX8_cell_27 rfl (by decide) rfl ?_
      refine w_iload_n 29 dX8_cell_28 rfl rfl ?_
      refine w_ifeqN 46 32 dX8_cell_29 rfl rfl (by decide) (fun _ => ?_) (fun cc => absurd cc (by decide))
      refine w_iconst 47 dX8_cell_46 rfl (v := nI 0) rfl ?_
      refine wr_i dX8_cell_47 rfl ?_
      exact h0 (Or.inr (Or.inl c9))
    · skip
      refine w_iload_n 13 dX8_cell_12 rfl rfl ?_
      refine w_iflt 26 16 dX8_cell_13 rfl rfl (fun c13 => ?_) (fun c13 => ?_)
      · skip
        refine w_iconst 27 dX8_cell_26 rfl (v := nI 0) rfl ?_
        refine w_ist3 28 dX8_cell_27 rfl (by decide) rfl ?_
        refine w_iload_n 29 dX8_cell_28 rfl rfl ?_
        refine w_ifeqN 46 32 dX8_cell_29 rfl rfl (by decide) (fun _ => ?_) (fun cc => absurd cc (by decide))
        refine w_iconst 47 dX8_cell_46 rfl (v := nI 0) rfl ?_
        refine wr_i dX8_cell_47 rfl ?_
        exact h0 (Or.inr (Or.inr (Or.inl c13)))
      · skip
        refine w_iload_n 17 dX8_cell_16 rfl rfl ?_
        refine w_bipush 19 dX8_cell_17 rfl (v := nI 6) rfl ?_
        refine w_icge 26 22 dX8_cell_19 rfl rfl (fun c19 => ?_) (fun c19 => ?_)
        · skip
          refine w_iconst 27 dX8_cell_26 rfl (v := nI 0) rfl ?_
          refine w_ist3 28 dX8_cell_27 rfl (by decide) rfl ?_
          refine w_iload_n 29 dX8_cell_28 rfl rfl ?_
          refine w_ifeqN 46 32 dX8_cell_29 rfl rfl (by decide) (fun _ => ?_) (fun cc => absurd cc (by decide))
          refine w_iconst 47 dX8_cell_46 rfl (v := nI 0) rfl ?_
          refine wr_i dX8_cell_47 rfl ?_
          exact h0 (Or.inr (Or.inr (Or.inr c19)))
        · skip
          refine w_iconst 23 dX8_cell_22 rfl (v := nI 1) rfl ?_
          refine w_goto 27 dX8_cell_23 rfl ?_
          refine w_ist3 28 dX8_cell_27 rfl (by decide) rfl ?_
          refine w_iload_n 29 dX8_cell_28 rfl rfl ?_
          refine w_ifeqN 46 32 dX8_cell_29 rfl rfl (by decide) (fun cc => absurd cc (by decide)) (fun _ => ?_)
          refine w_aload_n 33 dX8_cell_32 rfl rfl ?_
          obtain ⟨i', c', rfl, rfl, hi, hc⟩ := i6 c1 c9 c13 c19 hn8
          refine w_getr 36 dX8_cell_33 rfl faX8_11 ht.1 ht.2.2.1 rfl (r := .ref (t + 1)) ht.2.2.2.2 ?_
          refine w_iload_n 37 dX8_cell_36 rfl rfl ?_
          refine w_bipush 39 dX8_cell_37 rfl (v := nI 6) rfl ?_
          refine w_imul 40 dX8_cell_39 rfl ?_
          refine w_iload_n 41 dX8_cell_40 rfl rfl ?_
          refine w_iadd 42 dX8_cell_41 rfl ?_
          refine w_top (by rw [pk_mul, nI_add]) ?_
          refine w_ialdN 43 dX8_cell_42 rfl ht.2.1 ht.2.2.2.1 (by decide) (by omega) ?_
          refine w_goto 47 dX8_cell_43 rfl ?_
          refine wr_i dX8_cell_47 rfl ?_
          exact h1 i' c' rfl rfl hi hc

/-- the lines of one sort: n of them, entries f -/
def RepB (n : Nat) (f : Nat → Nat → Nat) (t : Nat) (A : AH) : Prop := A.1 t 1 = nI n ∧ n ≤ 8 ∧ ∀ i c, i < n → c < 6 → A.1 (t + 1) (i * 6 + c) = nI (f i c)
theorem c_X8_cellN {K : Option Value → AH → Prop} {A : AH} {t n i c : Nat} {f : Nat → Nat → Nat} (ht : tabOK t) (hr : RepB n f t A) (hi : i < 2 ^ 31) (hc : c < 6) (h : K (some (.int (nI (if i < n then f i c else 0)))) A) : Ct yX8_cell mX8_cell 0 dC gC [.ref t, .int (nI i), .int (nI c)] A K := by
  refine c_X8_cell ht hr.1 hr.2.1 (fun hz => ?_) (fun i' c' e1 e2 h1 h2 => ?_)
  · have hni : ¬ i < n := by
      rcases hz with q | q | q | q
      · exact absurd q (nI_lt0 hi)
      · rw [nI_leI (by have := hr.2.1; omega) hi] at q; omega
      · exact absurd q (nI_lt0 (by omega))
      · rw [nI_leI (by decide) (by omega)] at q; omega
    rw [if_neg hni] at h
    exact h
  · have e3 := (nI_eq hi (by have := hr.2.1; omega)).mp e1
    have e4 := (nI_eq (by omega) (by omega)).mp e2
    subst e3; subst e4
    rw [if_pos h1, ← hr.2.2 i c h1 h2] at h
    exact h