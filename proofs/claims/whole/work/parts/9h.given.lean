/-! ===== what the start gives ===== -/
theorem cl_inst : ∀ ci, ci < 14 → Cond.instantiable (clR ci) (clN ci) ∈ TW := by
  intro ci h
  rcases ci with _ | _ | _ | _ | _ | _ | _ | _ | _ | _ | _ | _ | _ | _ | ci
  · exact TW_at 318 (by decide +kernel) (by decide +kernel)
  · exact TW_at 369 (by decide +kernel) (by decide +kernel)
  · exact TW_at 353 (by decide +kernel) (by decide +kernel)
  · exact TW_at 153 (by decide +kernel) (by decide +kernel)
  · exact TW_at 294 (by decide +kernel) (by decide +kernel)
  · exact TW_at 147 (by decide +kernel) (by decide +kernel)
  · exact TW_at 383 (by decide +kernel) (by decide +kernel)
  · exact TW_at 284 (by decide +kernel) (by decide +kernel)
  · exact TW_at 217 (by decide +kernel) (by decide +kernel)
  · exact TW_at 174 (by decide +kernel) (by decide +kernel)
  · exact TW_at 211 (by decide +kernel) (by decide +kernel)
  · exact TW_at 139 (by decide +kernel) (by decide +kernel)
  · exact TW_at 1440 (by decide +kernel) (by decide +kernel)
  · exact TW_at 1321 (by decide +kernel) (by decide +kernel)
  · omega
theorem law_tables {s : State} {args : Array Value} (hTW : ∀ w ∈ TW, w.before args s = true) : ∃ (D : va_G) (aC : Nat → ClassId), va_K D classes (tysA aC) s := by
  have h1 : ∀ ci : Nat, ∃ q : ClassId × (Nat → Nat), ci < 14 → u_Kn s (clR ci) (clT ci) (clN ci) q.1 q.2 := by
    intro ci
    by_cases h : ci < 14
    · obtain ⟨cC, iS, hK⟩ := u_known (n := clN ci) hTW (cl_in h) (hTW _ (cl_inst ci h))
      exact ⟨(cC, iS), fun _ => hK⟩
    · exact ⟨(0, fun _ => 0), fun z => absurd z h⟩
  have h2 : ∀ t : Nat, ∃ cA : ClassId, t < 4 → ArrOfT s cA (tyK t) ∧ va_RA s cA (tyK t) := by
    intro t
    by_cases h : t < 4
    · have hw : Cond.arrayClass (tyK t) ∈ TW := by
        rcases (show t = 0 ∨ t = 1 ∨ t = 2 ∨ t = 3 by omega) with rfl | rfl | rfl | rfl
        · exact ac0
        · exact ac1
        · exact ac2
        · exact ac3
      obtain ⟨cA, kA, comp, g1, g2, g3⟩ := Cond.arrayClass_spec (args := args) (first := s) (o := none) (s := s) (idx := []) (hTW _ hw)
      refine ⟨cA, fun _ => ⟨fun n z => ⟨fun k h => (by cases h), kA, g2, comp, g3⟩, ?_⟩⟩
      rcases (show t = 0 ∨ t = 1 ∨ t = 2 ∨ t = 3 by omega) with rfl | rfl | rfl | rfl <;> exact g1
    · exact ⟨0, fun z => absurd z h⟩
  obtain ⟨d, hd⟩ := Classical.axiomOfChoice h1
  obtain ⟨a, ha⟩ := Classical.axiomOfChoice h2
  refine ⟨(fun c => (d c).1, fun c => (d c).2), a, fun c q hq => ?_, fun k q hk => ?_⟩
  · have hc : c < 14 := (List.getElem?_eq_some_iff.mp hq).1
    have e := (cl_at hc).symm.trans hq
    cases e
    exact hd c hc
  · have hc : k < 4 := (List.getElem?_eq_some_iff.mp hk).1
    rcases (show k = 0 ∨ k = 1 ∨ k = 2 ∨ k = 3 by omega) with rfl | rfl | rfl | rfl <;> cases hk
    · exact ha 0 (by decide)
    · exact ha 1 (by decide)
    · exact ha 2 (by decide)
    · exact ha 3 (by decide)
def gvL : List Cond := flatC (Jvm.Cond.and given_1 narrow_1)
def tmS (i : Nat) : Term := .string (strTab.getD i ("", 0, "", 0)).1 (strTab.getD i ("", 0, "", 0)).2.1
def fvS (i : Nat) : Term := .field (tmS i) "java/lang/String" "value" "[B"
theorem s_ex : ∀ i, i < 19 → Cond.exactly (tmS i) "java/lang/String" ∈ gvL := by decide +kernel
theorem s_co : ∀ i, i < 19 → Cond.eq (.field (tmS i) "java/lang/String" "coder" "B") (.int 0) ∈ gvL := by decide +kernel
theorem s_ar : ∀ i, i < 19 → Cond.arrayOf (fvS i) .byte ∈ gvL := by decide +kernel
theorem s_le : ∀ i, i < 19 → Cond.eq (.length (fvS i)) (.int (Int32.ofNat (strLen.getD i 0))) ∈ gvL := by decide +kernel
theorem s_el : ∀ i, i < 19 → ∀ j, j < strLen.getD i 0 → Cond.eq (.elem (fvS i) (.int (Int32.ofNat j))) (.int ((strByt.getD i []).getD j 0)) ∈ gvL := by decide +kernel
theorem s_eq : ∀ q ∈ strTab, tmS q.2.2.2 = .string q.1 q.2.1 ∨ Cond.eq (tmS q.2.2.2) (.string q.1 q.2.1) ∈ gvL := by decide +kernel
theorem s_tx : ∀ q ∈ strTab, Cond.stringRef q.1 q.2.1 q.2.2.1 ∈ lw_tbl := by decide +kernel
theorem s_j : ∀ q ∈ strTab, q.2.2.2 < 19 := by decide +kernel
theorem s_len : ∀ i, i < 19 → strLen.getD i 0 < 2 ^ 31 := by decide +kernel
abbrev tmR : Term := .static "PromiseWeb" "ROOM" "[I"
theorem r_ar : Cond.arrayOf tmR .int ∈ gvL := by decide +kernel
theorem r_le : Cond.eq (.length tmR) (.int (Int32.ofNat 8)) ∈ gvL := by decide +kernel
theorem r_el : ∀ j, j < 8 → Cond.eq (.elem tmR (.int (Int32.ofNat j))) (.int (([1, 7, 7, 8, 4, 5, 5, 6] : List Int32).getD j 0)) ∈ gvL := by decide +kernel
theorem c_eq : Cond.eq (.static "java/lang/String" "COMPACT_STRINGS" "Z") (.int 1) ∈ gvL := by decide +kernel
theorem f_rf : Cond.isRef (.static "jdk/internal/util/Preconditions" "SIOOBE_FORMATTER" "Ljava/util/function/BiFunction;") ∈ gvL := by decide +kernel
theorem u_rf : Cond.isRef (.static Bundle.tN "UNASSIGNED_STACK" Bundle.steD) ∈ gvL := by decide +kernel
theorem n_rf : Cond.isRef (.static Bundle.tN "SUPPRESSED_SENTINEL" Bundle.listD) ∈ gvL := by decide +kernel
theorem xB_in : ∀ w ∈ xB, w ∈ lw_tbl := by decide +kernel
theorem law_zt {s : State} {b : Nat} (hts : ∀ w ∈ lw_tbl, w.before #[Value.ref b] s = true) (hg : ∀ w ∈ gvL, w.before #[Value.ref b] s = true) : ZT (BL s) s s.heap := by
  have hA : ∀ a : Nat, a < s.heap.size → ¬ BL s a := fun a h z => absurd h (Nat.not_lt.mpr z)
  refine ⟨vx_Zqof (hts _ (List.mem_of_getElem? (i := 1286) (by decide +kernel))) (hts _ (List.mem_of_getElem? (i := 134) (by decide +kernel))) (hg _ u_rf) hA, vx_Zqof (hts _ (List.mem_of_getElem? (i := 1288) (by decide +kernel))) (hts _ (List.mem_of_getElem? (i := 134) (by decide +kernel))) (hg _ n_rf) hA, fun w hw => ?_⟩
  have h9 := hts w (xB_in w hw)
  simp only [xB, List.mem_cons, List.not_mem_nil, or_false] at hw
  rcases hw with rfl | rfl | rfl | rfl <;> exact va_Nw.of rfl h9
theorem law_ex {s : State} {b : Nat} (hts : ∀ w ∈ lw_tbl, w.before #[Value.ref b] s = true) (hg : ∀ w ∈ gvL, w.before #[Value.ref b] s = true) : ∃ ρ : Nat → Nat, EX (BL s) ρ s s.heap := by
  have hA : ∀ a : Nat, a < s.heap.size → ¬ BL s a := fun a h z => absurd h (Nat.not_lt.mpr z)
  have h0 : ∀ i : Nat, ∃ q : Nat × Nat, i < 19 → (tmS i).eval #[Value.ref b] s none [] s = some (.ref q.1) ∧ va_O "java/lang/String" q.1 (BL s) s s.heap ∧ va_OF "java/lang/String" "coder" "B" (.int 0) q.1 (BL s) s s.heap ∧ va_OF "java/lang/String" "value" "[B" (.ref q.2) q.1 (BL s) s s.heap ∧ va_T .byte q.2 (strLen.getD i 0) (fun j => .int ((strByt.getD i []).getD j 0)) (BL s) s s.heap := by
    intro i
    by_cases hi : i < 19
    · obtain ⟨a, c, cA, kA, q1, q2, q3, q4, q5, q6, -⟩ := Cond.exactly_spec (args := #[Value.ref b]) (first := s) (o := none) (s := s) (idx := []) (t := tmS i) (cls := "java/lang/String") (hg _ (s_ex i hi))
      obtain ⟨t, ht, hT⟩ := va_Tof (f := fun j => .int ((strByt.getD i []).getD j 0)) (A := BL s) (s_len i hi) (hg _ (s_ar i hi)) (va_eqt (hg _ (s_le i hi))) (fun j hj => va_eqt (hg _ (s_el i hi j hj))) hA
      exact ⟨(a, t), fun _ => ⟨q1, ⟨cA, q3, q5, by rw [q6]; exact q2, hA a (Array.getElem?_eq_some_iff.mp q3).1⟩, vk_OFof q1 (va_eqt (hg _ (s_co i hi))) hA, vk_OFof q1 ht hA, hT⟩⟩
    · exact ⟨(0, 0), fun h => absurd h hi⟩
  obtain ⟨ad, had⟩ := Classical.axiomOfChoice h0
  obtain ⟨tR, htR, hTR⟩ := va_Tof (f := roomF) (A := BL s) (N := 8) (by decide) (hg _ r_ar) (va_eqt (hg _ r_le)) (fun j hj => va_eqt (hg _ (r_el j hj))) hA
  have hZR : va_Z "PromiseWeb" "ROOM" "[I" (.ref tR) (BL s) s s.heap := va_Zof (hts _ (List.mem_of_getElem? (i := 547) (by decide +kernel))) (hts _ (List.mem_of_getElem? (i := 113) (by decide +kernel))) htR hA
  have hZC : va_Z "java/lang/String" "COMPACT_STRINGS" "Z" (.int 1) (BL s) s s.heap := va_Zof (hts _ (List.mem_of_getElem? (i := 500) (by decide +kernel))) (hts _ (List.mem_of_getElem? (i := 126) (by decide +kernel))) (va_eqt (hg _ c_eq)) hA
  have hZF := va_Zqof (A := BL s) (hts _ (List.mem_of_getElem? (i := 516) (by decide +kernel))) (hts _ (List.mem_of_getElem? (i := 128) (by decide +kernel))) (hg _ f_rf) hA
  obtain ⟨tF, hZF⟩ : ∃ tF : Nat, va_Z "jdk/internal/util/Preconditions" "SIOOBE_FORMATTER" "Ljava/util/function/BiFunction;" .null (BL s) s s.heap ∨ va_Z "jdk/internal/util/Preconditions" "SIOOBE_FORMATTER" "Ljava/util/function/BiFunction;" (.ref tF) (BL s) s s.heap := by
    rcases hZF with h | ⟨t, h⟩
    · exact ⟨0, Or.inl h⟩
    · exact ⟨t, Or.inr h⟩
  let ρ : Nat → Nat := fun o => if o = 1200 then tR else if o = 1201 then tF else if 1100 ≤ o then (ad (o - 1100)).2 else (ad (o - 1000)).1
  have r0 : ∀ i, i < 19 → ρ (1000 + i) = (ad i).1 := fun i hi => by
    show (if 1000 + i = 1200 then tR else if 1000 + i = 1201 then tF else if 1100 ≤ 1000 + i then (ad (1000 + i - 1100)).2 else (ad (1000 + i - 1000)).1) = _
    rw [if_neg (by omega), if_neg (by omega), if_neg (by omega), show 1000 + i - 1000 = i by omega]
  have r1 : ∀ i, i < 19 → ρ (1100 + i) = (ad i).2 := fun i hi => by
    show (if 1100 + i = 1200 then tR else if 1100 + i = 1201 then tF else if 1100 ≤ 1100 + i then (ad (1100 + i - 1100)).2 else (ad (1100 + i - 1000)).1) = _
    rw [if_neg (by omega), if_neg (by omega), if_pos (by omega), show 1100 + i - 1100 = i by omega]
  refine ⟨ρ, fun w hw hn => ?_, fun q hq => ?_, fun i hi => ?_, hZR, hTR, hZC, hZF⟩
  · have h9 := hts w hw
    cases w <;> simp only [nestW, Bool.false_eq_true] at hn
    all_goals exact va_Nw.of rfl h9
  · have hj := s_j q hq
    rw [r0 _ hj]
    have he := (had _ hj).1
    refine vk_R.of (A := #[Value.ref b]) (hts _ (s_tx q hq)) ?_
    rcases s_eq q hq with e | e
    · rw [← e]; exact he
    · obtain ⟨y, y1, y2⟩ := Cond.eq_one (show (Cond.eq (tmS q.2.2.2) (.string q.1 q.2.1)).holds #[Value.ref b] s none s [] = true from hg _ e)
      rw [he] at y1
      rw [y2, ← y1]
  · dsimp only
    rw [r0 i hi, r1 i hi]
    exact (had i hi).2
