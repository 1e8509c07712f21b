/-! ===== calls ===== -/
def notMH (y : MethodName) : Prop := y.cls ≠ "java/lang/invoke/MethodHandle" ∧ y.cls ≠ "java/lang/invoke/VarHandle"
/-- an instance method of ours, as the tables link it -/
def ML (own : String) (index : Nat) (y : MethodName) (M' : MI) (n ci : Nat) : Prop := Cond.methodLink own index y ∈ TW ∧ Cond.instanceMethod y ∈ TW ∧ Cond.selects (clR ci) y y ∈ TW ∧ Cond.initialized (clR ci) ∈ TW ∧ Cond.code y M'.2.1 M'.2.2.1 M'.2.2.2 ∈ TW ∧ (y.cls = clR ci ∧ y.cls ≠ "java/lang/invoke/MethodHandle" ∧ y.cls ≠ "java/lang/invoke/VarHandle" ∧ (parseMethodDescriptor y.desc).map (fun d => d.parameters.length) = some n) ∧ M'.2.2.1 ≤ 19 ∧ ci < 14
/-- a static method, its own class's or another's -/
def SL (own : String) (index : Nat) (y : MethodName) (M' : MI) (n : Nat) : Prop := (Cond.methodLink own index y ∈ TW ∨ ∃ host, Cond.methodLinkNest own index y host ∈ lw_tbl) ∧ Cond.static y ∈ TW ∧ Cond.initialized y.cls ∈ TW ∧ Cond.code y M'.2.1 M'.2.2.1 M'.2.2.2 ∈ TW ∧ (y.cls ≠ "java/lang/invoke/MethodHandle" ∧ y.cls ≠ "java/lang/invoke/VarHandle" ∧ (parseMethodDescriptor y.desc).map (fun d => d.parameters.length) = some n) ∧ M'.2.2.1 ≤ 19
theorem TW_cons {w : Cond} (h : w ∈ TW) : GoodIn TW (w :: TW) := fun x hx => (List.mem_cons.mp hx).elim (fun e => by subst e; exact ⟨h, good_of_word (List.mem_filter.mp h).2⟩) (fun hx => ⟨hx, good_of_word (List.mem_filter.mp hx).2⟩)
theorem TW_g {w : Cond} (h : w ∈ TW) : w ∈ TW ∧ ((w.onTables && w.keeps) = true ∨ ∃ ty, w = .arrayClass ty) := ⟨h, good_of_word (List.mem_filter.mp h).2⟩
section CR
variable {p : Program} {l : Launch} {e : Env} {R : Room} {s : State} {m : MethodId} {args : Array Value} {below : List Frame} {meth : Method} {c : Code} {D : va_G} {aC : Nat → ClassId} {ρ : Nat → Nat} {H : Heap} {locs : List Loc} {ls : Array Slot} {M : MI} {dm : Nat × Nat} {G : Nat → Nat → Value} {A : AH} {pc : Nat} {y : MethodName} {M' : MI} {n index : Nat} {As rest : List Value} {d d' : Nat} {K : Option Value → AH → Prop} {L : List (Option Value)}
theorem EX.at {B : Nat → Prop} {U : State} (hE : EX B ρ s s.heap) (hS : va_S B s.heap H locs) (hU : U.heap = H) (hWm : s.WarmedH U.vm) : EX B ρ U U.heap := by
  rw [hU]
  exact (hE.kept hS.2.1).warm hWm
theorem cat_le (S : List Value) (h : (S.map (fun v => v.category)).sum ≤ 8) : ((S.map (cv ρ)).map (fun v => v.category)).sum ≤ 8 := by
  have : ((S.map (cv ρ)).map (fun v => v.category)) = S.map (fun v => v.category) := by
    rw [List.map_map]
    apply List.map_congr_left
    intro v _
    cases v <;> rfl
  rw [this]
  exact h
theorem w_inv (q : Nat) {ci o : Nat} (hd : decode M.2.1 pc = .ok (.invokevirtual index, 3)) (hq : pc + 3 = q) (hm : ML M.1 index y M' n ci) (ho : inD dm o = true) (hs : shp o = .inl ci) (hn : As.length = n) (hdd : d' + 1 ≤ d) (hst : (rest.map (fun v => v.category)).sum ≤ 8) (hc : Ct y M' d' dm G (.ref o :: As) A (fun v A' => WP M d dm G q L (ov v rest) A' K)) : WP M d dm G pc L (As.reverse ++ .ref o :: rest) A K := by
  subst hq
  intro p l e R s m args below meth c D aC ρ H locs ls B ce sl Qc hB hQ0 hR0 X hf hl hW hS hE hv
  obtain ⟨m1, m2, m3, m4, m5, m6, m7, m8⟩ := hm
  obtain ⟨q0, hq0, hat⟩ := wsA_at (aC := aC) (ρ := ρ) (G := G) (A := A) ho
  have he : (wsA aC ρ dm G A)[q0]? = some (ρ o, .inr (ci, (List.range (clN ci)).map (fun k => fvk (clTy ci k) ρ G A o k))) := by rw [hat]; simp only [cellE, hs]
  have hG : GoodIn TW (wsV M.1 index (clR ci) y (.code y M'.2.1 M'.2.2.1 M'.2.2.2 :: TW)) := by
    intro w hw
    unfold wsV at hw
    rcases List.mem_append.mp hw with hw | hw
    · simp only [List.mem_cons, List.not_mem_nil, or_false] at hw
      rcases hw with rfl | rfl | rfl | rfl
      · exact TW_g m1
      · exact TW_g m2
      · exact TW_g m3
      · exact TW_g m4
    · exact TW_cons m5 w hw
  have hrun := va_runV (meth := meth) (locs := locs) (H := H) (below := below) (e := e) (cells := ce) (slots := sl) (g := F0 m pc ls ((As.reverse ++ .ref o :: rest).map (cv ρ))) (rest := rest.map (cv ρ)) (As := As.map (cv ρ)) (b := ρ o) X.1 (hc l D aC ρ) (cwV (R := R) n X.1.2.2.2.2 hG rfl rfl rfl m6 ⟨by show d' + 1 ≤ _; omega, by show 8 + (M'.2.2.1 + 11) + 38 * d' ≤ _; omega⟩) ⟨fb_QK, va_recv hW.2.2 hW.1 (cl_at m8) he, fun U hU hWm => ⟨by simp [cv], by rw [hU]; exact hW.moved hWm.alike, (hE.at hS hU hWm).narrow hB⟩⟩ rfl (by simpa using hn) hv.1 (by simp [List.map_append, List.map_reverse, cv]) (lv_room (cat_le rest hst)) hd hR0
  exact run_k hB hrun hS (fun v A1 H1 locs1 hk hW1 hS1 => hk p l e R s m args below meth c D aC ρ H1 locs1 ls B ce sl Qc hB hQ0 hR0 X hf hl hW1 hS1 hE hv)
theorem w_invs (q : Nat) (hd : decode M.2.1 pc = .ok (.invokestatic index, 3)) (hq : pc + 3 = q) (hm : SL M.1 index y M' n) (hn : As.length = n) (hdd : d' + 1 ≤ d) (hst : (rest.map (fun v => v.category)).sum ≤ 8) (hc : Ct y M' d' dm G As A (fun v A' => WP M d dm G q L (ov v rest) A' K)) : WP M d dm G pc L (As.reverse ++ rest) A K := by
  subst hq
  intro p l e R s m args below meth c D aC ρ H locs ls B ce sl Qc hB hQ0 hR0 X hf hl hW hS hE hv
  obtain ⟨m1, m2, m3, m4, m5, m6⟩ := hm
  have hR : (rmD d').frames + 1 ≤ R.frames ∧ 8 + (M'.2.2.1 + 11) + (rmD d').locals ≤ R.locals := ⟨by show d' + 1 ≤ _; omega, by show 8 + (M'.2.2.1 + 11) + 38 * d' ≤ _; omega⟩
  have hp : PreS s H (va_Pc (As.map (cv ρ)) (fun U => WD D aC ρ dm G A U U.heap ∧ EX (fr ρ dm) ρ U U.heap)) (As.map (cv ρ)) := ⟨fb_QK, fun U hU hWm => ⟨rfl, by rw [hU]; exact hW.moved hWm.alike, (hE.at hS hU hWm).narrow hB⟩⟩
  have kk : ∀ (v : Option Value) (A1 : AH) (H1 : Heap) (locs1 : List Loc), WP M d dm G (pc + 3) L (ov v rest) A1 K → WD D aC ρ dm G A1 s H1 → va_S B s.heap H1 locs1 → W p l e R s m args below meth c H1 locs1 ce sl (MQ below Qc args s ce sl B) (F0 m (pc + 3) ls ((ov v rest).map (cv ρ))) := fun v A1 H1 locs1 hk hW1 hS1 => hk p l e R s m args below meth c D aC ρ H1 locs1 ls B ce sl Qc hB hQ0 hR0 X hf hl hW1 hS1 hE hv
  rcases m1 with m1 | ⟨host, m1⟩
  · have hG : GoodIn TW (va_wsS M.1 index y (.code y M'.2.1 M'.2.2.1 M'.2.2.2 :: TW)) := by
      intro w hw
      unfold va_wsS at hw
      rcases List.mem_append.mp hw with hw | hw
      · simp only [List.mem_cons, List.not_mem_nil, or_false] at hw
        rcases hw with rfl | rfl | rfl
        · exact TW_g m1
        · exact TW_g m2
        · exact TW_g m3
      · exact TW_cons m4 w hw
    have hrun := va_runS (meth := meth) (locs := locs) (H := H) (below := below) (e := e) (cells := ce) (slots := sl) (g := F0 m pc ls ((As.reverse ++ rest).map (cv ρ))) (rest := rest.map (cv ρ)) (As := As.map (cv ρ)) X.1 (hc l D aC ρ) (va_cwS (R := R) n X.1.2.2.2.2 hG rfl rfl rfl m5 hR) hp rfl (by simpa using hn) hv.1 (by simp [List.map_append, List.map_reverse]) (lv_room (cat_le rest hst)) hd hR0
    exact run_k hB hrun hS kk
  · have hrun := va_runSN (meth := meth) (locs := locs) (H := H) (below := below) (e := e) (cells := ce) (slots := sl) (g := F0 m pc ls ((As.reverse ++ rest).map (cv ρ))) (rest := rest.map (cv ρ)) (As := As.map (cv ρ)) X.1 (hc l D aC ρ) ⟨va_cnB (R := R) n X.1.2.2.2.2 (TW_cons m4) rfl rfl rfl (hE.1 _ m1 rfl) (X.1.2.2.2.2 _ m3) m5 hR, X.1.2.2.2.2 _ m2, trivial⟩ hp rfl (by simpa using hn) hv.1 (by simp [List.map_append, List.map_reverse]) (lv_room (cat_le rest hst)) hd hR0
    exact run_k hB hrun hS kk
end CR
