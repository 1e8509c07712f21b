/-! ===== Past ===== -/
def OffL (l : List Nat) (A A' : AH) : Prop := ∀ x, x ∉ l → A'.1 x = A.1 x ∧ A'.2 x = A.2 x
theorem OffL.rf {l : List Nat} {A : AH} : OffL l A A := fun _ _ => ⟨rfl, rfl⟩
theorem OffL.tr {l : List Nat} {A B C : AH} (h : OffL l A B) (h2 : OffL l B C) : OffL l A C := fun x hx => ⟨(h2 x hx).1.trans (h x hx).1, (h2 x hx).2.trans (h x hx).2⟩
theorem OffL.mono {l l' : List Nat} {A B : AH} (h : OffL l A B) (hl : ∀ x ∈ l, x ∈ l') : OffL l' A B := fun x hx => h x (fun q => hx (hl x q))
theorem OffL.upd {l : List Nat} {A A' : AH} (h : OffL l A A') {o : Nat} (ho : o ∈ l) (k : Nat) (x : Int32) : OffL l A (upd2 A'.1 o k x, A'.2) := fun y hy => ⟨(upd2_ne (fun e => hy (by rw [e]; exact ho))).trans (h y hy).1, (h y hy).2⟩
theorem OffL.updj {l : List Nat} {A A' : AH} (h : OffL l A A') {o : Nat} (ho : o ∈ l) (k : Nat) (x : Int64) : OffL l A (A'.1, upd2 A'.2 o k x) := fun y hy => ⟨(h y hy).1, (upd2_ne (fun e => hy (by rw [e]; exact ho))).trans (h y hy).2⟩
theorem OffL.cpy {l : List Nat} {A A' : AH} (h : OffL l A A') {a : Nat} (ha : a ∈ l) (a0 sp dp n : Nat) : OffL l A (cpy2 A'.1 a0 a sp dp n, A'.2) := fun y hy => ⟨(cpy2_ne (fun e => hy (by rw [e]; exact ha))).trans (h y hy).1, (h y hy).2⟩
theorem Off.l {o : Nat} {A A' : AH} (h : Off o A A') : OffL [o] A A' := fun x hx => ⟨h.2 x (fun e => hx (by rw [e]; exact List.mem_singleton.mpr rfl)), by rw [h.1]⟩
def RepP (H I : Nat → Nat → Nat) (nx c m : Nat) (A : AH) : Prop := nx < 16 ∧ c ≤ 16 ∧ m ≤ 3 ∧ A.1 45 2 = nI nx ∧ A.1 45 3 = nI c ∧ A.1 45 4 = nI m ∧ (∀ i k, i < c → k < 51 → A.1 46 ((nx + 15 - i) % 16 * 51 + k) = nI (H i k)) ∧ ∀ i k, i < m → k < 51 → A.1 47 (i * 51 + k) = nI (I i k)
def pushH (s : Nat → Nat) (H : Nat → Nat → Nat) : Nat → Nat → Nat := fun i => if i = 0 then s else H (i - 1)
theorem RepP.keep {H I : Nat → Nat → Nat} {nx c m : Nat} {A : AH} {s : Nat → Nat} (h : RepP H I nx c m A) (hS : RepS s A) : RepP (pushH s H) I ((nx + 1) % 16) (if c < 16 then c + 1 else 16) m (upd2 (upd2 (cpy2 A.1 44 46 0 (nx * 51) 51) 45 2 (nI ((nx + 1) % 16))) 45 3 (nI (if c < 16 then c + 1 else 16)), A.2) := by
  obtain ⟨h1, h2, h3, h4, h5, h6, h7, h8⟩ := h
  refine ⟨Nat.mod_lt _ (by decide), by split <;> omega, h3, ?_, ?_, ?_, fun i k hi hk => ?_, fun i k hi hk => ?_⟩
  · dsimp only
    rw [upd2_off (by decide), upd2_at]
  · dsimp only
    exact upd2_at
  · dsimp only
    rw [upd2_off (by decide), upd2_off (by decide), cpy2_ne (by decide), h6]
  · dsimp only
    rw [upd2_ne (by decide), upd2_ne (by decide)]
    by_cases e : i = 0
    · subst e
      have hs : ((nx + 1) % 16 + 15 - 0) % 16 = nx := by omega
      rw [hs, cpy2_in (by omega) (by omega), show 0 + (nx * 51 + k - nx * 51) = k by omega]
      exact hS k hk
    · have hs : ((nx + 1) % 16 + 15 - i) % 16 = (nx + 15 - (i - 1)) % 16 := by split at hi <;> omega
      have hne : (nx + 15 - (i - 1)) % 16 ≠ nx := by split at hi <;> omega
      rw [hs, cpy2_out (by omega), h7 (i - 1) k (by split at hi <;> omega) hk]
      simp [pushH, e]
  · dsimp only
    rw [upd2_ne (by decide), upd2_ne (by decide), cpy2_ne (by decide)]
    exact h8 i k hi hk
theorem RepP.back {H I : Nat → Nat → Nat} {nx c m : Nat} {A : AH} (h : RepP H I nx c m A) (hc : 0 < c) : RepP (fun i => H (i + 1)) I ((nx + 15) % 16) (c - 1) m (cpy2 (upd2 (upd2 A.1 45 2 (nI ((nx + 15) % 16))) 45 3 (nI (c - 1))) 46 44 ((nx + 15) % 16 * 51) 0 51, A.2) ∧ RepS (H 0) (cpy2 (upd2 (upd2 A.1 45 2 (nI ((nx + 15) % 16))) 45 3 (nI (c - 1))) 46 44 ((nx + 15) % 16 * 51) 0 51, A.2) := by
  obtain ⟨h1, h2, h3, h4, h5, h6, h7, h8⟩ := h
  refine ⟨⟨Nat.mod_lt _ (by decide), by omega, h3, ?_, ?_, ?_, fun i k hi hk => ?_, fun i k hi hk => ?_⟩, fun k hk => ?_⟩
  · dsimp only
    rw [cpy2_ne (by decide), upd2_off (by decide), upd2_at]
  · dsimp only
    rw [cpy2_ne (by decide), upd2_at]
  · dsimp only
    rw [cpy2_ne (by decide), upd2_off (by decide), upd2_off (by decide), h6]
  · dsimp only
    rw [cpy2_ne (by decide), upd2_ne (by decide), upd2_ne (by decide)]
    have hs : ((nx + 15) % 16 + 15 - i) % 16 = (nx + 15 - (i + 1)) % 16 := by omega
    rw [hs]
    exact h7 (i + 1) k (by omega) hk
  · dsimp only
    rw [cpy2_ne (by decide), upd2_ne (by decide), upd2_ne (by decide)]
    exact h8 i k hi hk
  · dsimp only
    rw [cpy2_in (Nat.zero_le _) (by omega), upd2_ne (by decide), upd2_ne (by decide), Nat.sub_zero]
    exact h7 0 k hc hk
theorem RepP.img {H I : Nat → Nat → Nat} {nx c m : Nat} {A : AH} {s : Nat → Nat} (h : RepP H I nx c m A) (hS : RepS s A) (hm : m < 3) : RepP H (fun i => if i = m then s else I i) nx c (m + 1) (upd2 (cpy2 A.1 44 47 0 (m * 51) 51) 45 4 (nI (m + 1)), A.2) := by
  obtain ⟨h1, h2, h3, h4, h5, h6, h7, h8⟩ := h
  refine ⟨h1, h2, by omega, ?_, ?_, ?_, fun i k hi hk => ?_, fun i k hi hk => ?_⟩
  · dsimp only
    rw [upd2_off (by decide), cpy2_ne (by decide), h4]
  · dsimp only
    rw [upd2_off (by decide), cpy2_ne (by decide), h5]
  · dsimp only
    exact upd2_at
  · dsimp only
    rw [upd2_ne (by decide), cpy2_ne (by decide)]
    exact h7 i k hi hk
  · dsimp only
    rw [upd2_ne (by decide)]
    by_cases e : i = m
    · subst e
      rw [cpy2_in (by omega) (by omega), show 0 + (i * 51 + k - i * 51) = k by omega]
      simp only [if_pos]
      exact hS k hk
    · rw [cpy2_out (by omega), if_neg e]
      exact h8 i k (by omega) hk
theorem RepP.go {H I : Nat → Nat → Nat} {nx c m i : Nat} {A : AH} (h : RepP H I nx c m A) (hi : i < m) : RepP H I nx 0 m (upd2 (cpy2 A.1 47 44 (i * 51) 0 51) 45 3 (nI 0), A.2) ∧ RepS (I i) (upd2 (cpy2 A.1 47 44 (i * 51) 0 51) 45 3 (nI 0), A.2) := by
  obtain ⟨h1, h2, h3, h4, h5, h6, h7, h8⟩ := h
  refine ⟨⟨h1, by omega, h3, ?_, ?_, ?_, fun i k hi hk => absurd hi (Nat.not_lt_zero _), fun i k hi hk => ?_⟩, fun k hk => ?_⟩
  · dsimp only
    rw [upd2_off (by decide), cpy2_ne (by decide), h4]
  · dsimp only
    exact upd2_at
  · dsimp only
    rw [upd2_off (by decide), cpy2_ne (by decide), h6]
  · dsimp only
    rw [upd2_ne (by decide), cpy2_ne (by decide)]
    exact h8 i k hi hk
  · dsimp only
    rw [upd2_ne (by decide), cpy2_in (Nat.zero_le _) (by omega), Nat.sub_zero]
    exact h8 i k hi hk
theorem RepP.cong {H I : Nat → Nat → Nat} {nx c m : Nat} {A A' : AH} (h : RepP H I nx c m A) (h45 : A'.1 45 = A.1 45) (h46 : A'.1 46 = A.1 46) (h47 : A'.1 47 = A.1 47) : RepP H I nx c m A' := by
  obtain ⟨h1, h2, h3, h4, h5, h6, h7, h8⟩ := h
  exact ⟨h1, h2, h3, by rw [h45]; exact h4, by rw [h45]; exact h5, by rw [h45]; exact h6, fun i k hi hk => by rw [h46]; exact h7 i k hi hk, fun i k hi hk => by rw [h47]; exact h8 i k hi hk⟩
theorem min16 {c : Nat} (h : c ≤ 16) : (if nI 16 < nI (c + 1) then nI 16 else nI (c + 1)) = nI (if c < 16 then c + 1 else 16) := by
  by_cases e : c < 16
  · rw [if_neg (fun q => by rw [nI_ltI (by decide) (by omega)] at q; omega), if_pos e]
  · rw [if_pos ((nI_ltI (by decide) (by omega)).mpr (by omega)), if_neg e]
set_option maxRecDepth 4000 in
theorem c_X4_forget {K : Option Value → AH → Prop} {A : AH} (h : K none (upd2 (upd2 A.1 45 3 (nI 0)) 45 4 (nI 0), A.2)) : Ct yX4_forget mX4_forget 0 dC gC [.ref 45] A K := by
  refine Ct.of [some (.ref 45)] rfl rfl rfl (Nat.le_of_ble_eq_true rfl) ?_
  refine w_aload_n 1 dX4_forget_0 rfl rfl ?_
  refine w_iconst 2 dX4_forget_1 rfl (v := nI 0) rfl ?_
  refine w_puti 5 dX4_forget_2 rfl faX4_18 rfl rfl rfl rfl ?_
  refine w_aload_n 6 dX4_forget_5 rfl rfl ?_
  refine w_iconst 7 dX4_forget_6 rfl (v := nI 0) rfl ?_
  refine w_puti 10 dX4_forget_7 rfl faX4_22 rfl rfl rfl rfl ?_
  refine wr_v dX4_forget_10 rfl ?_
  exact h

set_option maxRecDepth 4000 in
theorem c_X4_keep {K : Option Value → AH → Prop} {A : AH} {H I : Nat → Nat → Nat} {nx c m : Nat} {s : Nat → Nat} (hP : RepP H I nx c m A) (hS : RepS s A) (h : ∀ A', RepP (pushH s H) I ((nx + 1) % 16) (if c < 16 then c + 1 else 16) m A' → OffL [45, 46] A A' → K none A') : Ct yX4_keep mX4_keep 2 dC gC [.ref 45, .ref 43] A K := by
  refine Ct.of [some (.ref 45), some (.ref 43)] rfl rfl rfl (Nat.le_of_ble_eq_true rfl) ?_
  obtain ⟨p1, p2, p3, p4, p5, p6, p7, p8⟩ := id hP
  refine w_aload_n 1 dX4_keep_0 rfl rfl ?_
  refine w_aload_n 2 dX4_keep_1 rfl rfl ?_
  refine w_getr 5 dX4_keep_2 rfl faX4_11 rfl rfl rfl (r := .ref 46) rfl ?_
  refine w_aload_n 6 dX4_keep_5 rfl rfl ?_
  refine w_getiv 9 dX4_keep_6 rfl faX4_25 rfl rfl rfl p4 ?_
  refine w_inv2 12 dX4_keep_9 rfl mlX4_28 rfl rfl (d' := 1) (by decide) (Nat.le_of_ble_eq_true rfl) (c_X7_copyTo_46 p1 ?_)
  refine w_aload_n 13 dX4_keep_12 rfl rfl ?_
  refine w_aload_n 14 dX4_keep_13 rfl rfl ?_
  refine w_getiv 17 dX4_keep_14 rfl faX4_25 rfl rfl rfl (show _ = nI nx from p4) ?_
  refine w_iconst 18 dX4_keep_17 rfl (v := nI 1) rfl ?_
  refine w_iaddN 19 dX4_keep_18 rfl ?_
  refine w_bipush 21 dX4_keep_19 rfl (v := nI 16) rfl ?_
  refine w_iremN 22 dX4_keep_21 rfl (by omega) (by omega) (by omega) ?_
  refine w_puti 25 dX4_keep_22 rfl faX4_25 rfl rfl rfl rfl ?_
  refine w_aload_n 26 dX4_keep_25 rfl rfl ?_
  refine w_aload_n 27 dX4_keep_26 rfl rfl ?_
  refine w_getiv 30 dX4_keep_27 rfl faX4_18 rfl rfl rfl (show _ = nI c from p5) ?_
  refine w_iconst 31 dX4_keep_30 rfl (v := nI 1) rfl ?_
  refine w_iaddN 32 dX4_keep_31 rfl ?_
  refine w_bipush 34 dX4_keep_32 rfl (v := nI 16) rfl ?_
  refine w_mmin 37 dX4_keep_34 rfl mxX4_32 (by decide) (Nat.le_of_ble_eq_true rfl) ?_
  refine w_top (min16 p2) ?_
  refine w_puti 40 dX4_keep_37 rfl faX4_18 rfl rfl rfl rfl ?_
  refine wr_v dX4_keep_40 rfl ?_
  exact h _ (hP.keep hS) (((OffL.rf.cpy (by decide) _ _ _ _).upd (by decide) _ _).upd (by decide) _ _)

set_option maxRecDepth 4000 in
theorem c_X4_takeBack {K : Option Value → AH → Prop} {A : AH} {H I : Nat → Nat → Nat} {nx c m : Nat} (hP : RepP H I nx c m A) (hc : 0 < c) (h : ∀ A', RepP (fun i => H (i + 1)) I ((nx + 15) % 16) (c - 1) m A' → RepS (H 0) A' → OffL [44, 45] A A' → K none A') : Ct yX4_takeBack mX4_takeBack 2 dC gC [.ref 45, .ref 43] A K := by
  refine Ct.of [some (.ref 45), some (.ref 43)] rfl rfl rfl (Nat.le_of_ble_eq_true rfl) ?_
  obtain ⟨p1, p2, p3, p4, p5, p6, p7, p8⟩ := id hP
  refine w_aload_n 1 dX4_takeBack_0 rfl rfl ?_
  refine w_getiv 4 dX4_takeBack_1 rfl faX4_18 rfl rfl rfl p5 ?_
  refine w_ifleN 45 7 dX4_takeBack_4 rfl rfl (by omega) (fun c4 => (by omega)) (fun c4 => ?_)
  refine w_aload_n 8 dX4_takeBack_7 rfl rfl ?_
  refine w_aload_n 9 dX4_takeBack_8 rfl rfl ?_
  refine w_getiv 12 dX4_takeBack_9 rfl faX4_25 rfl rfl rfl p4 ?_
  refine w_bipush 14 dX4_takeBack_12 rfl (v := nI 16) rfl ?_
  refine w_iaddN 15 dX4_takeBack_14 rfl ?_
  refine w_iconst 16 dX4_takeBack_15 rfl (v := nI 1) rfl ?_
  refine w_isubN 17 dX4_takeBack_16 rfl (by omega) ?_
  refine w_bipush 19 dX4_takeBack_17 rfl (v := nI 16) rfl ?_
  refine w_iremN 20 dX4_takeBack_19 rfl (by omega) (by omega) (by omega) ?_
  refine w_top (show nI ((nx + 16 - 1) % 16) = nI ((nx + 15) % 16) from rfl) ?_
  refine w_puti 23 dX4_takeBack_20 rfl faX4_25 rfl rfl rfl rfl ?_
  refine w_aload_n 24 dX4_takeBack_23 rfl rfl ?_
  refine w_dup_r 25 dX4_takeBack_24 rfl ?_
  refine w_getiv 28 dX4_takeBack_25 rfl faX4_18 rfl rfl rfl (show _ = nI c from p5) ?_
  refine w_iconst 29 dX4_takeBack_28 rfl (v := nI 1) rfl ?_
  refine w_isubN 30 dX4_takeBack_29 rfl hc ?_
  refine w_puti 33 dX4_takeBack_30 rfl faX4_18 rfl rfl rfl rfl ?_
  refine w_aload_n 34 dX4_takeBack_33 rfl rfl ?_
  refine w_aload_n 35 dX4_takeBack_34 rfl rfl ?_
  refine w_getr 38 dX4_takeBack_35 rfl faX4_11 rfl rfl rfl (r := .ref 46) rfl ?_
  refine w_aload_n 39 dX4_takeBack_38 rfl rfl ?_
  refine w_getiv 42 dX4_takeBack_39 rfl faX4_25 rfl rfl rfl (show _ = nI ((nx + 15) % 16) from by dsimp only; rw [upd2_off (by decide), upd2_at]) ?_
  refine w_inv2 45 dX4_takeBack_42 rfl mlX4_38 rfl rfl (d' := 1) (by decide) (Nat.le_of_ble_eq_true rfl) (c_X7_copyFrom_46 (Nat.mod_lt _ (by decide)) ?_)
  refine wr_v dX4_takeBack_45 rfl ?_
  exact h _ (hP.back hc).1 (hP.back hc).2 (((OffL.rf.upd (by decide) _ _).upd (by decide) _ _).cpy (by decide) _ _ _ _)

set_option maxRecDepth 4000 in
theorem c_X4_takeImage {K : Option Value → AH → Prop} {A : AH} {H I : Nat → Nat → Nat} {nx c m : Nat} {s : Nat → Nat} (hP : RepP H I nx c m A) (hS : RepS s A) (hm : m < 3) (h : ∀ A', RepP H (fun i => if i = m then s else I i) nx c (m + 1) A' → OffL [45, 47] A A' → K none A') : Ct yX4_takeImage mX4_takeImage 2 dC gC [.ref 45, .ref 43] A K := by
  refine Ct.of [some (.ref 45), some (.ref 43)] rfl rfl rfl (Nat.le_of_ble_eq_true rfl) ?_
  obtain ⟨p1, p2, p3, p4, p5, p6, p7, p8⟩ := id hP
  refine w_aload_n 1 dX4_takeImage_0 rfl rfl ?_
  refine w_getiv 4 dX4_takeImage_1 rfl faX4_22 rfl rfl rfl p6 ?_
  refine w_iconst 5 dX4_takeImage_4 rfl (v := nI 3) rfl ?_
  refine w_icgeN 30 8 dX4_takeImage_5 rfl rfl (by omega) (by omega) (fun c5 => (by omega)) (fun c5 => ?_)
  refine w_aload_n 9 dX4_takeImage_8 rfl rfl ?_
  refine w_aload_n 10 dX4_takeImage_9 rfl rfl ?_
  refine w_getr 13 dX4_takeImage_10 rfl faX4_15 rfl rfl rfl (r := .ref 47) rfl ?_
  refine w_aload_n 14 dX4_takeImage_13 rfl rfl ?_
  refine w_getiv 17 dX4_takeImage_14 rfl faX4_22 rfl rfl rfl p6 ?_
  refine w_inv2 20 dX4_takeImage_17 rfl mlX4_28 rfl rfl (d' := 1) (by decide) (Nat.le_of_ble_eq_true rfl) (c_X7_copyTo_47 hm ?_)
  refine w_aload_n 21 dX4_takeImage_20 rfl rfl ?_
  refine w_dup_r 22 dX4_takeImage_21 rfl ?_
  refine w_getiv 25 dX4_takeImage_22 rfl faX4_22 rfl rfl rfl (show _ = nI m from p6) ?_
  refine w_iconst 26 dX4_takeImage_25 rfl (v := nI 1) rfl ?_
  refine w_iaddN 27 dX4_takeImage_26 rfl ?_
  refine w_puti 30 dX4_takeImage_27 rfl faX4_22 rfl rfl rfl rfl ?_
  refine wr_v dX4_takeImage_30 rfl ?_
  exact h _ (hP.img hS hm) ((OffL.rf.cpy (by decide) _ _ _ _).upd (by decide) _ _)

set_option maxRecDepth 4000 in
theorem c_X4_goBack {K : Option Value → AH → Prop} {A : AH} {H I : Nat → Nat → Nat} {nx c m : Nat} {i : Nat} (hP : RepP H I nx c m A) (hi : i < m) (h : ∀ A', RepP H I nx 0 m A' → RepS (I i) A' → OffL [44, 45] A A' → K none A') : Ct yX4_goBack mX4_goBack 2 dC gC [.ref 45, .ref 43, .int (nI i)] A K := by
  refine Ct.of [some (.ref 45), some (.ref 43), some (.int (nI i))] rfl rfl rfl (Nat.le_of_ble_eq_true rfl) ?_
  obtain ⟨p1, p2, p3, p4, p5, p6, p7, p8⟩ := id hP
  refine w_iload_n 1 dX4_goBack_0 rfl rfl ?_
  refine w_ifltN 26 4 dX4_goBack_1 rfl rfl (by omega) ?_
  refine w_iload_n 5 dX4_goBack_4 rfl rfl ?_
  refine w_aload_n 6 dX4_goBack_5 rfl rfl ?_
  refine w_getiv 9 dX4_goBack_6 rfl faX4_22 rfl rfl rfl p6 ?_
  refine w_icgeN 26 12 dX4_goBack_9 rfl rfl (by omega) (by omega) (fun c9 => (by omega)) (fun c9 => ?_)
  refine w_aload_n 13 dX4_goBack_12 rfl rfl ?_
  refine w_aload_n 14 dX4_goBack_13 rfl rfl ?_
  refine w_getr 17 dX4_goBack_14 rfl faX4_15 rfl rfl rfl (r := .ref 47) rfl ?_
  refine w_iload_n 18 dX4_goBack_17 rfl rfl ?_
  refine w_inv2 21 dX4_goBack_18 rfl mlX4_38 rfl rfl (d' := 1) (by decide) (Nat.le_of_ble_eq_true rfl) (c_X7_copyFrom_47 (by omega) ?_)
  refine w_aload_n 22 dX4_goBack_21 rfl rfl ?_
  refine w_iconst 23 dX4_goBack_22 rfl (v := nI 0) rfl ?_
  refine w_puti 26 dX4_goBack_23 rfl faX4_18 rfl rfl rfl rfl ?_
  refine wr_v dX4_goBack_26 rfl ?_
  exact h _ (hP.go hi).1 (hP.go hi).2 ((OffL.rf.cpy (by decide) _ _ _ _).upd (by decide) _ _)
