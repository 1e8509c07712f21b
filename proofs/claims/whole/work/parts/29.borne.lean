/-! ===== the least over some numbers ===== -/
def mo (f : Nat → Nat) (p : Nat → Bool) : Nat → Option Nat
  | 0 => none
  | n + 1 => if p n then (match mo f p n with
    | none => some (f n)
    | some v => some (if f n < v then f n else v)) else mo f p n
theorem mo_flat {f : Nat → Nat} {p : Nat → Bool} {x : Nat} : ∀ {s : Nat}, x ≤ s → cntTo p x = cntTo p s → mo f p s = mo f p x
  | 0, h, _ => by rw [show x = 0 by omega]
  | s + 1, h, hc => by
    by_cases e : x = s + 1
    · rw [e]
    · have hm := cntTo_mono p (m := x) (n := s) (by omega)
      simp only [cntTo] at hc
      split at hc
      · omega
      · next hp =>
        simp only [mo, hp]
        exact mo_flat (by omega) hc
theorem mo_cnt {f : Nat → Nat} {p : Nat → Bool} {x s : Nat} (h : cntTo p x = cntTo p s) : mo f p x = mo f p s := by
  rcases Nat.le_total x s with q | q
  · exact (mo_flat q h).symm
  · exact mo_flat q h.symm
def encO : Option Nat → Int32
  | none => -1
  | some v => nI v
theorem nI_m1 {v : Nat} (h : v < 2 ^ 31) : ¬ nI v = -1 := by
  intro e
  have h1 := congrArg Int32.toInt e
  rw [nI_toInt h] at h1
  have h2 : (-1 : Int32).toInt = -1 := by decide
  omega
theorem mo_le {f : Nat → Nat} {p : Nat → Bool} {c : Nat} (hf : ∀ s, f s ≤ c) : ∀ {n v : Nat}, mo f p n = some v → v ≤ c
  | 0, v, h => by simp [mo] at h
  | n + 1, v, h => by
    simp only [mo] at h
    split at h
    · split at h
      · cases h; exact hf n
      · next u hu =>
        cases h
        split
        · exact hf n
        · exact mo_le hf hu
    · exact mo_le hf h
theorem acr_lt {e1 e2 : Nat → Nat} {s n : Nat} : acr e1 e2 s n < 2 ^ n := maskTo_lt _ n
/-- how much is borne from a to b by the slots of m -/
def bearF (e1 e2 es : Nat → Nat) (m s : Nat) : Nat := sumB es (acr e1 e2 s 13 &&& m) 13
def bearV (nn : Nat) (e1 e2 es : Nat → Nat) (m a b : Nat) : Nat := (mo (bearF e1 e2 es m) (sideP a b) (2 ^ nn)).getD 0
theorem bearF_le {e1 e2 es : Nat → Nat} (h : okE e1 e2 es) (m s : Nat) : bearF e1 e2 es m s ≤ 1287 := sumB_le (n := 13) (fun i hi => (h i hi).2.2)
theorem bearV_le {nn : Nat} {e1 e2 es : Nat → Nat} (h : okE e1 e2 es) (m a b : Nat) : bearV nn e1 e2 es m a b ≤ 1287 := by
  unfold bearV
  cases hm : mo (bearF e1 e2 es m) (sideP a b) (2 ^ nn) with
  | none => simp
  | some v => exact mo_le (bearF_le h m) hm
theorem and_lt {x m n : Nat} (h : x < 2 ^ n) : x &&& m < 2 ^ n := Nat.lt_of_le_of_lt Nat.and_le_left h
theorem maxE {o : Option Nat} (h : ∀ v, o = some v → v < 2 ^ 31) : (if encO o < nI 0 then nI 0 else encO o) = nI (o.getD 0) := by
  cases o with
  | none => decide
  | some v =>
    show (if nI v < nI 0 then nI 0 else nI v) = nI v
    rw [if_neg (by rw [nI_0]; exact nI_lt0 (h v rfl))]
set_option maxRecDepth 4000 in
theorem c_X0_borneBy {K : Option Value → AH → Prop} {A : AH} {nn m a b : Nat} {e1 e2 es : Nat → Nat} (hQ : RepQ nn e1 e2 a b A) (hB : bO es A) (hok : okE e1 e2 es) (hab : cntTo (sideP a b) (2 ^ nn) ≤ 32) (h : K (some (.int (nI (bearV nn e1 e2 es m a b)))) A) : Ct yX0_borneBy mX0_borneBy 1 dC gC [.ref 48, .int (nI m)] A K := by
  refine Ct.of [some (.ref 48), some (.int (nI m)), none, none, none] rfl rfl rfl (Nat.le_of_ble_eq_true rfl) ?_
  have lp4 : ∀ (nf : Nat) (i x : Nat), x ≤ 2 ^ nn → cntTo (sideP a b) x = i → cntTo (sideP a b) (2 ^ nn) - i < nf → WP mX0_borneBy 1 dC gC 4 [some (.ref 48), some (.int (nI m)), some (.int (encO (mo (bearF e1 e2 es m) (sideP a b) x))), some (.int (nI i)), none] [] A K := by
    intro nf
    induction nf with
    | zero => intros; omega
    | succ nf ih =>
      intro i x hx hcx hms
      have hmono := cntTo_mono (sideP a b) hx
      refine w_iload_n 5 dX0_borneBy_4 rfl rfl ?_
      refine w_aload_n 6 dX0_borneBy_5 rfl rfl ?_
      refine w_getiv 9 dX0_borneBy_6 rfl faX0_68 rfl rfl rfl hQ.1 ?_
      refine w_icgeN 50 12 dX0_borneBy_9 rfl rfl (by omega) (by omega) (fun c9 => ?_) (fun c9 => ?_)
      · skip
        rw [mo_cnt (show cntTo (sideP a b) x = cntTo (sideP a b) (2 ^ nn) by omega)]
        refine w_iload_n 51 dX0_borneBy_50 rfl rfl ?_
        refine w_iconst 52 dX0_borneBy_51 rfl (v := nI 0) rfl ?_
        refine w_mmax 55 dX0_borneBy_52 rfl mxX0_81 (by decide) (Nat.le_of_ble_eq_true rfl) ?_
        refine w_top (maxE (fun v hv => by have := mo_le (bearF_le hok m) hv; omega)) ?_
        refine wr_i dX0_borneBy_55 rfl ?_
        exact h
      · skip
        obtain ⟨s, hs, hp, hc⟩ := cntTo_kth c9
        refine w_aload_n 13 dX0_borneBy_12 rfl rfl ?_
        refine w_aload_n 14 dX0_borneBy_13 rfl rfl ?_
        refine w_getr 17 dX0_borneBy_14 rfl faX0_27 rfl rfl rfl (r := .ref 54) rfl ?_
        refine w_iload_n 18 dX0_borneBy_17 rfl rfl ?_
        refine w_ialdv 19 dX0_borneBy_18 rfl rfl rfl (by decide) (by omega) (show _ = nI (acr e1 e2 s 13) from by rw [← hc]; exact hQ.2 s hs hp) ?_
        refine w_iload_n 20 dX0_borneBy_19 rfl rfl ?_
        refine w_iand 21 dX0_borneBy_20 rfl ?_
        refine w_top (nI_and _ _) ?_
        refine w_inv1 24 dX0_borneBy_21 rfl mlX0_78 rfl rfl (d' := 0) (by decide) (Nat.le_of_ble_eq_true rfl) (c_X0_sumOf hB (Nat.lt_trans (and_lt acr_lt) (by decide)) ?_)
        refine w_ist4 26 dX0_borneBy_24 rfl (by decide) rfl ?_
        have hfs : bearF e1 e2 es m s ≤ 1287 := bearF_le hok m s
        have hml : ∀ v, mo (bearF e1 e2 es m) (sideP a b) x = some v → v ≤ 1287 := fun v hv => mo_le (bearF_le hok m) hv
        refine w_iload_n 27 dX0_borneBy_26 rfl rfl ?_
        refine w_iconst 28 dX0_borneBy_27 rfl (v := (-1)) rfl ?_
        refine w_iceq 37 31 dX0_borneBy_28 rfl rfl (fun c28 => ?_) (fun c28 => ?_)
        · skip
          refine w_iload 39 dX0_borneBy_37 rfl rfl ?_
          refine w_goto 43 dX0_borneBy_39 rfl ?_
          refine w_ist2 44 dX0_borneBy_43 rfl (by decide) rfl ?_
          refine w_inc3 47 dX0_borneBy_44 rfl (by decide) rfl (v := nI (_ + 1)) (nI_1 _) ?_
          refine w_goto 4 dX0_borneBy_47 rfl ?_
          have hcs : cntTo (sideP a b) (s + 1) = i + 1 := by simp [cntTo, hp, hc]
          refine wp_to ?_ rfl rfl (ih (i + 1) (s + 1) (by omega) hcs (by omega))
          have hmx : mo (bearF e1 e2 es m) (sideP a b) s = mo (bearF e1 e2 es m) (sideP a b) x := mo_cnt (by omega)
          cases hmo : mo (bearF e1 e2 es m) (sideP a b) x with
          | none => simp [lle, mo, hp, hmx, hmo, encO, bearF]
          | some v =>
            rw [hmo] at c28
            exact absurd c28 (nI_m1 (by have := hml v hmo; omega))
        · skip
          refine w_iload 33 dX0_borneBy_31 rfl rfl ?_
          refine w_iload_n 34 dX0_borneBy_33 rfl rfl ?_
          refine w_icge 42 37 dX0_borneBy_34 rfl rfl (fun c34 => ?_) (fun c34 => ?_)
          · skip
            refine w_iload_n 43 dX0_borneBy_42 rfl rfl ?_
            refine w_ist2 44 dX0_borneBy_43 rfl (by decide) rfl ?_
            refine w_inc3 47 dX0_borneBy_44 rfl (by decide) rfl (v := nI (_ + 1)) (nI_1 _) ?_
            refine w_goto 4 dX0_borneBy_47 rfl ?_
            have hcs : cntTo (sideP a b) (s + 1) = i + 1 := by simp [cntTo, hp, hc]
            refine wp_to ?_ rfl rfl (ih (i + 1) (s + 1) (by omega) hcs (by omega))
            have hmx : mo (bearF e1 e2 es m) (sideP a b) s = mo (bearF e1 e2 es m) (sideP a b) x := mo_cnt (by omega)
            cases hmo : mo (bearF e1 e2 es m) (sideP a b) x with
            | none => rw [hmo] at c28; exact absurd rfl c28
            | some v =>
              have hv := hml v hmo
              rw [hmo] at c34
              have c34 : v ≤ bearF e1 e2 es m s := (nI_leI (by omega) (by omega)).mp c34
              simp [lle, mo, hp, hmx, hmo, encO, Nat.not_lt.mpr c34]
          · skip
            refine w_iload 39 dX0_borneBy_37 rfl rfl ?_
            refine w_goto 43 dX0_borneBy_39 rfl ?_
            refine w_ist2 44 dX0_borneBy_43 rfl (by decide) rfl ?_
            refine w_inc3 47 dX0_borneBy_44 rfl (by decide) rfl (v := nI (_ + 1)) (nI_1 _) ?_
            refine w_goto 4 dX0_borneBy_47 rfl ?_
            have hcs : cntTo (sideP a b) (s + 1) = i + 1 := by simp [cntTo, hp, hc]
            refine wp_to ?_ rfl rfl (ih (i + 1) (s + 1) (by omega) hcs (by omega))
            have hmx : mo (bearF e1 e2 es m) (sideP a b) s = mo (bearF e1 e2 es m) (sideP a b) x := mo_cnt (by omega)
            cases hmo : mo (bearF e1 e2 es m) (sideP a b) x with
            | none => rw [hmo] at c28; exact absurd rfl c28
            | some v =>
              have hv := hml v hmo
              rw [hmo] at c34
              change ¬ (nI v ≤ nI (bearF e1 e2 es m s)) at c34
              have c34 : bearF e1 e2 es m s < v := Nat.not_le.mp (fun q => c34 ((nI_leI (by omega) (by omega)).mpr q))
              simp [lle, mo, hp, hmx, hmo, encO, c34]
              rfl
  refine w_iconst 1 dX0_borneBy_0 rfl (v := (-1)) rfl ?_
  refine w_ist2 2 dX0_borneBy_1 rfl (by decide) rfl ?_
  refine w_iconst 3 dX0_borneBy_2 rfl (v := nI 0) rfl ?_
  refine w_ist3 4 dX0_borneBy_3 rfl (by decide) rfl ?_
  exact lp4 _ 0 0 (Nat.zero_le _) rfl (Nat.lt_succ_self _)

theorem BR.off {nn : Nat} {e1 e2 es : Nat → Nat} {A A' : AH} (h : BR nn e1 e2 es A) (h7 : A'.1 48 7 = nI nn) (hO : OffL [48, 54] A A') : BR nn e1 e2 es A' :=
  ⟨h7, h.2.1, h.2.2.1.cong (hO 49 (by decide)).1 (hO 50 (by decide)).1 (hO 51 (by decide)).1, h.2.2.2.1, fun m hm => by rw [(hO 52 (by decide)).1]; exact h.2.2.2.2.1 m hm, fun m hm => by rw [(hO 53 (by decide)).1]; exact h.2.2.2.2.2 m hm⟩
set_option maxRecDepth 4000 in
theorem c_X0_between {K : Option Value → AH → Prop} {A : AH} {nn a b : Nat} {e1 e2 es : Nat → Nat} (hR : BR nn e1 e2 es A) (ha : a < 7) (hb : b < 7) (hab : a ≠ b) (h : ∀ A', RepQ nn e1 e2 a b A' → A'.1 48 7 = nI nn → OffL [48, 54] A A' → K (some (.int (nI (bearV nn e1 e2 es (maskTo (fun t => decide (0 < es t)) 8) a b)))) A') : Ct yX0_between mX0_between 3 dC gC [.ref 48, .int (nI a), .int (nI b)] A K := by
  refine Ct.of [some (.ref 48), some (.int (nI a)), some (.int (nI b))] rfl rfl rfl (Nat.le_of_ble_eq_true rfl) ?_
  refine w_aload_n 1 dX0_between_0 rfl rfl ?_
  refine w_iload_n 2 dX0_between_1 rfl rfl ?_
  refine w_iload_n 3 dX0_between_2 rfl rfl ?_
  refine w_inv2 6 dX0_between_3 rfl mlX0_84 rfl rfl (d' := 2) (by decide) (Nat.le_of_ble_eq_true rfl) (c_X0_part hR.1 hR.2.1 hR.2.2.1 hR.2.2.2.1 ha hb hab (fun A' hQ h7 hO => ?_))
  have hR2 : BR nn e1 e2 es A' := hR.off h7 hO
  refine w_aload_n 7 dX0_between_6 rfl rfl ?_
  refine w_aload_n 8 dX0_between_7 rfl rfl ?_
  refine w_inv0 11 dX0_between_8 rfl mlX0_88 rfl rfl (d' := 0) (by decide) (Nat.le_of_ble_eq_true rfl) (c_X0_held hR2.2.2.1 hR2.2.2.2.1 ?_)
  refine w_inv1 14 dX0_between_11 rfl mlX0_91 rfl rfl (d' := 1) (by decide) (Nat.le_of_ble_eq_true rfl) (c_X0_borneBy hQ hR2.2.2.2.2 hR2.2.2.2.1 (Nat.le_trans (cntTo_mono _ (p7 hR.2.1)) (part32 a ha b hb hab)) ?_)
  refine wr_i dX0_between_14 rfl ?_
  exact h A' hQ h7 hO

theorem popc_le (m : Nat) : popc m ≤ 8 := cntTo_le _ 8
def lessB (x y : Nat) : Bool := decide (popc x < popc y ∨ (popc x = popc y ∧ x < y))
theorem sub_lt0 {a b : Nat} (ha : a < 2 ^ 30) (hb : b < 2 ^ 30) : nI a - nI b < 0 ↔ a < b := by
  rw [Int32.lt_iff_toInt_lt, pk_sub_toInt ha hb, Int32.toInt_zero]; omega
theorem sub_eq0 {a b : Nat} (ha : a < 2 ^ 30) (hb : b < 2 ^ 30) : nI a - nI b = 0 ↔ a = b := by
  rw [← Int32.toInt_inj, pk_sub_toInt ha hb, Int32.toInt_zero]; omega
set_option maxRecDepth 4000 in
theorem c_X0_isLess {K : Option Value → AH → Prop} {dm : Nat × Nat} {G : Nat → Nat → Value} {A : AH} {x y : Nat} (hx : x < 256) (hy : y < 256) (h : K (some (.int (b2i (lessB x y)))) A) : Ct yX0_isLess mX0_isLess 1 dm G [.int (nI x), .int (nI y)] A K := by
  refine Ct.of [some (.int (nI x)), some (.int (nI y)), none] rfl rfl rfl (Nat.le_of_ble_eq_true rfl) ?_
  refine w_iload_n 1 dX0_isLess_0 rfl rfl ?_
  refine w_invs1 4 dX0_isLess_1 rfl slX0_97 (d' := 0) (by decide) (Nat.le_of_ble_eq_true rfl) (c_J6_bitCount_0f7a4 hx ?_)
  refine w_iload_n 5 dX0_isLess_4 rfl rfl ?_
  refine w_invs1 8 dX0_isLess_5 rfl slX0_97 (d' := 0) (by decide) (Nat.le_of_ble_eq_true rfl) (c_J6_bitCount_0f7a4 hy ?_)
  refine w_isub 9 dX0_isLess_8 rfl ?_
  refine w_ist2 10 dX0_isLess_9 rfl (by decide) rfl ?_
  refine w_iload_n 11 dX0_isLess_10 rfl rfl ?_
  refine w_iflt 23 14 dX0_isLess_11 rfl rfl (fun c11 => ?_) (fun c11 => ?_)
  · skip
    refine w_iconst 24 dX0_isLess_23 rfl (v := nI 1) rfl ?_
    refine w_goto 28 dX0_isLess_24 rfl ?_
    refine wr_z dX0_isLess_28 rfl (by first | rfl | exact nb_b2i _) ?_
    have q1 := popc_le x
    have q2 := popc_le y
    exact kq h (by clear h; simp only [sub_lt0 (show popc x < 2 ^ 30 by omega) (show popc y < 2 ^ 30 by omega), sub_eq0 (show popc x < 2 ^ 30 by omega) (show popc y < 2 ^ 30 by omega)] at *; simp only [lessB, b2i, decide_eq_true_eq]; split <;> first | rfl | (exfalso; omega))
  · skip
    refine w_iload_n 15 dX0_isLess_14 rfl rfl ?_
    refine w_ifne 27 18 dX0_isLess_15 rfl rfl (fun c15 => ?_) (fun c15 => ?_)
    · skip
      refine w_iconst 28 dX0_isLess_27 rfl (v := nI 0) rfl ?_
      refine wr_z dX0_isLess_28 rfl (by first | rfl | exact nb_b2i _) ?_
      have q1 := popc_le x
      have q2 := popc_le y
      exact kq h (by clear h; simp only [sub_lt0 (show popc x < 2 ^ 30 by omega) (show popc y < 2 ^ 30 by omega), sub_eq0 (show popc x < 2 ^ 30 by omega) (show popc y < 2 ^ 30 by omega)] at *; simp only [lessB, b2i, decide_eq_true_eq]; split <;> first | rfl | (exfalso; omega))
    · skip
      refine w_iload_n 19 dX0_isLess_18 rfl rfl ?_
      refine w_iload_n 20 dX0_isLess_19 rfl rfl ?_
      refine w_icgeN 27 23 dX0_isLess_20 rfl rfl (by omega) (by omega) (fun c20 => ?_) (fun c20 => ?_)
      · skip
        refine w_iconst 28 dX0_isLess_27 rfl (v := nI 0) rfl ?_
        refine wr_z dX0_isLess_28 rfl (by first | rfl | exact nb_b2i _) ?_
        have q1 := popc_le x
        have q2 := popc_le y
        exact kq h (by clear h; simp only [sub_lt0 (show popc x < 2 ^ 30 by omega) (show popc y < 2 ^ 30 by omega), sub_eq0 (show popc x < 2 ^ 30 by omega) (show popc y < 2 ^ 30 by omega)] at *; simp only [lessB, b2i, decide_eq_true_eq]; split <;> first | rfl | (exfalso; omega))
      · skip
        refine w_iconst 24 dX0_isLess_23 rfl (v := nI 1) rfl ?_
        refine w_goto 28 dX0_isLess_24 rfl ?_
        refine wr_z dX0_isLess_28 rfl (by first | rfl | exact nb_b2i _) ?_
        have q1 := popc_le x
        have q2 := popc_le y
        exact kq h (by clear h; simp only [sub_lt0 (show popc x < 2 ^ 30 by omega) (show popc y < 2 ^ 30 by omega), sub_eq0 (show popc x < 2 ^ 30 by omega) (show popc y < 2 ^ 30 by omega)] at *; simp only [lessB, b2i, decide_eq_true_eq]; split <;> first | rfl | (exfalso; omega))

def cutB (p ok : Nat → Bool) (g : Nat → Nat) (b0 : Nat) : Nat → Nat
  | 0 => b0
  | s + 1 => if p s && (ok s && lessB (g s) (cutB p ok g b0 s)) then g s else cutB p ok g b0 s
theorem cutB_flat {p ok : Nat → Bool} {g : Nat → Nat} {b0 x : Nat} : ∀ {s : Nat}, x ≤ s → cntTo p x = cntTo p s → cutB p ok g b0 s = cutB p ok g b0 x
  | 0, h, _ => by rw [show x = 0 by omega]
  | s + 1, h, hc => by
    by_cases e : x = s + 1
    · rw [e]
    · have hm := cntTo_mono p (m := x) (n := s) (by omega)
      simp only [cntTo] at hc
      split at hc
      · omega
      · next hp =>
        simp only [cutB, hp, Bool.false_and]
        exact cutB_flat (by omega) hc
theorem cutB_cnt {p ok : Nat → Bool} {g : Nat → Nat} {b0 x s : Nat} (h : cntTo p x = cntTo p s) : cutB p ok g b0 x = cutB p ok g b0 s := by
  rcases Nat.le_total x s with q | q
  · exact (cutB_flat q h).symm
  · exact cutB_flat q h.symm
theorem cutB_lt {p ok : Nat → Bool} {g : Nat → Nat} {b0 c : Nat} (h0 : b0 < c) (hg : ∀ s, g s < c) : ∀ s, cutB p ok g b0 s < c
  | 0 => h0
  | s + 1 => by
    simp only [cutB]
    split
    · exact hg s
    · exact cutB_lt h0 hg s
def heldM (es : Nat → Nat) : Nat := maskTo (fun t => decide (0 < es t)) 8
theorem heldM_lt (es : Nat → Nat) : heldM es < 256 := maskTo_lt _ 8
def cutV (nn : Nat) (e1 e2 es : Nat → Nat) (a b : Nat) : Nat := cutB (sideP a b) (fun s => decide (sumB es (acr e1 e2 s 13 &&& heldM es) 13 = bearV nn e1 e2 es (heldM es) a b)) (fun s => acr e1 e2 s 13 &&& heldM es) (heldM es) (2 ^ nn)
set_option maxRecDepth 4000 in
theorem c_X0_fewestCut {K : Option Value → AH → Prop} {A : AH} {nn a b : Nat} {e1 e2 es : Nat → Nat} (hQ : RepQ nn e1 e2 a b A) (hR : BR nn e1 e2 es A) (hab : cntTo (sideP a b) (2 ^ nn) ≤ 32) (h : K (some (.int (nI (cutV nn e1 e2 es a b)))) A) : Ct yX0_fewestCut mX0_fewestCut 2 dC gC [.ref 48] A K := by
  refine Ct.of [some (.ref 48), none, none, none, none, none] rfl rfl rfl (Nat.le_of_ble_eq_true rfl) ?_
  have lp16 : ∀ (nf : Nat) (i x : Nat), x ≤ 2 ^ nn → cntTo (sideP a b) x = i → cntTo (sideP a b) (2 ^ nn) - i < nf → WP mX0_fewestCut 2 dC gC 16 [some (.ref 48), some (.int (nI (heldM es))), some (.int (nI (bearV nn e1 e2 es (heldM es) a b))), some (.int (nI (cutB (sideP a b) (fun s => decide (sumB es (acr e1 e2 s 13 &&& heldM es) 13 = bearV nn e1 e2 es (heldM es) a b)) (fun s => acr e1 e2 s 13 &&& heldM es) (heldM es) x))), some (.int (nI i)), none] [] A K := by
    intro nf
    induction nf with
    | zero => intros; omega
    | succ nf ih =>
      intro i x hx hcx hms
      have hmono := cntTo_mono (sideP a b) hx
      have hbv := bearV_le (nn := nn) hR.2.2.2.1 (heldM es) a b
      have hcl : (cutB (sideP a b) (fun s => decide (sumB es (acr e1 e2 s 13 &&& heldM es) 13 = bearV nn e1 e2 es (heldM es) a b)) (fun s => acr e1 e2 s 13 &&& heldM es) (heldM es) x) < 256 := cutB_lt (heldM_lt es) (fun s => Nat.lt_of_le_of_lt Nat.and_le_right (heldM_lt es)) x
      refine w_iload 18 dX0_fewestCut_16 rfl rfl ?_
      refine w_aload_n 19 dX0_fewestCut_18 rfl rfl ?_
      refine w_getiv 22 dX0_fewestCut_19 rfl faX0_68 rfl rfl rfl hQ.1 ?_
      refine w_icgeN 64 25 dX0_fewestCut_22 rfl rfl (by omega) (by omega) (fun c22 => ?_) (fun c22 => ?_)
      · skip
        rw [cutB_cnt (show cntTo (sideP a b) x = cntTo (sideP a b) (2 ^ nn) by omega)]
        refine w_iload_n 65 dX0_fewestCut_64 rfl rfl ?_
        refine wr_i dX0_fewestCut_65 rfl ?_
        exact h
      · skip
        obtain ⟨s, hs, hp, hc⟩ := cntTo_kth c22
        have hmx := cutB_cnt (ok := (fun s => decide (sumB es (acr e1 e2 s 13 &&& heldM es) 13 = bearV nn e1 e2 es (heldM es) a b))) (g := (fun s => acr e1 e2 s 13 &&& heldM es)) (b0 := heldM es) (show cntTo (sideP a b) s = cntTo (sideP a b) x by omega)
        have hg : acr e1 e2 s 13 &&& heldM es < 256 := Nat.lt_of_le_of_lt Nat.and_le_right (heldM_lt es)
        refine w_aload_n 26 dX0_fewestCut_25 rfl rfl ?_
        refine w_getr 29 dX0_fewestCut_26 rfl faX0_27 rfl rfl rfl (r := .ref 54) rfl ?_
        refine w_iload 31 dX0_fewestCut_29 rfl rfl ?_
        refine w_ialdv 32 dX0_fewestCut_31 rfl rfl rfl (by decide) (by omega) (show _ = nI (acr e1 e2 s 13) from by rw [← hc]; exact hQ.2 s hs hp) ?_
        refine w_iload_n 33 dX0_fewestCut_32 rfl rfl ?_
        refine w_iand 34 dX0_fewestCut_33 rfl ?_
        refine w_top (nI_and _ _) ?_
        refine w_ist5 36 dX0_fewestCut_34 rfl (by decide) rfl ?_
        refine w_aload_n 37 dX0_fewestCut_36 rfl rfl ?_
        refine w_iload 39 dX0_fewestCut_37 rfl rfl ?_
        refine w_inv1 42 dX0_fewestCut_39 rfl mlX0_78 rfl rfl (d' := 0) (by decide) (Nat.le_of_ble_eq_true rfl) (c_X0_sumOf hR.2.2.2.2 (by omega) ?_)
        refine w_iload_n 43 dX0_fewestCut_42 rfl rfl ?_
        refine w_icneN 58 46 dX0_fewestCut_43 rfl rfl (by have := bearF_le hR.2.2.2.1 (heldM es) s; unfold bearF at this; omega) (by omega) (fun c43 => ?_) (fun c43 => ?_)
        · skip
          refine w_inc4 61 dX0_fewestCut_58 rfl (by decide) rfl (v := nI (_ + 1)) (nI_1 _) ?_
          refine w_goto 16 dX0_fewestCut_61 rfl ?_
          have hcs : cntTo (sideP a b) (s + 1) = i + 1 := by simp [cntTo, hp, hc]
          refine wp_to ?_ rfl rfl (ih (i + 1) (s + 1) (by omega) hcs (by omega))
          simp [lle, cutB, hp, hmx, c43]
        · skip
          refine w_iload 48 dX0_fewestCut_46 rfl rfl ?_
          refine w_iload_n 49 dX0_fewestCut_48 rfl rfl ?_
          refine w_invs2 52 dX0_fewestCut_49 rfl slX0_94 (d' := 1) (by decide) (Nat.le_of_ble_eq_true rfl) (c_X0_isLess hg hcl ?_)
          refine w_ifeqB 58 55 dX0_fewestCut_52 rfl rfl (fun c52 => ?_) (fun c52 => ?_)
          · skip
            refine w_inc4 61 dX0_fewestCut_58 rfl (by decide) rfl (v := nI (_ + 1)) (nI_1 _) ?_
            refine w_goto 16 dX0_fewestCut_61 rfl ?_
            have hcs : cntTo (sideP a b) (s + 1) = i + 1 := by simp [cntTo, hp, hc]
            refine wp_to ?_ rfl rfl (ih (i + 1) (s + 1) (by omega) hcs (by omega))
            simp [lle, cutB, hp, hmx, c43, c52]
          · skip
            refine w_iload 57 dX0_fewestCut_55 rfl rfl ?_
            refine w_ist3 58 dX0_fewestCut_57 rfl (by decide) rfl ?_
            refine w_inc4 61 dX0_fewestCut_58 rfl (by decide) rfl (v := nI (_ + 1)) (nI_1 _) ?_
            refine w_goto 16 dX0_fewestCut_61 rfl ?_
            have hcs : cntTo (sideP a b) (s + 1) = i + 1 := by simp [cntTo, hp, hc]
            refine wp_to ?_ rfl rfl (ih (i + 1) (s + 1) (by omega) hcs (by omega))
            simp [lle, cutB, hp, hmx, c43, c52]
  refine w_aload_n 1 dX0_fewestCut_0 rfl rfl ?_
  refine w_inv0 4 dX0_fewestCut_1 rfl mlX0_88 rfl rfl (d' := 0) (by decide) (Nat.le_of_ble_eq_true rfl) (c_X0_held hR.2.2.1 hR.2.2.2.1 ?_)
  refine w_ist1 5 dX0_fewestCut_4 rfl (by decide) rfl ?_
  refine w_aload_n 6 dX0_fewestCut_5 rfl rfl ?_
  refine w_iload_n 7 dX0_fewestCut_6 rfl rfl ?_
  refine w_inv1 10 dX0_fewestCut_7 rfl mlX0_91 rfl rfl (d' := 1) (by decide) (Nat.le_of_ble_eq_true rfl) (c_X0_borneBy hQ hR.2.2.2.2 hR.2.2.2.1 hab ?_)
  refine w_ist2 11 dX0_fewestCut_10 rfl (by decide) rfl ?_
  refine w_iload_n 12 dX0_fewestCut_11 rfl rfl ?_
  refine w_ist3 13 dX0_fewestCut_12 rfl (by decide) rfl ?_
  refine w_iconst 14 dX0_fewestCut_13 rfl (v := nI 0) rfl ?_
  refine w_ist4 16 dX0_fewestCut_14 rfl (by decide) rfl ?_
  exact lp16 _ 0 0 (Nat.zero_le _) rfl (Nat.lt_succ_self _)
