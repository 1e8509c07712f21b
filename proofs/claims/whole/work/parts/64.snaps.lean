/-! ===== the reference: snaps ===== -/
def orTo (P : Nat → Bool) : Nat → Bool
  | 0 => false
  | n + 1 => orTo P n || P n
theorem orTo_cong {P Q : Nat → Bool} : ∀ {n : Nat}, (∀ t, t < n → P t = Q t) → orTo P n = orTo Q n
  | 0, _ => rfl
  | n + 1, h => by simp only [orTo]; rw [orTo_cong (fun t ht => h t (by omega)), h n (by omega)]
def winP (z p : Nat → Bool) (ne : Nat) : Nat → Nat → Bool
  | 0, _ => false
  | k + 1, l => if l = k then (z k || orTo (fun t => k.testBit t && p t && !winP z p ne k (k ^^^ 2 ^ t)) ne) else winP z p ne k l
def wqP (z p : Nat → Bool) (ne l : Nat) : Bool := winP z p ne (l + 1) l
theorem winP_st {z p : Nat → Bool} {ne l : Nat} : ∀ {k : Nat}, l < k → winP z p ne k l = wqP z p ne l
  | 0, h => absurd h (Nat.not_lt_zero l)
  | k + 1, h => by
    by_cases e : l = k
    · subst e; rfl
    · simp only [winP, if_neg e]
      exact winP_st (by omega)
theorem wqP_eq {z p : Nat → Bool} {ne l : Nat} : wqP z p ne l = (z l || orTo (fun t => l.testBit t && p t && !wqP z p ne (l ^^^ 2 ^ t)) ne) := by
  have h : ∀ t, t < ne → (l.testBit t && p t && !winP z p ne l (l ^^^ 2 ^ t)) = (l.testBit t && p t && !wqP z p ne (l ^^^ 2 ^ t)) := by
    intro t _
    by_cases hb : l.testBit t = true
    · rw [winP_st (xor_lt hb)]
    · simp [hb]
  show winP z p ne (l + 1) l = _
  simp only [winP, if_true, orTo_cong h]
def zqW (w : WT) (s : Nat → Nat) (a b l : Nat) : Bool := !(TGw w s 0 a ((2 ^ s 1 - 1) &&& (255 ^^^ l))).testBit b
def pqW (w : WT) (s : Nat → Nat) (t : Nat) : Bool := decide (0 < esW w s 0 t)
def wqW (w : WT) (s : Nat → Nat) (a b l : Nat) : Bool := wqP (zqW w s a b) (pqW w s) (s 1) l
def PBw (w : WT) (s : Nat → Nat) (a b l t : Nat) : Bool := l.testBit t && pqW w s t && !wqW w s a b (l ^^^ 2 ^ t)
theorem wqW_eq {w : WT} {s : Nat → Nat} {a b l : Nat} : wqW w s a b l = (zqW w s a b l || orTo (PBw w s a b l) (s 1)) := wqP_eq
def qSnaps (w : WT) (s : Nat → Nat) (a b : Int32) : Int32 := if t1 (ok2 w a b) = 0 then b2i (wqW w s (cl a) (cl b) (HN w s 0)) else -1
def qSnapsBy (w : WT) (s : Nat → Nat) (a b : Int32) : Int32 := if t1 (ok2 w a b) = 0 then (if (TGw w s 0 (cl a) 0).testBit (cl b) then enc2 (fst1 (fun t => (HN w s 0).testBit t && !wqW w s (cl a) (cl b) (HN w s 0 ^^^ 2 ^ t)) (s 1)) else -2) else -1
theorem andx {l t : Nat} (hl : l < 256) (ht : t < 8) (hb : l.testBit t = true) : l &&& (255 ^^^ 2 ^ t) = l ^^^ 2 ^ t := by
  apply Nat.eq_of_testBit_eq
  intro i
  rw [Nat.testBit_and, Nat.testBit_xor, Nat.testBit_xor, show (255 : Nat) = 2 ^ 8 - 1 from rfl, Nat.testBit_two_pow_sub_one]
  by_cases e : t = i
  · subst e; rw [Nat.testBit_two_pow_self, hb]; simp [ht]
  · rw [Nat.testBit_two_pow_of_ne e]
    by_cases h8 : i < 8
    · simp [h8]
    · have : l.testBit i = false := Nat.testBit_lt_two_pow (Nat.lt_of_lt_of_le hl (show 2 ^ 8 ≤ 2 ^ i from Nat.pow_le_pow_right (by decide) (by omega)))
      simp [this]
theorem HN_lt (w : WT) (s : Nat → Nat) (n : Nat) : HN w s n < 2 ^ s 1 := maskTo_lt _ _
theorem tgW_lt {w : WT} {s : Nat → Nat} {n a but : Nat} {A : AH} (ha : a < 7) (hY : RY (s 1) (e1W w s) (e2W w s) (esW w s n) A) : tgV (e1W w s) (e2W w s) (esW w s n) (s 1) a but < 2 ^ 31 := Nat.lt_trans (tgO_lt ha (fun i hi => ⟨(hY.2.2 i hi).2.2.2.1, (hY.2.2 i hi).2.2.2.2.1⟩) 7) (by decide)
set_option maxRecDepth 4000 in
theorem c_X13_snapping {K : Option Value → AH → Prop} {A : AH} {r : Value} {w : WT} {s : Nat → Nat} {a b : Nat} (hC : MC w s A) (ha : a < 7) (hb : b < 7) (h : ∀ A', RY (s 1) (e1W w s) (e2W w s) (esW w s 0) A' → QM A A' → (∀ l, l < 2 ^ s 1 → A'.1 110 l = b2i (wqW w s a b l)) → K none A') : Ct yX13_snapping mX13_snapping 4 dM (GG (.ref 111) r) [.ref 100, .int (nI a), .int (nI b)] A K := by
  refine Ct.of [some (.ref 100), some (.int (nI a)), some (.int (nI b)), none, none, none] rfl rfl rfl (Nat.le_of_ble_eq_true rfl) ?_
  have h8 := hC.2.2.2.1.2.1
  have h256 : 2 ^ s 1 ≤ 256 := Nat.pow_le_pow_right (n := 2) (j := 8) (by decide) h8
  have h1 : 1 ≤ 2 ^ s 1 := Nat.one_le_two_pow
  have lp56 : ∀ (nf : Nat) (l i : Nat) (A' : AH), l < 2 ^ s 1 → i ≤ s 1 → QM A A' → RY (s 1) (e1W w s) (e2W w s) (esW w s 0) A' → (∀ j, j < l → A'.1 110 j = b2i (wqW w s a b j)) → A'.1 110 l = b2i (zqW w s a b l || orTo (PBw w s a b l) i) → (∀ A'', QM A A'' → RY (s 1) (e1W w s) (e2W w s) (esW w s 0) A'' → (∀ j, j < l + 1 → A''.1 110 j = b2i (wqW w s a b j)) → WP mX13_snapping 4 dM (GG (.ref 111) r) 126 [some (.ref 100), some (.int (nI a)), some (.int (nI b)), some (.int (nI (2 ^ s 1 - 1))), some (.int (nI l)), none] [] A'' K) → s 1 - i < nf → WP mX13_snapping 4 dM (GG (.ref 111) r) 56 [some (.ref 100), some (.int (nI a)), some (.int (nI b)), some (.int (nI (2 ^ s 1 - 1))), some (.int (nI l)), some (.int (nI i))] [] A' K := by
    intro nf
    induction nf with
    | zero => intros; omega
    | succ nf ih =>
      intro l i A' hl hi hQ hY2 hb2 hcur hk2 hms
      refine w_iload 58 dX13_snapping_56 rfl rfl ?_
      refine w_aload_n 59 dX13_snapping_58 rfl rfl ?_
      refine w_getiv 62 dX13_snapping_59 rfl faX13_360 rfl rfl rfl hY2.1 ?_
      refine w_icgeN 126 65 dX13_snapping_62 rfl rfl (by omega) (by omega) (fun c62 => ?_) (fun c62 => ?_)
      · skip
        have e : i = s 1 := by omega
        subst e
        refine wp_to ?_ rfl rfl (hk2 A' hQ hY2 (fun j hj => ?_))
        · simp [lle]
        · by_cases q : j = l
          · subst q; rw [hcur, ← wqW_eq]
          · exact hb2 j (by omega)
      · skip
        refine w_aload_n 66 dX13_snapping_65 rfl rfl ?_
        refine w_getr 69 dX13_snapping_66 rfl faX13_42 rfl rfl rfl (r := .ref 110) rfl ?_
        refine w_iload 71 dX13_snapping_69 rfl rfl ?_
        refine w_zaldv 72 dX13_snapping_71 rfl rfl rfl (by decide) (by omega) hcur ?_
        refine w_ifneB 120 75 dX13_snapping_72 rfl rfl (fun c72 => ?_) (fun c72 => ?_)
        · skip
          refine w_inc5 123 dX13_snapping_120 rfl (by decide) rfl (v := nI (_ + 1)) (nI_1 _) ?_
          refine w_goto 56 dX13_snapping_123 rfl ?_
          refine ih l (i + 1) A' hl (by omega) hQ hY2 hb2 ?_ hk2 (by omega)
          rw [hcur]; congr 1; simp only [orTo]; rw [← Bool.or_assoc, c72]; rfl
        · skip
          refine w_iload 77 dX13_snapping_75 rfl rfl ?_
          refine w_iload 79 dX13_snapping_77 rfl rfl ?_
          refine w_invs2 82 dX13_snapping_79 rfl slX13_277 (d' := 0) (by decide) (Nat.le_of_ble_eq_true rfl) (c_X13_bit ?_)
          rw [hasB_nI (by omega) (by omega)]
          refine w_ifeqB 120 85 dX13_snapping_82 rfl rfl (fun c82 => ?_) (fun c82 => ?_)
          · skip
            refine w_inc5 123 dX13_snapping_120 rfl (by decide) rfl (v := nI (_ + 1)) (nI_1 _) ?_
            refine w_goto 56 dX13_snapping_123 rfl ?_
            refine ih l (i + 1) A' hl (by omega) hQ hY2 hb2 ?_ hk2 (by omega)
            rw [hcur]; congr 1; simp only [orTo, PBw, pqW, c82]; simp
          · skip
            refine w_aload_n 86 dX13_snapping_85 rfl rfl ?_
            refine w_getr 89 dX13_snapping_86 rfl faX13_36 rfl rfl rfl (r := .ref 108) rfl ?_
            refine w_iload 91 dX13_snapping_89 rfl rfl ?_
            have hfs := (hY2.2.2 i c62).2.2.2.2.2
            refine w_ialdv 92 dX13_snapping_91 rfl rfl rfl (by decide) (by omega) (hY2.2.2 i c62).2.2.1 ?_
            refine w_ifleN 120 95 dX13_snapping_92 rfl rfl (by omega) (fun c92 => ?_) (fun c92 => ?_)
            · skip
              refine w_inc5 123 dX13_snapping_120 rfl (by decide) rfl (v := nI (_ + 1)) (nI_1 _) ?_
              refine w_goto 56 dX13_snapping_123 rfl ?_
              refine ih l (i + 1) A' hl (by omega) hQ hY2 hb2 ?_ hk2 (by omega)
              rw [hcur]; congr 1; simp only [orTo, PBw, pqW, c82, c92]; simp
            · skip
              refine w_aload_n 96 dX13_snapping_95 rfl rfl ?_
              refine w_getr 99 dX13_snapping_96 rfl faX13_42 rfl rfl rfl (r := .ref 110) rfl ?_
              refine w_iload 101 dX13_snapping_99 rfl rfl ?_
              refine w_iconst 102 dX13_snapping_101 rfl (v := nI 1) rfl ?_
              refine w_iload 104 dX13_snapping_102 rfl rfl ?_
              refine w_shl1 105 dX13_snapping_104 rfl (by omega) ?_
              refine w_iconst 106 dX13_snapping_105 rfl (v := (-1)) rfl ?_
              refine w_ixor 107 dX13_snapping_106 rfl ?_
              have hxl := xor_lt c82
              refine w_iand 108 dX13_snapping_107 rfl ?_
              refine w_top (show nI l &&& (nI (2 ^ i) ^^^ -1) = nI (l ^^^ 2 ^ i) by rw [not_and (by omega), andx (by omega) (by omega) c82]) ?_
              refine w_zaldv 109 dX13_snapping_108 rfl rfl rfl (by decide) (by omega) (hb2 _ hxl) ?_
              refine w_ifneB 120 112 dX13_snapping_109 rfl rfl (fun c109 => ?_) (fun c109 => ?_)
              · skip
                refine w_inc5 123 dX13_snapping_120 rfl (by decide) rfl (v := nI (_ + 1)) (nI_1 _) ?_
                refine w_goto 56 dX13_snapping_123 rfl ?_
                refine ih l (i + 1) A' hl (by omega) hQ hY2 hb2 ?_ hk2 (by omega)
                rw [hcur]; congr 1; simp only [orTo, PBw, pqW, c82, c109]; simp
              · skip
                refine w_aload_n 113 dX13_snapping_112 rfl rfl ?_
                refine w_getr 116 dX13_snapping_113 rfl faX13_42 rfl rfl rfl (r := .ref 110) rfl ?_
                refine w_iload 118 dX13_snapping_116 rfl rfl ?_
                refine w_iconst 119 dX13_snapping_118 rfl (v := nI 1) rfl ?_
                refine w_zastN 120 dX13_snapping_119 rfl rfl rfl (by decide) (by omega) ?_
                refine w_inc5 123 dX13_snapping_120 rfl (by decide) rfl (v := nI (_ + 1)) (nI_1 _) ?_
                refine w_goto 56 dX13_snapping_123 rfl ?_
                refine ih l (i + 1) _ hl (by omega) (hQ.a (by decide) (by decide) _ _) (hY2.cong (by dsimp only; rw [upd2_ne (by decide)]) (by dsimp only; rw [upd2_ne (by decide)]) (by dsimp only; rw [upd2_ne (by decide)]) (by dsimp only; rw [upd2_ne (by decide)])) (fun j hj => by dsimp only; rw [upd2_off (by omega)]; exact hb2 j hj) ?_ hk2 (by omega)
                dsimp only; rw [upd2_at]; simp only [orTo, PBw, pqW, c82, c109, decide_eq_true c92]; simp; rfl
  have lp17 : ∀ (nf : Nat) (l : Nat) (A' : AH) (y : Option Value), l ≤ 2 ^ s 1 → QM A A' → RY (s 1) (e1W w s) (e2W w s) (esW w s 0) A' → (∀ j, j < l → A'.1 110 j = b2i (wqW w s a b j)) → 2 ^ s 1 - l < nf → WP mX13_snapping 4 dM (GG (.ref 111) r) 17 [some (.ref 100), some (.int (nI a)), some (.int (nI b)), some (.int (nI (2 ^ s 1 - 1))), some (.int (nI l)), y] [] A' K := by
    intro nf
    induction nf with
    | zero => intros; omega
    | succ nf ih =>
      intro l A' y hl hQ hY2 hb2 hms
      have hC2 := hC.q hQ
      refine w_iload 19 dX13_snapping_17 rfl rfl ?_
      refine w_iload_n 20 dX13_snapping_19 rfl rfl ?_
      refine w_icgtN 132 23 dX13_snapping_20 rfl rfl (by omega) (by omega) (fun c20 => ?_) (fun c20 => ?_)
      · skip
        refine wr_v dX13_snapping_132 rfl ?_
        exact h A' hY2 hQ (fun j hj => hb2 j (by omega))
      · skip
        have c20 : l < 2 ^ s 1 := by omega
        refine w_aload_n 24 dX13_snapping_23 rfl rfl ?_
        refine w_getr 27 dX13_snapping_24 rfl faX13_42 rfl rfl rfl (r := .ref 110) rfl ?_
        refine w_iload 29 dX13_snapping_27 rfl rfl ?_
        refine w_aload_n 30 dX13_snapping_29 rfl rfl ?_
        refine w_iload_n 31 dX13_snapping_30 rfl rfl ?_
        refine w_iload_n 32 dX13_snapping_31 rfl rfl ?_
        refine w_iload 34 dX13_snapping_32 rfl rfl ?_
        refine w_iconst 35 dX13_snapping_34 rfl (v := (-1)) rfl ?_
        refine w_ixor 36 dX13_snapping_35 rfl ?_
        refine w_iand 37 dX13_snapping_36 rfl ?_
        refine w_top (not_and (by omega)) ?_
        refine w_inv2 40 dX13_snapping_37 rfl mlX13_389 rfl rfl (d' := 2) (by decide) (Nat.le_of_ble_eq_true rfl) (c_X13_together hY2 (by omega) (Nat.lt_of_le_of_lt Nat.and_le_left (by omega)) ?_)
        refine w_iload_n 41 dX13_snapping_40 rfl rfl ?_
        refine w_invs2 44 dX13_snapping_41 rfl slX13_277 (d' := 0) (by decide) (Nat.le_of_ble_eq_true rfl) (c_X13_bit ?_)
        rw [hasB_nI (tgW_lt (by omega) hY2) (by omega)]
        refine w_ifneB 51 47 dX13_snapping_44 rfl rfl (fun c44 => ?_) (fun c44 => ?_)
        · skip
          refine w_iconst 52 dX13_snapping_51 rfl (v := nI 0) rfl ?_
          refine w_zastN 53 dX13_snapping_52 rfl rfl rfl (by decide) (by omega) ?_
          refine w_iconst 54 dX13_snapping_53 rfl (v := nI 0) rfl ?_
          refine w_ist5 56 dX13_snapping_54 rfl (by decide) rfl ?_
          refine lp56 _ l 0 _ c20 (Nat.zero_le _) (hQ.a (by decide) (by decide) _ _) (hY2.cong (by dsimp only; rw [upd2_ne (by decide)]) (by dsimp only; rw [upd2_ne (by decide)]) (by dsimp only; rw [upd2_ne (by decide)]) (by dsimp only; rw [upd2_ne (by decide)])) (fun j hj => by dsimp only; rw [upd2_off (by omega)]; exact hb2 j hj) ?_ (fun A4 hQ4 hY4 hb4 => ?_) (Nat.lt_succ_self _)
          · dsimp only; rw [upd2_at]; simp only [zqW, orTo, Bool.or_false, TGw, c44]; rfl
          refine w_inc4 129 dX13_snapping_126 rfl (by decide) rfl (v := nI (_ + 1)) (nI_1 _) ?_
          refine w_goto 17 dX13_snapping_129 rfl ?_
          exact ih (l + 1) A4 none (by omega) hQ4 hY4 hb4 (by omega)
        · skip
          refine w_iconst 48 dX13_snapping_47 rfl (v := nI 1) rfl ?_
          refine w_goto 52 dX13_snapping_48 rfl ?_
          refine w_zastN 53 dX13_snapping_52 rfl rfl rfl (by decide) (by omega) ?_
          refine w_iconst 54 dX13_snapping_53 rfl (v := nI 0) rfl ?_
          refine w_ist5 56 dX13_snapping_54 rfl (by decide) rfl ?_
          refine lp56 _ l 0 _ c20 (Nat.zero_le _) (hQ.a (by decide) (by decide) _ _) (hY2.cong (by dsimp only; rw [upd2_ne (by decide)]) (by dsimp only; rw [upd2_ne (by decide)]) (by dsimp only; rw [upd2_ne (by decide)]) (by dsimp only; rw [upd2_ne (by decide)])) (fun j hj => by dsimp only; rw [upd2_off (by omega)]; exact hb2 j hj) ?_ (fun A4 hQ4 hY4 hb4 => ?_) (Nat.lt_succ_self _)
          · dsimp only; rw [upd2_at]; simp only [zqW, orTo, Bool.or_false, TGw, c44]; rfl
          refine w_inc4 129 dX13_snapping_126 rfl (by decide) rfl (v := nI (_ + 1)) (nI_1 _) ?_
          refine w_goto 17 dX13_snapping_129 rfl ?_
          exact ih (l + 1) A4 none (by omega) hQ4 hY4 hb4 (by omega)
  refine w_aload_n 1 dX13_snapping_0 rfl rfl ?_
  refine w_iconst 2 dX13_snapping_1 rfl (v := nI 0) rfl ?_
  refine w_inv1 5 dX13_snapping_2 rfl mlX13_398 rfl rfl (d' := 3) (by decide) (Nat.le_of_ble_eq_true rfl) (c_X13_lays hC (by decide) (fun A3 hY hX hQ3 => ?_))
  refine w_iconst 6 dX13_snapping_5 rfl (v := nI 1) rfl ?_
  refine w_aload_n 7 dX13_snapping_6 rfl rfl ?_
  refine w_getiv 10 dX13_snapping_7 rfl faX13_360 rfl rfl rfl hY.1 ?_
  refine w_shl1 11 dX13_snapping_10 rfl (by omega) ?_
  refine w_iconst 12 dX13_snapping_11 rfl (v := nI 1) rfl ?_
  refine w_isubN 13 dX13_snapping_12 rfl h1 ?_
  refine w_ist3 14 dX13_snapping_13 rfl (by decide) rfl ?_
  refine w_iconst 15 dX13_snapping_14 rfl (v := nI 0) rfl ?_
  refine w_ist4 17 dX13_snapping_15 rfl (by decide) rfl ?_
  exact lp17 _ 0 A3 none (Nat.zero_le _) hQ3 hY (fun j hj => absurd hj (Nat.not_lt_zero j)) (Nat.lt_succ_self _)

set_option maxRecDepth 4000 in
theorem c_X13_snaps {K : Option Value → AH → Prop} {A : AH} {r : Value} {w : WT} {s : Nat → Nat} (hC : MC w s A) {a b : Int32} (h : ∀ A', QM A A' → A'.1 100 1 = nI (t1 (ok2 w a b)) → A'.1 100 2 = -1 → K (some (.int (qSnaps w s a b))) A') : Ct yX13_snaps mX13_snaps 5 dM (GG (.ref 111) r) [.ref 100, .int a, .int b] A K := by
  refine Ct.of [some (.ref 100), some (.int a), some (.int b)] rfl rfl rfl (Nat.le_of_ble_eq_true rfl) ?_
  refine w_aload_n 1 dX13_snaps_0 rfl rfl ?_
  refine w_iconst 2 dX13_snaps_1 rfl (v := nI 0) rfl ?_
  refine w_puti 5 dX13_snaps_2 rfl faX13_46 rfl rfl rfl rfl ?_
  have hQ1 : QM A (upd2 A.1 100 0 (nI 0), A.2) := QM.rf.f (by decide) _
  have hC1 := hC.q hQ1
  refine w_aload_n 6 dX13_snaps_5 rfl rfl ?_
  refine w_iload_n 7 dX13_snaps_6 rfl rfl ?_
  refine w_iload_n 8 dX13_snaps_7 rfl rfl ?_
  refine w_inv2 11 dX13_snaps_8 rfl mlX13_408 rfl rfl (d' := 1) (by decide) (Nat.le_of_ble_eq_true rfl) (c_X13_areTwo hC1 ?_)
  refine w_ifneB 20 14 dX13_snaps_11 rfl rfl (fun c11 => ?_) (fun c11 => ?_)
  · skip
    have hr := hC.rooms
    obtain ⟨a, b, rfl, rfl, ha, hb, hab⟩ := ok2_of c11 hr.2.1
    have hz : t1 (ok2 w (nI a) (nI b)) = 0 := by rw [c11]; rfl
    have h8 := hC.2.2.2.1.2.1
    have h256 : 2 ^ s 1 ≤ 256 := Nat.pow_le_pow_right (n := 2) (j := 8) (by decide) h8
    have hH := HN_lt w s 0
    refine w_aload_n 21 dX13_snaps_20 rfl rfl ?_
    refine w_iload_n 22 dX13_snaps_21 rfl rfl ?_
    refine w_iload_n 23 dX13_snaps_22 rfl rfl ?_
    refine w_inv2 26 dX13_snaps_23 rfl mlX13_481 rfl rfl (d' := 4) (by decide) (Nat.le_of_ble_eq_true rfl) (c_X13_snapping hC1 (by omega) (by omega) (fun A3 hY hQ3 hW => ?_))
    refine w_aload_n 27 dX13_snaps_26 rfl rfl ?_
    refine w_aload_n 28 dX13_snaps_27 rfl rfl ?_
    refine w_getr 31 dX13_snaps_28 rfl faX13_42 rfl rfl rfl (r := .ref 110) rfl ?_
    refine w_aload_n 32 dX13_snaps_31 rfl rfl ?_
    refine w_inv0 35 dX13_snaps_32 rfl mlX13_405 rfl rfl (d' := 0) (by decide) (Nat.le_of_ble_eq_true rfl) (c_X13_held hY ?_)
    refine w_zaldv 36 dX13_snaps_35 rfl rfl rfl (by decide) (show HN w s 0 < 256 by omega) (hW _ hH) ?_
    refine w_ifeqB 43 39 dX13_snaps_36 rfl rfl (fun c36 => ?_) (fun c36 => ?_)
    · skip
      have c36 : wqW w s a b (HN w s 0) = false := c36
      refine w_iconst 44 dX13_snaps_43 rfl (v := nI 0) rfl ?_
      refine w_inv1 47 dX13_snaps_44 rfl mlX13_56 rfl rfl (d' := 0) (by decide) (Nat.le_of_ble_eq_true rfl) (c_X13_good (fun A9 hQ9 ht9 hw9 => ?_))
      refine wr_i dX13_snaps_47 rfl ?_
      exact kq (h A9 ((hQ1.tr hQ3).tr hQ9) (by rw [hz]; exact ht9) hw9) (by unfold qSnaps; rw [if_pos hz, cl_nI (show a < 2 ^ 31 by omega), cl_nI (show b < 2 ^ 31 by omega)]; rw [c36]; rfl)
    · skip
      have c36 : wqW w s a b (HN w s 0) = true := c36
      refine w_iconst 40 dX13_snaps_39 rfl (v := nI 1) rfl ?_
      refine w_goto 44 dX13_snaps_40 rfl ?_
      refine w_inv1 47 dX13_snaps_44 rfl mlX13_56 rfl rfl (d' := 0) (by decide) (Nat.le_of_ble_eq_true rfl) (c_X13_good (fun A9 hQ9 ht9 hw9 => ?_))
      refine wr_i dX13_snaps_47 rfl ?_
      exact kq (h A9 ((hQ1.tr hQ3).tr hQ9) (by rw [hz]; exact ht9) hw9) (by unfold qSnaps; rw [if_pos hz, cl_nI (show a < 2 ^ 31 by omega), cl_nI (show b < 2 ^ 31 by omega)]; rw [c36]; rfl)
  · skip
    refine w_aload_n 15 dX13_snaps_14 rfl rfl ?_
    refine w_iconst 16 dX13_snaps_15 rfl (v := nI 1) rfl ?_
    refine w_inv1 19 dX13_snaps_16 rfl mlX13_52 rfl rfl (d' := 0) (by decide) (Nat.le_of_ble_eq_true rfl) (c_X13_refused (fun A2 hQ2 ht2 hw2 => ?_))
    refine wr_i dX13_snaps_19 rfl ?_
    exact kq (h A2 (hQ1.tr hQ2) (by rw [ht2, c11]; rfl) hw2) (by unfold qSnaps; rw [c11]; rfl)

set_option maxRecDepth 4000 in
theorem a_X13_snapsBy {K : Option Value → AH → Prop} {A : AH} {r : Value} {w : WT} {s : Nat → Nat} {a b : Nat} (h8 : s 1 ≤ 8) (hY : RY (s 1) (e1W w s) (e2W w s) (esW w s 0) A) (hW : ∀ l, l < 2 ^ s 1 → A.1 110 l = b2i (wqW w s a b l)) (h : ∀ A', QM A A' → A'.1 100 1 = nI 0 → A'.1 100 2 = -1 → K (some (.int (enc2 (fst1 (fun t => (HN w s 0).testBit t && !wqW w s a b (HN w s 0 ^^^ 2 ^ t)) (s 1))))) A') : WP mX13_snapsBy 5 dM (GG (.ref 111) r) 51 [some (.ref 100), some (.int (nI a)), some (.int (nI b)), some (.int (nI (HN w s 0))), none] [] A K := by
  have h256 : 2 ^ s 1 ≤ 256 := Nat.pow_le_pow_right (n := 2) (j := 8) (by decide) h8
  have hH := HN_lt w s 0
  have lp54 : ∀ (nf : Nat) (i : Nat), i ≤ s 1 → fst1 (fun t => (HN w s 0).testBit t && !wqW w s a b (HN w s 0 ^^^ 2 ^ t)) i = none → s 1 - i < nf → WP mX13_snapsBy 5 dM (GG (.ref 111) r) 54 [some (.ref 100), some (.int (nI a)), some (.int (nI b)), some (.int (nI (HN w s 0))), some (.int (nI i))] [] A K := by
    intro nf
    induction nf with
    | zero => intros; omega
    | succ nf ih =>
      intro i hi hf hms
      refine w_iload 56 dX13_snapsBy_54 rfl rfl ?_
      refine w_aload_n 57 dX13_snapsBy_56 rfl rfl ?_
      refine w_getiv 60 dX13_snapsBy_57 rfl faX13_360 rfl rfl rfl hY.1 ?_
      refine w_icgeN 101 63 dX13_snapsBy_60 rfl rfl (by omega) (by omega) (fun c60 => ?_) (fun c60 => ?_)
      · skip
        refine w_aload_n 102 dX13_snapsBy_101 rfl rfl ?_
        refine w_bipush 104 dX13_snapsBy_102 rfl (v := (-2)) rfl ?_
        refine w_inv1 107 dX13_snapsBy_104 rfl mlX13_56 rfl rfl (d' := 0) (by decide) (Nat.le_of_ble_eq_true rfl) (c_X13_good (fun A9 hQ9 ht9 hw9 => ?_))
        refine wr_i dX13_snapsBy_107 rfl ?_
        have e : i = s 1 := by omega
        subst e
        exact kq (h A9 hQ9 ht9 hw9) (by rw [hf]; rfl)
      · skip
        refine w_iload_n 64 dX13_snapsBy_63 rfl rfl ?_
        refine w_iload 66 dX13_snapsBy_64 rfl rfl ?_
        refine w_invs2 69 dX13_snapsBy_66 rfl slX13_277 (d' := 0) (by decide) (Nat.le_of_ble_eq_true rfl) (c_X13_bit ?_)
        rw [hasB_nI (by omega) (by omega)]
        refine w_ifeqB 95 72 dX13_snapsBy_69 rfl rfl (fun c69 => ?_) (fun c69 => ?_)
        · skip
          refine w_inc4 98 dX13_snapsBy_95 rfl (by decide) rfl (v := nI (_ + 1)) (nI_1 _) ?_
          refine w_goto 54 dX13_snapsBy_98 rfl ?_
          exact ih (i + 1) (by omega) (by simp [fst1, hf, c69]) (by omega)
        · skip
          refine w_aload_n 73 dX13_snapsBy_72 rfl rfl ?_
          refine w_getr 76 dX13_snapsBy_73 rfl faX13_42 rfl rfl rfl (r := .ref 110) rfl ?_
          refine w_iload_n 77 dX13_snapsBy_76 rfl rfl ?_
          refine w_iconst 78 dX13_snapsBy_77 rfl (v := nI 1) rfl ?_
          refine w_iload 80 dX13_snapsBy_78 rfl rfl ?_
          refine w_shl1 81 dX13_snapsBy_80 rfl (by omega) ?_
          refine w_iconst 82 dX13_snapsBy_81 rfl (v := (-1)) rfl ?_
          refine w_ixor 83 dX13_snapsBy_82 rfl ?_
          have hxl := xor_lt c69
          refine w_iand 84 dX13_snapsBy_83 rfl ?_
          refine w_top (show nI (HN w s 0) &&& (nI (2 ^ i) ^^^ -1) = nI (HN w s 0 ^^^ 2 ^ i) by rw [not_and (by omega), andx (by omega) (by omega) c69]) ?_
          refine w_zaldv 85 dX13_snapsBy_84 rfl rfl rfl (by decide) (by omega) (hW _ (by omega)) ?_
          refine w_ifneB 95 88 dX13_snapsBy_85 rfl rfl (fun c85 => ?_) (fun c85 => ?_)
          · skip
            refine w_inc4 98 dX13_snapsBy_95 rfl (by decide) rfl (v := nI (_ + 1)) (nI_1 _) ?_
            refine w_goto 54 dX13_snapsBy_98 rfl ?_
            exact ih (i + 1) (by omega) (by simp [fst1, hf, c85]) (by omega)
          · skip
            refine w_aload_n 89 dX13_snapsBy_88 rfl rfl ?_
            refine w_iload 91 dX13_snapsBy_89 rfl rfl ?_
            refine w_inv1 94 dX13_snapsBy_91 rfl mlX13_56 rfl rfl (d' := 0) (by decide) (Nat.le_of_ble_eq_true rfl) (c_X13_good (fun A9 hQ9 ht9 hw9 => ?_))
            refine wr_i dX13_snapsBy_94 rfl ?_
            exact kq (h A9 hQ9 ht9 hw9) (by rw [fst1_some hf (by simp [c69, c85]) c60]; rfl)
  refine w_iconst 52 dX13_snapsBy_51 rfl (v := nI 0) rfl ?_
  refine w_ist4 54 dX13_snapsBy_52 rfl (by decide) rfl ?_
  exact lp54 _ 0 (Nat.zero_le _) rfl (Nat.lt_succ_self _)

set_option maxRecDepth 4000 in
theorem c_X13_snapsBy {K : Option Value → AH → Prop} {A : AH} {r : Value} {w : WT} {s : Nat → Nat} (hC : MC w s A) {a b : Int32} (h : ∀ A', QM A A' → A'.1 100 1 = nI (t1 (ok2 w a b)) → A'.1 100 2 = -1 → K (some (.int (qSnapsBy w s a b))) A') : Ct yX13_snapsBy mX13_snapsBy 5 dM (GG (.ref 111) r) [.ref 100, .int a, .int b] A K := by
  refine Ct.of [some (.ref 100), some (.int a), some (.int b), none, none] rfl rfl rfl (Nat.le_of_ble_eq_true rfl) ?_
  refine w_aload_n 1 dX13_snapsBy_0 rfl rfl ?_
  refine w_iconst 2 dX13_snapsBy_1 rfl (v := nI 0) rfl ?_
  refine w_puti 5 dX13_snapsBy_2 rfl faX13_46 rfl rfl rfl rfl ?_
  have hQ1 : QM A (upd2 A.1 100 0 (nI 0), A.2) := QM.rf.f (by decide) _
  have hC1 := hC.q hQ1
  refine w_aload_n 6 dX13_snapsBy_5 rfl rfl ?_
  refine w_iload_n 7 dX13_snapsBy_6 rfl rfl ?_
  refine w_iload_n 8 dX13_snapsBy_7 rfl rfl ?_
  refine w_inv2 11 dX13_snapsBy_8 rfl mlX13_408 rfl rfl (d' := 1) (by decide) (Nat.le_of_ble_eq_true rfl) (c_X13_areTwo hC1 ?_)
  refine w_ifneB 20 14 dX13_snapsBy_11 rfl rfl (fun c11 => ?_) (fun c11 => ?_)
  · skip
    have hr := hC.rooms
    obtain ⟨a, b, rfl, rfl, ha, hb, hab⟩ := ok2_of c11 hr.2.1
    have hz : t1 (ok2 w (nI a) (nI b)) = 0 := by rw [c11]; rfl
    have h8 := hC.2.2.2.1.2.1
    have h256 : 2 ^ s 1 ≤ 256 := Nat.pow_le_pow_right (n := 2) (j := 8) (by decide) h8
    have hH := HN_lt w s 0
    refine w_aload_n 21 dX13_snapsBy_20 rfl rfl ?_
    refine w_iload_n 22 dX13_snapsBy_21 rfl rfl ?_
    refine w_iload_n 23 dX13_snapsBy_22 rfl rfl ?_
    refine w_inv2 26 dX13_snapsBy_23 rfl mlX13_481 rfl rfl (d' := 4) (by decide) (Nat.le_of_ble_eq_true rfl) (c_X13_snapping hC1 (by omega) (by omega) (fun A3 hY hQ3 hW => ?_))
    refine w_aload_n 27 dX13_snapsBy_26 rfl rfl ?_
    refine w_inv0 30 dX13_snapsBy_27 rfl mlX13_405 rfl rfl (d' := 0) (by decide) (Nat.le_of_ble_eq_true rfl) (c_X13_held hY ?_)
    refine w_ist3 31 dX13_snapsBy_30 rfl (by decide) rfl ?_
    refine w_aload_n 32 dX13_snapsBy_31 rfl rfl ?_
    refine w_iload_n 33 dX13_snapsBy_32 rfl rfl ?_
    refine w_iconst 34 dX13_snapsBy_33 rfl (v := nI 0) rfl ?_
    refine w_inv2 37 dX13_snapsBy_34 rfl mlX13_389 rfl rfl (d' := 2) (by decide) (Nat.le_of_ble_eq_true rfl) (c_X13_together hY (by omega) (by decide) ?_)
    refine w_iload_n 38 dX13_snapsBy_37 rfl rfl ?_
    refine w_invs2 41 dX13_snapsBy_38 rfl slX13_277 (d' := 0) (by decide) (Nat.le_of_ble_eq_true rfl) (c_X13_bit ?_)
    rw [hasB_nI (tgW_lt (by omega) hY) (by omega)]
    refine w_ifneB 51 44 dX13_snapsBy_41 rfl rfl (fun c41 => ?_) (fun c41 => ?_)
    · skip
      have c41 : (TGw w s 0 a 0).testBit b = true := c41
      exact a_X13_snapsBy h8 hY hW (fun A9 hQ9 ht9 hw9 => kq (h A9 ((hQ1.tr hQ3).tr hQ9) (by rw [hz]; exact ht9) hw9) (by unfold qSnapsBy; rw [if_pos hz, cl_nI (show a < 2 ^ 31 by omega), cl_nI (show b < 2 ^ 31 by omega)]; rw [c41]; rfl))
    · skip
      have c41 : (TGw w s 0 a 0).testBit b = false := c41
      refine w_aload_n 45 dX13_snapsBy_44 rfl rfl ?_
      refine w_bipush 47 dX13_snapsBy_45 rfl (v := (-2)) rfl ?_
      refine w_inv1 50 dX13_snapsBy_47 rfl mlX13_56 rfl rfl (d' := 0) (by decide) (Nat.le_of_ble_eq_true rfl) (c_X13_good (fun A9 hQ9 ht9 hw9 => ?_))
      refine wr_i dX13_snapsBy_50 rfl ?_
      exact kq (h A9 ((hQ1.tr hQ3).tr hQ9) (by rw [hz]; exact ht9) hw9) (by unfold qSnapsBy; rw [if_pos hz, cl_nI (show a < 2 ^ 31 by omega), cl_nI (show b < 2 ^ 31 by omega)]; rw [c41]; rfl)
  · skip
    refine w_aload_n 15 dX13_snapsBy_14 rfl rfl ?_
    refine w_iconst 16 dX13_snapsBy_15 rfl (v := nI 1) rfl ?_
    refine w_inv1 19 dX13_snapsBy_16 rfl mlX13_52 rfl rfl (d' := 0) (by decide) (Nat.le_of_ble_eq_true rfl) (c_X13_refused (fun A2 hQ2 ht2 hw2 => ?_))
    refine wr_i dX13_snapsBy_19 rfl ?_
    exact kq (h A2 (hQ1.tr hQ2) (by rw [ht2, c11]; rfl) hw2) (by unfold qSnapsBy; rw [c11]; rfl)

