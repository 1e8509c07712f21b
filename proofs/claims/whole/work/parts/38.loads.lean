/-! ===== loads ===== -/
def BRw (w : WT) (s : Nat → Nat) (n : Nat) (A : AH) : Prop := BR (w.1 1) (e1W w s) (e2W w s) (esW w s n) A
def ldF (w : WT) (s : Nat → Nat) (n m k : Nat) : Nat := BV w s n m (w.2 4 k 0) (w.2 4 k 1)
def ldM (w : WT) (s : Nat → Nat) (n m : Nat) : Nat := maskTo (fun k => decide (w.2 4 k 2 ≤ ldF w s n m k)) (w.1 4)
theorem ldM_lt {w : WT} (h : w.1 4 ≤ 4) (s : Nat → Nat) (n m : Nat) : ldM w s n m < 16 := Nat.lt_of_lt_of_le (maskTo_lt _ _) (show 2 ^ w.1 4 ≤ 2 ^ 4 from Nat.pow_le_pow_right (by decide) h)
theorem BRw.str {w : WT} {s : Nat → Nat} {n n' : Nat} {A A' : AH} (h : BRw w s n A) (hs : okS s) (hw : ofOK w) (d1 : ∀ t, t < 8 → A'.1 51 t = nI (esT s n' t)) (d2 : ∀ t, 8 ≤ t → A'.1 51 t = A.1 51 t) (d3 : RepTS (esT s n') A') (hO : OffL [51, 52] A A') : BRw w s n' A' ∧ Qi A A' := by
  obtain ⟨h1, h2, h3, h4, h5, h6⟩ := h
  have hos : RepOS (esW w s n') A' := fun m hm => by
    rw [(hO 53 (by decide)).1, h6 m hm]
    congr 1
  have hts : RepTS (esW w s n') A' := fun m hm => by
    rw [d3 m hm]
    congr 1
  refine ⟨⟨by rw [(hO 48 (by decide)).1]; exact h1, h2, fun i hi => ?_, okW hs hw n', hts, hos⟩, hO.mono (by decide), by rw [hts 0 (by decide)]; rfl, by rw [hos 0 (by decide)]; rfl⟩
  rw [(hO 49 (by decide)).1, (hO 50 (by decide)).1]
  refine ⟨(h3 i hi).1, (h3 i hi).2.1, ?_⟩
  by_cases h8 : i < 8
  · rw [d1 i h8]; simp [esW, esT, h8]
  · rw [d2 i (by omega), (h3 i hi).2.2]; simp [esW, h8]
set_option maxRecDepth 4000 in
theorem c_X11_partForLoad {K : Option Value → AH → Prop} {A : AH} {w : WT} {s : Nat → Nat} {n k : Nat} (hC : CI w s A) (hR : BRw w s n A) (hk : k < w.1 4) (h : ∀ A', RepQ (w.1 1) (e1W w s) (e2W w s) (w.2 4 k 0) (w.2 4 k 1) A' → BRw w s n A' → Qi A A' → K none A') : Ct yX11_partForLoad mX11_partForLoad 3 dC gC [.ref 0, .int (nI k)] A K := by
  refine Ct.of [some (.ref 0), some (.int (nI k))] rfl rfl rfl (Nat.le_of_ble_eq_true rfl) ?_
  obtain ⟨l0, l1, l2, l3⟩ := hC.2.1.2.2.2.2.2.1 k hk
  have hw7 := hC.2.1.2.2.1.1
  have h4 := hC.2.1.2.2.2.2.1.2.2.1
  refine w_aload_n 1 dX11_partForLoad_0 rfl rfl ?_
  refine w_getr 4 dX11_partForLoad_1 rfl faX11_40 rfl rfl rfl (r := .ref 48) rfl ?_
  refine w_aload_n 5 dX11_partForLoad_4 rfl rfl ?_
  refine w_getr 8 dX11_partForLoad_5 rfl faX11_19 rfl rfl rfl (r := .ref 26) rfl ?_
  refine w_iconst 9 dX11_partForLoad_8 rfl (v := nI 4) rfl ?_
  refine w_iload_n 10 dX11_partForLoad_9 rfl rfl ?_
  refine w_iconst 11 dX11_partForLoad_10 rfl (v := nI 0) rfl ?_
  refine w_inv3 14 dX11_partForLoad_11 rfl mlX11_206 rfl rfl (d' := 1) (by decide) (Nat.le_of_ble_eq_true rfl) (c_X10_cell_26 hC.1 (by decide) (by omega) (by decide) ?_)
  refine w_aload_n 15 dX11_partForLoad_14 rfl rfl ?_
  refine w_getr 18 dX11_partForLoad_15 rfl faX11_19 rfl rfl rfl (r := .ref 26) rfl ?_
  refine w_iconst 19 dX11_partForLoad_18 rfl (v := nI 4) rfl ?_
  refine w_iload_n 20 dX11_partForLoad_19 rfl rfl ?_
  refine w_iconst 21 dX11_partForLoad_20 rfl (v := nI 1) rfl ?_
  refine w_inv3 24 dX11_partForLoad_21 rfl mlX11_206 rfl rfl (d' := 1) (by decide) (Nat.le_of_ble_eq_true rfl) (c_X10_cell_26 hC.1 (by decide) (by omega) (by decide) ?_)
  rw [tbz_in hk, tbz_in hk]
  refine w_inv2 27 dX11_partForLoad_24 rfl mlX11_173 rfl rfl (d' := 2) (by decide) (Nat.le_of_ble_eq_true rfl) (c_X0_part hR.1 hR.2.1 hR.2.2.1 hR.2.2.2.1 (by omega) (by omega) l2 (fun A3 hq h73 hO3 => ?_))
  refine wr_v dX11_partForLoad_27 rfl ?_
  exact h A3 hq (hR.off h73 hO3) (Qi.sub hC.2.2.2.2 hO3 (by decide) (by decide) (by decide))

set_option maxRecDepth 4000 in
theorem c_X11_loadsBorneBy {K : Option Value → AH → Prop} {A : AH} {w : WT} {s : Nat → Nat} {n m : Nat} (hC : CI w s A) (hR : BRw w s n A) (h : ∀ A', BRw w s n A' → Qi A A' → K (some (.int (nI (ldM w s n m)))) A') : Ct yX11_loadsBorneBy mX11_loadsBorneBy 4 dC gC [.ref 0, .int (nI m)] A K := by
  refine Ct.of [some (.ref 0), some (.int (nI m)), none, none] rfl rfl rfl (Nat.le_of_ble_eq_true rfl) ?_
  have hw7 := hC.2.1.2.2.1.1
  have h4 := hC.2.1.2.2.2.2.1.2.2.1
  have lp4 : ∀ (nf : Nat) (i : Nat) (A' : AH), i ≤ w.1 4 → BRw w s n A' → Qi A A' → w.1 4 - i < nf → WP mX11_loadsBorneBy 4 dC gC 4 [some (.ref 0), some (.int (nI m)), some (.int (nI (maskTo (fun k => decide (w.2 4 k 2 ≤ ldF w s n m k)) i))), some (.int (nI i))] [] A' K := by
    intro nf
    induction nf with
    | zero => intros; omega
    | succ nf ih =>
      intro i A' hi hR hQ hms
      have hC2 := hC.off hQ.q
      refine w_iload_n 5 dX11_loadsBorneBy_4 rfl rfl ?_
      refine w_aload_n 6 dX11_loadsBorneBy_5 rfl rfl ?_
      refine w_getr 9 dX11_loadsBorneBy_6 rfl faX11_19 rfl rfl rfl (r := .ref 26) rfl ?_
      refine w_iconst 10 dX11_loadsBorneBy_9 rfl (v := nI 4) rfl ?_
      refine w_inv1 13 dX11_loadsBorneBy_10 rfl mlX11_113 rfl rfl (d' := 1) (by decide) (Nat.le_of_ble_eq_true rfl) (c_X10_howMany_26 hC2.1 (by decide) ?_)
      refine w_icgeN 54 16 dX11_loadsBorneBy_13 rfl rfl (by omega) (by omega) (fun c13 => ?_) (fun c13 => ?_)
      · skip
        have e : i = w.1 4 := by omega
        refine w_iload_n 55 dX11_loadsBorneBy_54 rfl rfl ?_
        refine wr_i dX11_loadsBorneBy_55 rfl ?_
        exact kq (h A' hR hQ) (by rw [e]; rfl)
      · skip
        refine w_aload_n 17 dX11_loadsBorneBy_16 rfl rfl ?_
        refine w_iload_n 18 dX11_loadsBorneBy_17 rfl rfl ?_
        refine w_inv1 21 dX11_loadsBorneBy_18 rfl mlX11_199 rfl rfl (d' := 3) (by decide) (Nat.le_of_ble_eq_true rfl) (c_X11_partForLoad hC2 hR c13 (fun A3 hq hR3 hQ3 => ?_))
        obtain ⟨l0, l1, l2, l3⟩ := hC.2.1.2.2.2.2.2.1 i c13
        have h32 := h32of hw7 l0 l1 l2
        have hC3 := hC2.off hQ3.q
        refine w_aload_n 22 dX11_loadsBorneBy_21 rfl rfl ?_
        refine w_getr 25 dX11_loadsBorneBy_22 rfl faX11_40 rfl rfl rfl (r := .ref 48) rfl ?_
        refine w_iload_n 26 dX11_loadsBorneBy_25 rfl rfl ?_
        refine w_inv1 29 dX11_loadsBorneBy_26 rfl mlX11_184 rfl rfl (d' := 1) (by decide) (Nat.le_of_ble_eq_true rfl) (c_X0_borneBy hq hR3.2.2.2.2 hR3.2.2.2.1 h32 ?_)
        refine w_aload_n 30 dX11_loadsBorneBy_29 rfl rfl ?_
        refine w_getr 33 dX11_loadsBorneBy_30 rfl faX11_19 rfl rfl rfl (r := .ref 26) rfl ?_
        refine w_iconst 34 dX11_loadsBorneBy_33 rfl (v := nI 4) rfl ?_
        refine w_iload_n 35 dX11_loadsBorneBy_34 rfl rfl ?_
        refine w_iconst 36 dX11_loadsBorneBy_35 rfl (v := nI 2) rfl ?_
        refine w_inv3 39 dX11_loadsBorneBy_36 rfl mlX11_206 rfl rfl (d' := 1) (by decide) (Nat.le_of_ble_eq_true rfl) (c_X10_cell_26 hC3.1 (by decide) (by omega) (by decide) ?_)
        rw [tbz_in c13]
        refine w_icltN 48 42 dX11_loadsBorneBy_39 rfl rfl (by have := BV_le hC.2.2.2.1 hC.2.1.2.2.1 n m (w.2 4 i 0) (w.2 4 i 1); unfold BV at this; omega) (by omega) (fun c39 => ?_) (fun c39 => ?_)
        · skip
          refine w_inc3 51 dX11_loadsBorneBy_48 rfl (by decide) rfl (v := nI (_ + 1)) (nI_1 _) ?_
          refine w_goto 4 dX11_loadsBorneBy_51 rfl ?_
          have c39 : ¬ w.2 4 i 2 ≤ ldF w s n m i := Nat.not_le.mpr c39
          refine wp_to ?_ rfl rfl (ih (i + 1) A3 (by omega) hR3 (hQ.tr hQ3) (by omega))
          simp [lle, maskTo, c39]
        · skip
          refine w_iload_n 43 dX11_loadsBorneBy_42 rfl rfl ?_
          refine w_iconst 44 dX11_loadsBorneBy_43 rfl (v := nI 1) rfl ?_
          refine w_iload_n 45 dX11_loadsBorneBy_44 rfl rfl ?_
          refine w_shl1 46 dX11_loadsBorneBy_45 rfl (by omega) ?_
          refine w_ior 47 dX11_loadsBorneBy_46 rfl ?_
          refine w_top (mask_or _ _) ?_
          refine w_ist2 48 dX11_loadsBorneBy_47 rfl (by decide) rfl ?_
          refine w_inc3 51 dX11_loadsBorneBy_48 rfl (by decide) rfl (v := nI (_ + 1)) (nI_1 _) ?_
          refine w_goto 4 dX11_loadsBorneBy_51 rfl ?_
          have c39 : w.2 4 i 2 ≤ ldF w s n m i := c39
          refine wp_to ?_ rfl rfl (ih (i + 1) A3 (by omega) hR3 (hQ.tr hQ3) (by omega))
          simp [lle, maskTo, c39]
  refine w_iconst 1 dX11_loadsBorneBy_0 rfl (v := nI 0) rfl ?_
  refine w_ist2 2 dX11_loadsBorneBy_1 rfl (by decide) rfl ?_
  refine w_iconst 3 dX11_loadsBorneBy_2 rfl (v := nI 0) rfl ?_
  refine w_ist3 4 dX11_loadsBorneBy_3 rfl (by decide) rfl ?_
  exact lp4 _ 0 A (Nat.zero_le _) hR ⟨OffL.rf, hC.2.2.2.2⟩ (Nat.lt_succ_self _)

def rBorne (w : WT) (s : Nat → Nat) (n : Int32) : Int32 := if tY (okW1 w) n = 0 then nI (ldM w s (cl n) (HM w s (cl n))) else -1
def falB (w : WT) (s : Nat → Nat) (k n : Nat) : Bool := decide (ldF w s n (HM w s n) k < w.2 4 k 2)
def rFallsIn (w : WT) (s : Nat → Nat) (k : Int32) : Int32 := if t1 (okR (w.1 4) k) = 0 then enc2 (fst1 (falB w s (cl k)) 61) else -1
def rSpare (w : WT) (s : Nat → Nat) (k : Int32) : Int32 := if t1 (okR (w.1 4) k) = 0 then nI (ldF w s 0 (HM w s 0) (cl k)) - nI (w.2 4 (cl k) 2) else -1000
set_option maxRecDepth 4000 in
theorem c_X11_borne {K : Option Value → AH → Prop} {A : AH} {w : WT} {s : Nat → Nat} (hC : CI w s A) {n : Int32} (h : ∀ A', Qk A A' → A'.1 0 8 = nI (tY (okW1 w) n) → K (some (.int (rBorne w s n))) A') : Ct yX11_borne mX11_borne 5 dC gC [.ref 0, .int n] A K := by
  refine Ct.of [some (.ref 0), some (.int n)] rfl rfl rfl (Nat.le_of_ble_eq_true rfl) ?_
  refine w_aload_n 1 dX11_borne_0 rfl rfl ?_
  refine w_aload_n 2 dX11_borne_1 rfl rfl ?_
  refine w_inv0 5 dX11_borne_2 rfl mlX11_157 rfl rfl (d' := 2) (by decide) (Nat.le_of_ble_eq_true rfl) (c_X11_needWeb hC ?_)
  refine w_iload_n 6 dX11_borne_5 rfl rfl ?_
  refine w_invs1 9 dX11_borne_6 rfl slX11_154 (d' := 1) (by decide) (Nat.le_of_ble_eq_true rfl) (c_X11_needYears ?_)
  refine w_invs2 12 dX11_borne_9 rfl slX11_126 (d' := 0) (by decide) (Nat.le_of_ble_eq_true rfl) (c_X11_firstOfN (Nat.lt_of_le_of_lt (t1_le _) (by decide)) ?_)
  rw [tY_first]
  refine w_inv1 15 dX11_borne_12 rfl mlX11_87 rfl rfl (d' := 0) (by decide) (Nat.le_of_ble_eq_true rfl) (c_X11_refused (Nat.lt_of_le_of_lt (tY_le _ _) (by decide)) ?_)
  refine w_ifeqB 20 18 dX11_borne_15 rfl rfl (fun c15 => ?_) (fun c15 => ?_)
  · skip
    have hz : tY (okW1 w) n = 0 := by simpa using c15
    have hC1 := hC.off (hC.ref (nI (tY (okW1 w) n)))
    obtain ⟨k1, k2⟩ := tY_0 hz
    have hw7 := hC.2.1.2.2.1.1
    obtain ⟨n, rfl, hn⟩ := tI_of k2
    refine w_aload_n 21 dX11_borne_20 rfl rfl ?_
    refine w_iload_n 22 dX11_borne_21 rfl rfl ?_
    refine w_inv1 25 dX11_borne_22 rfl mlX11_145 rfl rfl (d' := 4) (by decide) (Nat.le_of_ble_eq_true rfl) (c_X11_goBehind hC1 hn (fun A2 hR hQ => ?_))
    refine w_aload_n 26 dX11_borne_25 rfl rfl ?_
    refine w_aload_n 27 dX11_borne_26 rfl rfl ?_
    refine w_getr 30 dX11_borne_27 rfl faX11_40 rfl rfl rfl (r := .ref 48) rfl ?_
    refine w_inv0 33 dX11_borne_30 rfl mlX11_161 rfl rfl (d' := 0) (by decide) (Nat.le_of_ble_eq_true rfl) (c_X0_held hR.2.2.1 hR.2.2.2.1 ?_)
    refine w_inv1 36 dX11_borne_33 rfl mlX11_193 rfl rfl (d' := 4) (by decide) (Nat.le_of_ble_eq_true rfl) (c_X11_loadsBorneBy (hC1.off hQ.q) hR (fun A3 hR3 hQ3 => ?_))
    refine wr_i dX11_borne_36 rfl ?_
    exact kq (h A3 (hC.fin (hQ.tr hQ3)).1 (hC.fin (hQ.tr hQ3)).2) (by unfold rBorne; rw [if_pos hz, cl_nI (show n < 2 ^ 31 by omega)]; rfl)
  · skip
    refine w_iconst 19 dX11_borne_18 rfl (v := (-1)) rfl ?_
    refine wr_i dX11_borne_19 rfl ?_
    exact kq (h _ (hC.ref _) (by dsimp only; rw [upd2_at])) (by unfold rBorne; rw [if_neg (of_decide_eq_true c15)])

set_option maxRecDepth 4000 in
theorem c_X11_spare {K : Option Value → AH → Prop} {A : AH} {w : WT} {s : Nat → Nat} (hC : CI w s A) {k : Int32} (h : ∀ A', Qk A A' → A'.1 0 8 = nI (t1 (okR (w.1 4) k)) → K (some (.int (rSpare w s k))) A') : Ct yX11_spare mX11_spare 5 dC gC [.ref 0, .int k] A K := by
  refine Ct.of [some (.ref 0), some (.int k)] rfl rfl rfl (Nat.le_of_ble_eq_true rfl) ?_
  refine w_aload_n 1 dX11_spare_0 rfl rfl ?_
  refine w_aload_n 2 dX11_spare_1 rfl rfl ?_
  refine w_iload_n 3 dX11_spare_2 rfl rfl ?_
  refine w_inv1 6 dX11_spare_3 rfl mlX11_196 rfl rfl (d' := 3) (by decide) (Nat.le_of_ble_eq_true rfl) (c_X11_needLoad hC ?_)
  refine w_inv1 9 dX11_spare_6 rfl mlX11_87 rfl rfl (d' := 0) (by decide) (Nat.le_of_ble_eq_true rfl) (c_X11_refused (Nat.lt_of_le_of_lt (t1_le _) (by decide)) ?_)
  refine w_ifeqB 16 12 dX11_spare_9 rfl rfl (fun c9 => ?_) (fun c9 => ?_)
  · skip
    have hz : t1 (okR (w.1 4) k) = 0 := by simpa using c9
    have hC1 := hC.off (hC.ref (nI (t1 (okR (w.1 4) k))))
    have k1 := t1_0 hz
    have hw7 := hC.2.1.2.2.1.1
    have h4 := hC.2.1.2.2.2.2.1.2.2.1
    obtain ⟨k, rfl, hk⟩ := okR_of k1 (by omega)
    obtain ⟨l0, l1, l2, l3⟩ := hC.2.1.2.2.2.2.2.1 k hk
    have h32 := h32of hw7 l0 l1 l2
    refine w_aload_n 17 dX11_spare_16 rfl rfl ?_
    refine w_iconst 18 dX11_spare_17 rfl (v := nI 0) rfl ?_
    refine w_inv1 21 dX11_spare_18 rfl mlX11_145 rfl rfl (d' := 4) (by decide) (Nat.le_of_ble_eq_true rfl) (c_X11_goBehind hC1 (by decide) (fun A2 hR hQ => ?_))
    refine w_aload_n 22 dX11_spare_21 rfl rfl ?_
    refine w_iload_n 23 dX11_spare_22 rfl rfl ?_
    refine w_inv1 26 dX11_spare_23 rfl mlX11_199 rfl rfl (d' := 3) (by decide) (Nat.le_of_ble_eq_true rfl) (c_X11_partForLoad (hC1.off hQ.q) hR hk (fun A3 hq hR3 hQ3 => ?_))
    have hQ4 := hQ.tr hQ3
    have hC3 := hC1.off hQ4.q
    refine w_aload_n 27 dX11_spare_26 rfl rfl ?_
    refine w_getr 30 dX11_spare_27 rfl faX11_40 rfl rfl rfl (r := .ref 48) rfl ?_
    refine w_aload_n 31 dX11_spare_30 rfl rfl ?_
    refine w_getr 34 dX11_spare_31 rfl faX11_40 rfl rfl rfl (r := .ref 48) rfl ?_
    refine w_inv0 37 dX11_spare_34 rfl mlX11_161 rfl rfl (d' := 0) (by decide) (Nat.le_of_ble_eq_true rfl) (c_X0_held hR3.2.2.1 hR3.2.2.2.1 ?_)
    refine w_inv1 40 dX11_spare_37 rfl mlX11_184 rfl rfl (d' := 1) (by decide) (Nat.le_of_ble_eq_true rfl) (c_X0_borneBy hq hR3.2.2.2.2 hR3.2.2.2.1 h32 ?_)
    refine w_aload_n 41 dX11_spare_40 rfl rfl ?_
    refine w_getr 44 dX11_spare_41 rfl faX11_19 rfl rfl rfl (r := .ref 26) rfl ?_
    refine w_iconst 45 dX11_spare_44 rfl (v := nI 4) rfl ?_
    refine w_iload_n 46 dX11_spare_45 rfl rfl ?_
    refine w_iconst 47 dX11_spare_46 rfl (v := nI 2) rfl ?_
    refine w_inv3 50 dX11_spare_47 rfl mlX11_206 rfl rfl (d' := 1) (by decide) (Nat.le_of_ble_eq_true rfl) (c_X10_cell_26 hC3.1 (by decide) (by omega) (by decide) ?_)
    rw [tbz_in hk]
    refine w_isub 51 dX11_spare_50 rfl ?_
    refine wr_i dX11_spare_51 rfl ?_
    exact kq (h A3 (hC.fin hQ4).1 (hC.fin hQ4).2) (by unfold rSpare; rw [if_pos hz, cl_nI (show k < 2 ^ 31 by omega)]; rfl)
  · skip
    refine w_sipush 15 dX11_spare_12 rfl (v := (-1000)) rfl ?_
    refine wr_i dX11_spare_15 rfl ?_
    exact kq (h _ (hC.ref _) (by dsimp only; rw [upd2_at])) (by unfold rSpare; rw [if_neg (of_decide_eq_true c9)])

set_option maxRecDepth 4000 in
theorem a_X11_fallsIn {K : Option Value → AH → Prop} {A : AH} {w : WT} {s : Nat → Nat} {n0 k : Nat} (hq0 : RepQ (w.1 1) (e1W w s) (e2W w s) (w.2 4 k 0) (w.2 4 k 1) A) (hR0 : BRw w s n0 A) (hC : CI w s A) (hk : k < w.1 4) (h : ∀ A', Qi A A' → K (some (.int (enc2 (fst1 (falB w s k) 61)))) A') : WP mX11_fallsIn 5 dC gC 24 [some (.ref 0), some (.int (nI k)), none] [] A K := by
  have hw7 := hC.2.1.2.2.1.1
  have h4 := hC.2.1.2.2.2.2.1.2.2.1
  obtain ⟨l0, l1, l2, l3⟩ := hC.2.1.2.2.2.2.2.1 k hk
  have h32 := h32of hw7 l0 l1 l2
  have lp26 : ∀ (nf : Nat) (i n1 : Nat) (A' : AH), i ≤ 61 → fst1 (falB w s k) i = none → RepQ (w.1 1) (e1W w s) (e2W w s) (w.2 4 k 0) (w.2 4 k 1) A' → BRw w s n1 A' → Qi A A' → 61 - i < nf → WP mX11_fallsIn 5 dC gC 26 [some (.ref 0), some (.int (nI k)), some (.int (nI i))] [] A' K := by
    intro nf
    induction nf with
    | zero => intros; omega
    | succ nf ih =>
      intro i n1 A' hi hf hq hR hQ hms
      have hC2 := hC.off hQ.q
      refine w_iload_n 27 dX11_fallsIn_26 rfl rfl ?_
      refine w_bipush 29 dX11_fallsIn_27 rfl (v := nI 60) rfl ?_
      refine w_icgtN 79 32 dX11_fallsIn_29 rfl rfl (by omega) (by omega) (fun c29 => ?_) (fun c29 => ?_)
      · skip
        refine w_bipush 81 dX11_fallsIn_79 rfl (v := (-2)) rfl ?_
        refine wr_i dX11_fallsIn_81 rfl ?_
        have e : i = 61 := by omega
        subst e
        exact kq (h A' hQ) (by rw [hf]; rfl)
      · skip
        refine w_aload_n 33 dX11_fallsIn_32 rfl rfl ?_
        refine w_getr 36 dX11_fallsIn_33 rfl faX11_40 rfl rfl rfl (r := .ref 48) rfl ?_
        refine w_aload_n 37 dX11_fallsIn_36 rfl rfl ?_
        refine w_getr 40 dX11_fallsIn_37 rfl faX11_26 rfl rfl rfl (r := .ref 43) rfl ?_
        refine w_iload_n 41 dX11_fallsIn_40 rfl rfl ?_
        refine w_inv2 44 dX11_fallsIn_41 rfl mlX11_202 rfl rfl (d' := 3) (by decide) (Nat.le_of_ble_eq_true rfl) (c_X0_strengthen hC2.2.2.1 hC2.2.2.2.1 (by omega) hC2.2.2.2.2.1 (fun A3 d1 d2 d3 hO3 => ?_))
        obtain ⟨hR3, hQ3'⟩ := hR.str hC.2.2.2.1 hC.2.1.2.2.1 d1 d2 d3 hO3
        have hQ3 := hQ.tr hQ3'
        have hC3 := hC.off hQ3.q
        have hq3 : RepQ (w.1 1) (e1W w s) (e2W w s) (w.2 4 k 0) (w.2 4 k 1) A3 := ⟨by rw [(hO3 48 (by decide)).1]; exact hq.1, fun s hs hp => by rw [(hO3 54 (by decide)).1]; exact hq.2 s hs hp⟩
        refine w_aload_n 45 dX11_fallsIn_44 rfl rfl ?_
        refine w_getr 48 dX11_fallsIn_45 rfl faX11_40 rfl rfl rfl (r := .ref 48) rfl ?_
        refine w_aload_n 49 dX11_fallsIn_48 rfl rfl ?_
        refine w_getr 52 dX11_fallsIn_49 rfl faX11_40 rfl rfl rfl (r := .ref 48) rfl ?_
        refine w_inv0 55 dX11_fallsIn_52 rfl mlX11_161 rfl rfl (d' := 0) (by decide) (Nat.le_of_ble_eq_true rfl) (c_X0_held hR3.2.2.1 hR3.2.2.2.1 ?_)
        refine w_inv1 58 dX11_fallsIn_55 rfl mlX11_184 rfl rfl (d' := 1) (by decide) (Nat.le_of_ble_eq_true rfl) (c_X0_borneBy hq3 hR3.2.2.2.2 hR3.2.2.2.1 h32 ?_)
        refine w_aload_n 59 dX11_fallsIn_58 rfl rfl ?_
        refine w_getr 62 dX11_fallsIn_59 rfl faX11_19 rfl rfl rfl (r := .ref 26) rfl ?_
        refine w_iconst 63 dX11_fallsIn_62 rfl (v := nI 4) rfl ?_
        refine w_iload_n 64 dX11_fallsIn_63 rfl rfl ?_
        refine w_iconst 65 dX11_fallsIn_64 rfl (v := nI 2) rfl ?_
        refine w_inv3 68 dX11_fallsIn_65 rfl mlX11_206 rfl rfl (d' := 1) (by decide) (Nat.le_of_ble_eq_true rfl) (c_X10_cell_26 hC3.1 (by decide) (by omega) (by decide) ?_)
        rw [tbz_in hk]
        refine w_icgeN 73 71 dX11_fallsIn_68 rfl rfl (by have := BV_le hC.2.2.2.1 hC.2.1.2.2.1 i (HM w s i) (w.2 4 k 0) (w.2 4 k 1); unfold BV HM heldM at this; omega) (by omega) (fun c68 => ?_) (fun c68 => ?_)
        · skip
          have c68 : falB w s k i = false := decide_eq_false (Nat.not_lt.mpr c68)
          refine w_inc2 76 dX11_fallsIn_73 rfl (by decide) rfl (v := nI (_ + 1)) (nI_1 _) ?_
          refine w_goto 26 dX11_fallsIn_76 rfl ?_
          exact ih (i + 1) i A3 (by omega) (by simp [fst1, hf, c68]) hq3 hR3 hQ3 (by omega)
        · skip
          have c68 : falB w s k i = true := decide_eq_true c68
          refine w_iload_n 72 dX11_fallsIn_71 rfl rfl ?_
          refine wr_i dX11_fallsIn_72 rfl ?_
          exact kq (h A3 hQ3) (by rw [fst1_some hf c68 (by omega)]; rfl)
  refine w_iconst 25 dX11_fallsIn_24 rfl (v := nI 0) rfl ?_
  refine w_ist2 26 dX11_fallsIn_25 rfl (by decide) rfl ?_
  exact lp26 _ 0 n0 A (Nat.zero_le _) rfl hq0 hR0 ⟨OffL.rf, hC.2.2.2.2⟩ (Nat.lt_succ_self _)

set_option maxRecDepth 4000 in
theorem c_X11_fallsIn {K : Option Value → AH → Prop} {A : AH} {w : WT} {s : Nat → Nat} (hC : CI w s A) {k : Int32} (h : ∀ A', Qk A A' → A'.1 0 8 = nI (t1 (okR (w.1 4) k)) → K (some (.int (rFallsIn w s k))) A') : Ct yX11_fallsIn mX11_fallsIn 5 dC gC [.ref 0, .int k] A K := by
  refine Ct.of [some (.ref 0), some (.int k), none] rfl rfl rfl (Nat.le_of_ble_eq_true rfl) ?_
  refine w_aload_n 1 dX11_fallsIn_0 rfl rfl ?_
  refine w_aload_n 2 dX11_fallsIn_1 rfl rfl ?_
  refine w_iload_n 3 dX11_fallsIn_2 rfl rfl ?_
  refine w_inv1 6 dX11_fallsIn_3 rfl mlX11_196 rfl rfl (d' := 3) (by decide) (Nat.le_of_ble_eq_true rfl) (c_X11_needLoad hC ?_)
  refine w_inv1 9 dX11_fallsIn_6 rfl mlX11_87 rfl rfl (d' := 0) (by decide) (Nat.le_of_ble_eq_true rfl) (c_X11_refused (Nat.lt_of_le_of_lt (t1_le _) (by decide)) ?_)
  refine w_ifeqB 14 12 dX11_fallsIn_9 rfl rfl (fun c9 => ?_) (fun c9 => ?_)
  · skip
    have hz : t1 (okR (w.1 4) k) = 0 := by simpa using c9
    have hC1 := hC.off (hC.ref (nI (t1 (okR (w.1 4) k))))
    have k1 := t1_0 hz
    have hw7 := hC.2.1.2.2.1.1
    have h4 := hC.2.1.2.2.2.2.1.2.2.1
    obtain ⟨k, rfl, hk⟩ := okR_of k1 (by omega)
    obtain ⟨l0, l1, l2, l3⟩ := hC.2.1.2.2.2.2.2.1 k hk
    have h32 := h32of hw7 l0 l1 l2
    refine w_aload_n 15 dX11_fallsIn_14 rfl rfl ?_
    refine w_iconst 16 dX11_fallsIn_15 rfl (v := nI 0) rfl ?_
    refine w_inv1 19 dX11_fallsIn_16 rfl mlX11_145 rfl rfl (d' := 4) (by decide) (Nat.le_of_ble_eq_true rfl) (c_X11_goBehind hC1 (by decide) (fun A2 hR hQ => ?_))
    refine w_aload_n 20 dX11_fallsIn_19 rfl rfl ?_
    refine w_iload_n 21 dX11_fallsIn_20 rfl rfl ?_
    refine w_inv1 24 dX11_fallsIn_21 rfl mlX11_199 rfl rfl (d' := 3) (by decide) (Nat.le_of_ble_eq_true rfl) (c_X11_partForLoad (hC1.off hQ.q) hR hk (fun A3 hq hR3 hQ3 => ?_))
    have hQ4 := hQ.tr hQ3
    have hC3 := hC1.off hQ4.q
    exact a_X11_fallsIn hq hR3 hC3 hk (fun A4 hQ5 => kq (h A4 (hC.fin (hQ4.tr hQ5)).1 (hC.fin (hQ4.tr hQ5)).2) (by unfold rFallsIn; rw [if_pos hz, cl_nI (show k < 2 ^ 31 by omega)]))
  · skip
    refine w_iconst 13 dX11_fallsIn_12 rfl (v := (-1)) rfl ?_
    refine wr_i dX11_fallsIn_13 rfl ?_
    exact kq (h _ (hC.ref _) (by dsimp only; rw [upd2_at])) (by unfold rFallsIn; rw [if_neg (of_decide_eq_true c9)])

/-! ===== offers ===== -/
def costF (w : WT) (m : Nat) : Nat := sumTo (fun k => if m.testBit k then w.2 5 k 3 else 0) (w.1 5)
theorem costF_le {w : WT} (h : okT w) (m : Nat) : costF w m ≤ 495 := by
  have h5 := h.2.2.2.2.1.2.2.2
  have h1 : costF w m ≤ 99 * w.1 5 := sumTo_le (fun i hi => by
    split
    · have := h.2.2.2.2.2.2.1 i; rw [tbz_in hi] at this; exact this
    · omega)
  omega
def okM (w : WT) (s : Nat → Nat) (o : Nat) : Bool := decide (ldM w s 0 (HM w s 0 ||| o * 256) = 2 ^ w.1 4 - 1)
def mndV (w : WT) (s : Nat → Nat) : Option Nat × Nat := lvP (costF w) (okM w s) (2 ^ w.1 5)
def rMend (w : WT) (s : Nat → Nat) : Int32 := if t1 (okW1 w) = 0 then enc2 (mndV w s).1 else -1
def rMendCost (w : WT) (s : Nat → Nat) : Int32 := if t1 (okW1 w) = 0 then enc2 ((mndV w s).1.map (costF w)) else -1
def bofF (w : WT) (s : Nat → Nat) (k : Nat) : Nat := popc (ldM w s 0 (HM w s 0 ||| 2 ^ k * 256))
def hvF (f : Nat → Nat) (m0 : Nat) : Nat → Option Nat × Nat
  | 0 => (none, m0)
  | n + 1 => if (hvF f m0 n).2 < f n then (some n, f n) else hvF f m0 n
theorem hvF_le {f : Nat → Nat} {m0 c : Nat} (h0 : m0 ≤ c) (h : ∀ s, f s ≤ c) : ∀ n, (hvF f m0 n).2 ≤ c
  | 0 => h0
  | n + 1 => by
    simp only [hvF]
    split
    · exact h n
    · exact hvF_le h0 h n
def rBestOffer (w : WT) (s : Nat → Nat) : Int32 := if t1 (okW1 w) = 0 then enc2 (hvF (bofF w s) (popc (ldM w s 0 (HM w s 0))) (w.1 5)).1 else -1
theorem ofO {o : Nat} (h : o < 2 ^ 16) : nI o <<< ((8 : Int32) &&& 31) = nI (o * 256) := pk_shlN (8 &&& 31) 8 (by decide) (by omega)
theorem c_X0_ofOffersN {K : Option Value → AH → Prop} {dm : Nat × Nat} {G : Nat → Nat → Value} {A : AH} {o : Nat} (ho : o < 2 ^ 16) (h : K (some (.int (nI (o * 256)))) A) : Ct yX0_ofOffers mX0_ofOffers 0 dm G [.int (nI o)] A K := c_X0_ofOffers (kq h (ofO ho))
set_option maxRecDepth 4000 in
theorem c_X11_costOf {K : Option Value → AH → Prop} {A : AH} {w : WT} {s : Nat → Nat} {m : Nat} (hC : CI w s A) (hm : m < 2 ^ 31) (h : K (some (.int (nI (costF w m)))) A) : Ct yX11_costOf mX11_costOf 2 dC gC [.ref 0, .int (nI m)] A K := by
  refine Ct.of [some (.ref 0), some (.int (nI m)), none, none] rfl rfl rfl (Nat.le_of_ble_eq_true rfl) ?_
  have h5 := hC.2.1.2.2.2.2.1.2.2.2
  have lp4 : ∀ (nf : Nat) (i : Nat), i ≤ w.1 5 → w.1 5 - i < nf → WP mX11_costOf 2 dC gC 4 [some (.ref 0), some (.int (nI m)), some (.int (nI (sumTo (fun k => if m.testBit k then w.2 5 k 3 else 0) i))), some (.int (nI i))] [] A K := by
    intro nf
    induction nf with
    | zero => intros; omega
    | succ nf ih =>
      intro i hi hms
      refine w_iload_n 5 dX11_costOf_4 rfl rfl ?_
      refine w_aload_n 6 dX11_costOf_5 rfl rfl ?_
      refine w_getr 9 dX11_costOf_6 rfl faX11_19 rfl rfl rfl (r := .ref 26) rfl ?_
      refine w_iconst 10 dX11_costOf_9 rfl (v := nI 5) rfl ?_
      refine w_inv1 13 dX11_costOf_10 rfl mlX11_113 rfl rfl (d' := 1) (by decide) (Nat.le_of_ble_eq_true rfl) (c_X10_howMany_26 hC.1 (by decide) ?_)
      refine w_icgeN 43 16 dX11_costOf_13 rfl rfl (by omega) (by omega) (fun c13 => ?_) (fun c13 => ?_)
      · skip
        have e : i = w.1 5 := by omega
        subst e
        refine w_iload_n 44 dX11_costOf_43 rfl rfl ?_
        refine wr_i dX11_costOf_44 rfl ?_
        exact h
      · skip
        refine w_iload_n 17 dX11_costOf_16 rfl rfl ?_
        refine w_iload_n 18 dX11_costOf_17 rfl rfl ?_
        refine w_invs2 21 dX11_costOf_18 rfl slX11_180 (d' := 0) (by decide) (Nat.le_of_ble_eq_true rfl) (c_X11_has ?_)
        rw [hasB_nI hm (by omega)]
        refine w_ifeqB 37 24 dX11_costOf_21 rfl rfl (fun c21 => ?_) (fun c21 => ?_)
        · skip
          refine w_inc3 40 dX11_costOf_37 rfl (by decide) rfl (v := nI (_ + 1)) (nI_1 _) ?_
          refine w_goto 4 dX11_costOf_40 rfl ?_
          refine wp_to ?_ rfl rfl (ih (i + 1) (by omega) (by omega))
          simp [lle, sumTo, c21]
        · skip
          refine w_iload_n 25 dX11_costOf_24 rfl rfl ?_
          refine w_aload_n 26 dX11_costOf_25 rfl rfl ?_
          refine w_getr 29 dX11_costOf_26 rfl faX11_19 rfl rfl rfl (r := .ref 26) rfl ?_
          refine w_iconst 30 dX11_costOf_29 rfl (v := nI 5) rfl ?_
          refine w_iload_n 31 dX11_costOf_30 rfl rfl ?_
          refine w_iconst 32 dX11_costOf_31 rfl (v := nI 3) rfl ?_
          refine w_inv3 35 dX11_costOf_32 rfl mlX11_206 rfl rfl (d' := 1) (by decide) (Nat.le_of_ble_eq_true rfl) (c_X10_cell_26 hC.1 (by decide) (by omega) (by decide) ?_)
          rw [tbz_in c13]
          refine w_iaddN 36 dX11_costOf_35 rfl ?_
          refine w_ist2 37 dX11_costOf_36 rfl (by decide) rfl ?_
          refine w_inc3 40 dX11_costOf_37 rfl (by decide) rfl (v := nI (_ + 1)) (nI_1 _) ?_
          refine w_goto 4 dX11_costOf_40 rfl ?_
          refine wp_to ?_ rfl rfl (ih (i + 1) (by omega) (by omega))
          simp [lle, sumTo, c21]
  refine w_iconst 1 dX11_costOf_0 rfl (v := nI 0) rfl ?_
  refine w_ist2 2 dX11_costOf_1 rfl (by decide) rfl ?_
  refine w_iconst 3 dX11_costOf_2 rfl (v := nI 0) rfl ?_
  refine w_ist3 4 dX11_costOf_3 rfl (by decide) rfl ?_
  exact lp4 _ 0 (Nat.zero_le _) (Nat.lt_succ_self _)

set_option maxRecDepth 4000 in
theorem c_X11_cheapestMend {K : Option Value → AH → Prop} {A : AH} {w : WT} {s : Nat → Nat} (hC : CI w s A) (h : ∀ A', Qi A A' → K (some (.int (enc2 (mndV w s).1))) A') : Ct yX11_cheapestMend mX11_cheapestMend 5 dC gC [.ref 0] A K := by
  refine Ct.of [some (.ref 0), none, none, none, none, none, none, none] rfl rfl rfl (Nat.le_of_ble_eq_true rfl) ?_
  have h4 := hC.2.1.2.2.2.2.1.2.2.1
  have h5 := hC.2.1.2.2.2.2.1.2.2.2
  have h32 := pw5 h5
  have h16 : 2 ^ w.1 4 ≤ 16 := show 2 ^ w.1 4 ≤ 2 ^ 4 from Nat.pow_le_pow_right (by decide) h4
  have h1 := Nat.one_le_two_pow (n := w.1 4)
  have lp35 : ∀ (nf : Nat) (i : Nat) (A' : AH), i ≤ 2 ^ w.1 5 → BRw w s 0 A' → Qi A A' → 2 ^ w.1 5 - i < nf → WP mX11_cheapestMend 5 dC gC 35 [some (.ref 0), some (.int (nI (HM w s 0))), some (.int (nI (2 ^ w.1 4 - 1))), some (.int (enc2 (lvP (costF w) (okM w s) i).1)), some (.int (nI (lvP (costF w) (okM w s) i).2)), some (.int (nI i)), none, none] [] A' K := by
    intro nf
    induction nf with
    | zero => intros; omega
    | succ nf ih =>
      intro i A' hi hR hQ hms
      have hC2 := hC.off hQ.q
      have hcl := costF_le hC.2.1
      have hle : (lvP (costF w) (okM w s) i).2 ≤ 495 := lvP_le hcl i
      have hci := hcl i
      have hld := ldM_lt h4 s 0 (HM w s 0 ||| i * 256)
      refine w_iload 37 dX11_cheapestMend_35 rfl rfl ?_
      refine w_iconst 38 dX11_cheapestMend_37 rfl (v := nI 1) rfl ?_
      refine w_aload_n 39 dX11_cheapestMend_38 rfl rfl ?_
      refine w_getr 42 dX11_cheapestMend_39 rfl faX11_19 rfl rfl rfl (r := .ref 26) rfl ?_
      refine w_iconst 43 dX11_cheapestMend_42 rfl (v := nI 5) rfl ?_
      refine w_inv1 46 dX11_cheapestMend_43 rfl mlX11_113 rfl rfl (d' := 1) (by decide) (Nat.le_of_ble_eq_true rfl) (c_X10_howMany_26 hC2.1 (by decide) ?_)
      refine w_shl1 47 dX11_cheapestMend_46 rfl (by omega) ?_
      refine w_icgeN 111 50 dX11_cheapestMend_47 rfl rfl (by omega) (by omega) (fun c47 => ?_) (fun c47 => ?_)
      · skip
        have e : i = 2 ^ w.1 5 := by omega
        refine w_iload_n 112 dX11_cheapestMend_111 rfl rfl ?_
        refine wr_i dX11_cheapestMend_112 rfl ?_
        exact kq (h A' hQ) (by rw [e]; rfl)
      · skip
        refine w_aload_n 51 dX11_cheapestMend_50 rfl rfl ?_
        refine w_iload 53 dX11_cheapestMend_51 rfl rfl ?_
        refine w_inv1 56 dX11_cheapestMend_53 rfl mlX11_211 rfl rfl (d' := 2) (by decide) (Nat.le_of_ble_eq_true rfl) (c_X11_costOf hC2 (by omega) ?_)
        refine w_ist6 58 dX11_cheapestMend_56 rfl (by decide) rfl ?_
        refine w_iload_n 59 dX11_cheapestMend_58 rfl rfl ?_
        refine w_bipush 61 dX11_cheapestMend_59 rfl (v := (-2)) rfl ?_
        refine w_iceq 71 64 dX11_cheapestMend_61 rfl rfl (fun c61 => ?_) (fun c61 => ?_)
        · skip
          refine w_iconst 72 dX11_cheapestMend_71 rfl (v := nI 1) rfl ?_
          refine w_goto 76 dX11_cheapestMend_72 rfl ?_
          refine w_ist7 78 dX11_cheapestMend_76 rfl (by decide) rfl ?_
          refine w_iload 80 dX11_cheapestMend_78 rfl rfl ?_
          refine w_ifeqN 105 83 dX11_cheapestMend_80 rfl rfl (by decide) (fun cc => absurd cc (by decide)) (fun _ => ?_)
          refine w_aload_n 84 dX11_cheapestMend_83 rfl rfl ?_
          refine w_iload_n 85 dX11_cheapestMend_84 rfl rfl ?_
          refine w_iload 87 dX11_cheapestMend_85 rfl rfl ?_
          refine w_invs1 90 dX11_cheapestMend_87 rfl slX11_219 (d' := 0) (by decide) (Nat.le_of_ble_eq_true rfl) (c_X0_ofOffersN (by omega) ?_)
          refine w_ior 91 dX11_cheapestMend_90 rfl ?_
          refine w_top (nI_or _ _) ?_
          refine w_inv1 94 dX11_cheapestMend_91 rfl mlX11_193 rfl rfl (d' := 4) (by decide) (Nat.le_of_ble_eq_true rfl) (c_X11_loadsBorneBy hC2 hR (fun A3 hR3 hQ3 => ?_))
          refine w_iload_n 95 dX11_cheapestMend_94 rfl rfl ?_
          refine w_icneN 105 98 dX11_cheapestMend_95 rfl rfl (by omega) (by omega) (fun c95 => ?_) (fun c95 => ?_)
          · skip
            refine w_inc5 108 dX11_cheapestMend_105 rfl (by decide) rfl (v := nI (_ + 1)) (nI_1 _) ?_
            refine w_goto 35 dX11_cheapestMend_108 rfl ?_
            have c95 : okM w s i = false := decide_eq_false c95
            refine wp_to ?_ rfl rfl (ih (i + 1) A3 (by omega) hR3 (hQ.tr hQ3) (by omega))
            simp [lle, lvP, c95]
          · skip
            refine w_iload 100 dX11_cheapestMend_98 rfl rfl ?_
            refine w_ist4 102 dX11_cheapestMend_100 rfl (by decide) rfl ?_
            refine w_iload 104 dX11_cheapestMend_102 rfl rfl ?_
            refine w_ist3 105 dX11_cheapestMend_104 rfl (by decide) rfl ?_
            refine w_inc5 108 dX11_cheapestMend_105 rfl (by decide) rfl (v := nI (_ + 1)) (nI_1 _) ?_
            refine w_goto 35 dX11_cheapestMend_108 rfl ?_
            have c95 : okM w s i = true := decide_eq_true c95
            have c61 := (enc2_m2 (fun k hk => by have := lvP_lt hk; omega)).mp c61
            refine wp_to ?_ rfl rfl (ih (i + 1) A3 (by omega) hR3 (hQ.tr hQ3) (by omega))
            simp [lle, lvP, c95, c61, enc2]
        · skip
          refine w_iload 66 dX11_cheapestMend_64 rfl rfl ?_
          refine w_iload 68 dX11_cheapestMend_66 rfl rfl ?_
          refine w_icgeN 75 71 dX11_cheapestMend_68 rfl rfl (by omega) (by omega) (fun c68 => ?_) (fun c68 => ?_)
          · skip
            refine w_iconst 76 dX11_cheapestMend_75 rfl (v := nI 0) rfl ?_
            refine w_ist7 78 dX11_cheapestMend_76 rfl (by decide) rfl ?_
            refine w_iload 80 dX11_cheapestMend_78 rfl rfl ?_
            refine w_ifeqN 105 83 dX11_cheapestMend_80 rfl rfl (by decide) (fun _ => ?_) (fun cc => absurd cc (by decide))
            refine w_inc5 108 dX11_cheapestMend_105 rfl (by decide) rfl (v := nI (_ + 1)) (nI_1 _) ?_
            refine w_goto 35 dX11_cheapestMend_108 rfl ?_
            have c61 := fun e => c61 ((enc2_m2 (fun k hk => by have := lvP_lt hk; omega)).mpr e)
            have e9 : lvP (costF w) (okM w s) (i + 1) = (lvP (costF w) (okM w s) i) := by simp only [lvP]; rw [if_neg (fun q => q.2.elim c61 (Nat.not_lt.mpr c68))]
            refine wp_to ?_ rfl rfl (ih (i + 1) A' (by omega) hR hQ (by omega))
            simp [lle, e9]
          · skip
            refine w_iconst 72 dX11_cheapestMend_71 rfl (v := nI 1) rfl ?_
            refine w_goto 76 dX11_cheapestMend_72 rfl ?_
            refine w_ist7 78 dX11_cheapestMend_76 rfl (by decide) rfl ?_
            refine w_iload 80 dX11_cheapestMend_78 rfl rfl ?_
            refine w_ifeqN 105 83 dX11_cheapestMend_80 rfl rfl (by decide) (fun cc => absurd cc (by decide)) (fun _ => ?_)
            refine w_aload_n 84 dX11_cheapestMend_83 rfl rfl ?_
            refine w_iload_n 85 dX11_cheapestMend_84 rfl rfl ?_
            refine w_iload 87 dX11_cheapestMend_85 rfl rfl ?_
            refine w_invs1 90 dX11_cheapestMend_87 rfl slX11_219 (d' := 0) (by decide) (Nat.le_of_ble_eq_true rfl) (c_X0_ofOffersN (by omega) ?_)
            refine w_ior 91 dX11_cheapestMend_90 rfl ?_
            refine w_top (nI_or _ _) ?_
            refine w_inv1 94 dX11_cheapestMend_91 rfl mlX11_193 rfl rfl (d' := 4) (by decide) (Nat.le_of_ble_eq_true rfl) (c_X11_loadsBorneBy hC2 hR (fun A3 hR3 hQ3 => ?_))
            refine w_iload_n 95 dX11_cheapestMend_94 rfl rfl ?_
            refine w_icneN 105 98 dX11_cheapestMend_95 rfl rfl (by omega) (by omega) (fun c95 => ?_) (fun c95 => ?_)
            · skip
              refine w_inc5 108 dX11_cheapestMend_105 rfl (by decide) rfl (v := nI (_ + 1)) (nI_1 _) ?_
              refine w_goto 35 dX11_cheapestMend_108 rfl ?_
              have c95 : okM w s i = false := decide_eq_false c95
              refine wp_to ?_ rfl rfl (ih (i + 1) A3 (by omega) hR3 (hQ.tr hQ3) (by omega))
              simp [lle, lvP, c95]
            · skip
              refine w_iload 100 dX11_cheapestMend_98 rfl rfl ?_
              refine w_ist4 102 dX11_cheapestMend_100 rfl (by decide) rfl ?_
              refine w_iload 104 dX11_cheapestMend_102 rfl rfl ?_
              refine w_ist3 105 dX11_cheapestMend_104 rfl (by decide) rfl ?_
              refine w_inc5 108 dX11_cheapestMend_105 rfl (by decide) rfl (v := nI (_ + 1)) (nI_1 _) ?_
              refine w_goto 35 dX11_cheapestMend_108 rfl ?_
              have c95 : okM w s i = true := decide_eq_true c95
              refine wp_to ?_ rfl rfl (ih (i + 1) A3 (by omega) hR3 (hQ.tr hQ3) (by omega))
              simp [lle, lvP, c95, c68, enc2]
  refine w_aload_n 1 dX11_cheapestMend_0 rfl rfl ?_
  refine w_iconst 2 dX11_cheapestMend_1 rfl (v := nI 0) rfl ?_
  refine w_inv1 5 dX11_cheapestMend_2 rfl mlX11_145 rfl rfl (d' := 4) (by decide) (Nat.le_of_ble_eq_true rfl) (c_X11_goBehind hC (by decide) (fun A2 hR hQ => ?_))
  have hC2 := hC.off hQ.q
  refine w_aload_n 6 dX11_cheapestMend_5 rfl rfl ?_
  refine w_getr 9 dX11_cheapestMend_6 rfl faX11_40 rfl rfl rfl (r := .ref 48) rfl ?_
  refine w_inv0 12 dX11_cheapestMend_9 rfl mlX11_161 rfl rfl (d' := 0) (by decide) (Nat.le_of_ble_eq_true rfl) (c_X0_held hR.2.2.1 hR.2.2.2.1 ?_)
  refine w_ist1 13 dX11_cheapestMend_12 rfl (by decide) rfl ?_
  refine w_iconst 14 dX11_cheapestMend_13 rfl (v := nI 1) rfl ?_
  refine w_aload_n 15 dX11_cheapestMend_14 rfl rfl ?_
  refine w_getr 18 dX11_cheapestMend_15 rfl faX11_19 rfl rfl rfl (r := .ref 26) rfl ?_
  refine w_iconst 19 dX11_cheapestMend_18 rfl (v := nI 4) rfl ?_
  refine w_inv1 22 dX11_cheapestMend_19 rfl mlX11_113 rfl rfl (d' := 1) (by decide) (Nat.le_of_ble_eq_true rfl) (c_X10_howMany_26 hC2.1 (by decide) ?_)
  refine w_shl1 23 dX11_cheapestMend_22 rfl (by omega) ?_
  refine w_iconst 24 dX11_cheapestMend_23 rfl (v := nI 1) rfl ?_
  refine w_isubN 25 dX11_cheapestMend_24 rfl h1 ?_
  refine w_ist2 26 dX11_cheapestMend_25 rfl (by decide) rfl ?_
  refine w_bipush 28 dX11_cheapestMend_26 rfl (v := (-2)) rfl ?_
  refine w_ist3 29 dX11_cheapestMend_28 rfl (by decide) rfl ?_
  refine w_iconst 30 dX11_cheapestMend_29 rfl (v := nI 0) rfl ?_
  refine w_ist4 32 dX11_cheapestMend_30 rfl (by decide) rfl ?_
  refine w_iconst 33 dX11_cheapestMend_32 rfl (v := nI 0) rfl ?_
  refine w_ist5 35 dX11_cheapestMend_33 rfl (by decide) rfl ?_
  exact lp35 _ 0 A2 (Nat.zero_le _) hR hQ (Nat.lt_succ_self _)

set_option maxRecDepth 4000 in
theorem c_X11_mend {K : Option Value → AH → Prop} {A : AH} {w : WT} {s : Nat → Nat} (hC : CI w s A)  (h : ∀ A', Qk A A' → A'.1 0 8 = nI (t1 (okW1 w)) → K (some (.int (rMend w s))) A') : Ct yX11_mend mX11_mend 6 dC gC [.ref 0] A K := by
  refine Ct.of [some (.ref 0)] rfl rfl rfl (Nat.le_of_ble_eq_true rfl) ?_
  refine w_aload_n 1 dX11_mend_0 rfl rfl ?_
  refine w_aload_n 2 dX11_mend_1 rfl rfl ?_
  refine w_inv0 5 dX11_mend_2 rfl mlX11_157 rfl rfl (d' := 2) (by decide) (Nat.le_of_ble_eq_true rfl) (c_X11_needWeb hC ?_)
  refine w_inv1 8 dX11_mend_5 rfl mlX11_87 rfl rfl (d' := 0) (by decide) (Nat.le_of_ble_eq_true rfl) (c_X11_refused (Nat.lt_of_le_of_lt (t1_le _) (by decide)) ?_)
  refine w_ifeqB 13 11 dX11_mend_8 rfl rfl (fun c8 => ?_) (fun c8 => ?_)
  · skip
    have hz : t1 (okW1 w) = 0 := by simpa using c8
    have hC1 := hC.off (hC.ref (nI (t1 (okW1 w))))
    skip
    refine w_aload_n 14 dX11_mend_13 rfl rfl ?_
    refine w_inv0 17 dX11_mend_14 rfl mlX11_208 rfl rfl (d' := 5) (by decide) (Nat.le_of_ble_eq_true rfl) (c_X11_cheapestMend hC1 (fun A2 hQ => ?_))
    refine wr_i dX11_mend_17 rfl ?_
    exact kq (h A2 (hC.fin hQ).1 (hC.fin hQ).2) (by unfold rMend; rw [if_pos hz])
  · skip
    refine w_iconst 12 dX11_mend_11 rfl (v := (-1)) rfl ?_
    refine wr_i dX11_mend_12 rfl ?_
    exact kq (h _ (hC.ref _) (by dsimp only; rw [upd2_at])) (by unfold rMend; rw [if_neg (of_decide_eq_true c8)])

set_option maxRecDepth 4000 in
theorem c_X11_mendCost {K : Option Value → AH → Prop} {A : AH} {w : WT} {s : Nat → Nat} (hC : CI w s A)  (h : ∀ A', Qk A A' → A'.1 0 8 = nI (t1 (okW1 w)) → K (some (.int (rMendCost w s))) A') : Ct yX11_mendCost mX11_mendCost 6 dC gC [.ref 0] A K := by
  refine Ct.of [some (.ref 0), none] rfl rfl rfl (Nat.le_of_ble_eq_true rfl) ?_
  refine w_aload_n 1 dX11_mendCost_0 rfl rfl ?_
  refine w_aload_n 2 dX11_mendCost_1 rfl rfl ?_
  refine w_inv0 5 dX11_mendCost_2 rfl mlX11_157 rfl rfl (d' := 2) (by decide) (Nat.le_of_ble_eq_true rfl) (c_X11_needWeb hC ?_)
  refine w_inv1 8 dX11_mendCost_5 rfl mlX11_87 rfl rfl (d' := 0) (by decide) (Nat.le_of_ble_eq_true rfl) (c_X11_refused (Nat.lt_of_le_of_lt (t1_le _) (by decide)) ?_)
  refine w_ifeqB 13 11 dX11_mendCost_8 rfl rfl (fun c8 => ?_) (fun c8 => ?_)
  · skip
    have hz : t1 (okW1 w) = 0 := by simpa using c8
    have hC1 := hC.off (hC.ref (nI (t1 (okW1 w))))
    skip
    refine w_aload_n 14 dX11_mendCost_13 rfl rfl ?_
    refine w_inv0 17 dX11_mendCost_14 rfl mlX11_208 rfl rfl (d' := 5) (by decide) (Nat.le_of_ble_eq_true rfl) (c_X11_cheapestMend hC1 (fun A2 hQ => ?_))
    refine w_ist1 18 dX11_mendCost_17 rfl (by decide) rfl ?_
    refine w_iload_n 19 dX11_mendCost_18 rfl rfl ?_
    refine w_bipush 21 dX11_mendCost_19 rfl (v := (-2)) rfl ?_
    refine w_icne 29 24 dX11_mendCost_21 rfl rfl (fun c21 => ?_) (fun c21 => ?_)
    · skip
      have h5 := pw5 hC.2.1.2.2.2.2.1.2.2.2
      have hm : ∃ o, (mndV w s).1 = some o := by
        cases hm : (mndV w s).1 with
        | none => rw [hm] at c21; exact absurd rfl c21
        | some o => exact ⟨o, rfl⟩
      obtain ⟨o, hm⟩ := hm
      have ho := lvP_lt hm
      rw [hm]
      refine w_aload_n 30 dX11_mendCost_29 rfl rfl ?_
      refine w_iload_n 31 dX11_mendCost_30 rfl rfl ?_
      refine w_inv1 34 dX11_mendCost_31 rfl mlX11_211 rfl rfl (d' := 2) (by decide) (Nat.le_of_ble_eq_true rfl) (c_X11_costOf (hC1.off hQ.q) (by omega) ?_)
      refine wr_i dX11_mendCost_34 rfl ?_
      exact kq (h A2 (hC.fin hQ).1 (hC.fin hQ).2) (by unfold rMendCost; rw [if_pos hz, hm]; rfl)
    · skip
      have hm : (mndV w s).1 = none := (enc2_m2 (fun k hk => by have := lvP_lt hk; have := pw5 hC.2.1.2.2.2.2.1.2.2.2; omega)).mp c21
      refine w_bipush 26 dX11_mendCost_24 rfl (v := (-2)) rfl ?_
      refine w_goto 34 dX11_mendCost_26 rfl ?_
      refine wr_i dX11_mendCost_34 rfl ?_
      exact kq (h A2 (hC.fin hQ).1 (hC.fin hQ).2) (by unfold rMendCost; rw [if_pos hz, hm]; rfl)
  · skip
    refine w_iconst 12 dX11_mendCost_11 rfl (v := (-1)) rfl ?_
    refine wr_i dX11_mendCost_12 rfl ?_
    exact kq (h _ (hC.ref _) (by dsimp only; rw [upd2_at])) (by unfold rMendCost; rw [if_neg (of_decide_eq_true c8)])

set_option maxRecDepth 4000 in
theorem a_X11_bestOffer {K : Option Value → AH → Prop} {A : AH} {w : WT} {s : Nat → Nat} (hC : CI w s A) (hR0 : BRw w s 0 A) (h : ∀ A', Qi A A' → K (some (.int (enc2 (hvF (bofF w s) (popc (ldM w s 0 (HM w s 0))) (w.1 5)).1))) A') : WP mX11_bestOffer 5 dC gC 35 [some (.ref 0), some (.int (nI (HM w s 0))), some (.int (nI (popc (ldM w s 0 (HM w s 0))))), none, none, none] [] A K := by
  have lp41 : ∀ (nf : Nat) (i : Nat) (A' : AH), i ≤ w.1 5 → BRw w s 0 A' → Qi A A' → w.1 5 - i < nf → WP mX11_bestOffer 5 dC gC 41 [some (.ref 0), some (.int (nI (HM w s 0))), some (.int (nI (hvF (bofF w s) (popc (ldM w s 0 (HM w s 0))) i).2)), some (.int (enc2 (hvF (bofF w s) (popc (ldM w s 0 (HM w s 0))) i).1)), some (.int (nI i)), none] [] A' K := by
    intro nf
    induction nf with
    | zero => intros; omega
    | succ nf ih =>
      intro i A' hi hR hQ hms
      have hC2 := hC.off hQ.q
      have h4 := hC.2.1.2.2.2.2.1.2.2.1
      have h5 := hC.2.1.2.2.2.2.1.2.2.2
      have hle : (hvF (bofF w s) (popc (ldM w s 0 (HM w s 0))) i).2 ≤ 8 := hvF_le (popc_le _) (fun k => popc_le _) i
      have hpl := popc_le (ldM w s 0 (HM w s 0 ||| 2 ^ i * 256))
      refine w_iload 43 dX11_bestOffer_41 rfl rfl ?_
      refine w_aload_n 44 dX11_bestOffer_43 rfl rfl ?_
      refine w_getr 47 dX11_bestOffer_44 rfl faX11_19 rfl rfl rfl (r := .ref 26) rfl ?_
      refine w_iconst 48 dX11_bestOffer_47 rfl (v := nI 5) rfl ?_
      refine w_inv1 51 dX11_bestOffer_48 rfl mlX11_113 rfl rfl (d' := 1) (by decide) (Nat.le_of_ble_eq_true rfl) (c_X10_howMany_26 hC2.1 (by decide) ?_)
      refine w_icgeN 90 54 dX11_bestOffer_51 rfl rfl (by omega) (by omega) (fun c51 => ?_) (fun c51 => ?_)
      · skip
        have e : i = w.1 5 := by omega
        refine w_iload_n 91 dX11_bestOffer_90 rfl rfl ?_
        refine wr_i dX11_bestOffer_91 rfl ?_
        exact kq (h A' hQ) (by rw [e])
      · skip
        refine w_aload_n 55 dX11_bestOffer_54 rfl rfl ?_
        refine w_iload_n 56 dX11_bestOffer_55 rfl rfl ?_
        refine w_iconst 57 dX11_bestOffer_56 rfl (v := nI 1) rfl ?_
        refine w_iload 59 dX11_bestOffer_57 rfl rfl ?_
        refine w_shl1 60 dX11_bestOffer_59 rfl (by omega) ?_
        refine w_invs1 63 dX11_bestOffer_60 rfl slX11_219 (d' := 0) (by decide) (Nat.le_of_ble_eq_true rfl) (c_X0_ofOffersN (Nat.lt_of_le_of_lt (pw5 (show i ≤ 5 by omega)) (by decide)) ?_)
        refine w_ior 64 dX11_bestOffer_63 rfl ?_
        refine w_top (nI_or _ _) ?_
        refine w_inv1 67 dX11_bestOffer_64 rfl mlX11_193 rfl rfl (d' := 4) (by decide) (Nat.le_of_ble_eq_true rfl) (c_X11_loadsBorneBy hC2 hR (fun A3 hR3 hQ3 => ?_))
        refine w_invs1 70 dX11_bestOffer_67 rfl slX11_214 (d' := 0) (by decide) (Nat.le_of_ble_eq_true rfl) (c_J6_bitCount_0f7a4 (Nat.lt_trans (ldM_lt h4 _ _ _) (by decide)) ?_)
        refine w_ist5 72 dX11_bestOffer_70 rfl (by decide) rfl ?_
        refine w_iload 74 dX11_bestOffer_72 rfl rfl ?_
        refine w_iload_n 75 dX11_bestOffer_74 rfl rfl ?_
        refine w_icleN 84 78 dX11_bestOffer_75 rfl rfl (by omega) (by omega) (fun c75 => ?_) (fun c75 => ?_)
        · skip
          refine w_inc4 87 dX11_bestOffer_84 rfl (by decide) rfl (v := nI (_ + 1)) (nI_1 _) ?_
          refine w_goto 41 dX11_bestOffer_87 rfl ?_
          have c75 : ¬ (hvF (bofF w s) (popc (ldM w s 0 (HM w s 0))) i).2 < bofF w s i := Nat.not_lt.mpr c75
          refine wp_to ?_ rfl rfl (ih (i + 1) A3 (by omega) hR3 (hQ.tr hQ3) (by omega))
          simp [lle, hvF, c75]
        · skip
          refine w_iload 80 dX11_bestOffer_78 rfl rfl ?_
          refine w_ist2 81 dX11_bestOffer_80 rfl (by decide) rfl ?_
          refine w_iload 83 dX11_bestOffer_81 rfl rfl ?_
          refine w_ist3 84 dX11_bestOffer_83 rfl (by decide) rfl ?_
          refine w_inc4 87 dX11_bestOffer_84 rfl (by decide) rfl (v := nI (_ + 1)) (nI_1 _) ?_
          refine w_goto 41 dX11_bestOffer_87 rfl ?_
          have c75 : (hvF (bofF w s) (popc (ldM w s 0 (HM w s 0))) i).2 < bofF w s i := c75
          refine wp_to ?_ rfl rfl (ih (i + 1) A3 (by omega) hR3 (hQ.tr hQ3) (by omega))
          simp [lle, hvF, c75, enc2]
          rfl
  refine w_bipush 37 dX11_bestOffer_35 rfl (v := (-2)) rfl ?_
  refine w_ist3 38 dX11_bestOffer_37 rfl (by decide) rfl ?_
  refine w_iconst 39 dX11_bestOffer_38 rfl (v := nI 0) rfl ?_
  refine w_ist4 41 dX11_bestOffer_39 rfl (by decide) rfl ?_
  exact lp41 _ 0 A (Nat.zero_le _) hR0 ⟨OffL.rf, hC.2.2.2.2⟩ (Nat.lt_succ_self _)

set_option maxRecDepth 4000 in
theorem c_X11_bestOffer {K : Option Value → AH → Prop} {A : AH} {w : WT} {s : Nat → Nat} (hC : CI w s A)  (h : ∀ A', Qk A A' → A'.1 0 8 = nI (t1 (okW1 w)) → K (some (.int (rBestOffer w s))) A') : Ct yX11_bestOffer mX11_bestOffer 5 dC gC [.ref 0] A K := by
  refine Ct.of [some (.ref 0), none, none, none, none, none] rfl rfl rfl (Nat.le_of_ble_eq_true rfl) ?_
  refine w_aload_n 1 dX11_bestOffer_0 rfl rfl ?_
  refine w_aload_n 2 dX11_bestOffer_1 rfl rfl ?_
  refine w_inv0 5 dX11_bestOffer_2 rfl mlX11_157 rfl rfl (d' := 2) (by decide) (Nat.le_of_ble_eq_true rfl) (c_X11_needWeb hC ?_)
  refine w_inv1 8 dX11_bestOffer_5 rfl mlX11_87 rfl rfl (d' := 0) (by decide) (Nat.le_of_ble_eq_true rfl) (c_X11_refused (Nat.lt_of_le_of_lt (t1_le _) (by decide)) ?_)
  refine w_ifeqB 13 11 dX11_bestOffer_8 rfl rfl (fun c8 => ?_) (fun c8 => ?_)
  · skip
    have hz : t1 (okW1 w) = 0 := by simpa using c8
    have hC1 := hC.off (hC.ref (nI (t1 (okW1 w))))
    skip
    refine w_aload_n 14 dX11_bestOffer_13 rfl rfl ?_
    refine w_iconst 15 dX11_bestOffer_14 rfl (v := nI 0) rfl ?_
    refine w_inv1 18 dX11_bestOffer_15 rfl mlX11_145 rfl rfl (d' := 4) (by decide) (Nat.le_of_ble_eq_true rfl) (c_X11_goBehind hC1 (by decide) (fun A2 hR hQ => ?_))
    refine w_aload_n 19 dX11_bestOffer_18 rfl rfl ?_
    refine w_getr 22 dX11_bestOffer_19 rfl faX11_40 rfl rfl rfl (r := .ref 48) rfl ?_
    refine w_inv0 25 dX11_bestOffer_22 rfl mlX11_161 rfl rfl (d' := 0) (by decide) (Nat.le_of_ble_eq_true rfl) (c_X0_held hR.2.2.1 hR.2.2.2.1 ?_)
    refine w_ist1 26 dX11_bestOffer_25 rfl (by decide) rfl ?_
    refine w_aload_n 27 dX11_bestOffer_26 rfl rfl ?_
    refine w_iload_n 28 dX11_bestOffer_27 rfl rfl ?_
    refine w_inv1 31 dX11_bestOffer_28 rfl mlX11_193 rfl rfl (d' := 4) (by decide) (Nat.le_of_ble_eq_true rfl) (c_X11_loadsBorneBy (hC1.off hQ.q) hR (fun A3 hR3 hQ3 => ?_))
    refine w_invs1 34 dX11_bestOffer_31 rfl slX11_214 (d' := 0) (by decide) (Nat.le_of_ble_eq_true rfl) (c_J6_bitCount_0f7a4 (Nat.lt_trans (ldM_lt hC.2.1.2.2.2.2.1.2.2.1 _ _ _) (by decide)) ?_)
    refine w_ist2 35 dX11_bestOffer_34 rfl (by decide) rfl ?_
    exact a_X11_bestOffer (hC1.off (hQ.tr hQ3).q) hR3 (fun A4 hQ5 => kq (h A4 (hC.fin ((hQ.tr hQ3).tr hQ5)).1 (hC.fin ((hQ.tr hQ3).tr hQ5)).2) (by unfold rBestOffer; rw [if_pos hz]))
  · skip
    refine w_iconst 12 dX11_bestOffer_11 rfl (v := (-1)) rfl ?_
    refine wr_i dX11_bestOffer_12 rfl ?_
    exact kq (h _ (hC.ref _) (by dsimp only; rw [upd2_at])) (by unfold rBestOffer; rw [if_neg (of_decide_eq_true c8)])
