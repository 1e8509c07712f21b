/-! ===== the reference: clerks over years ===== -/
/-- the row of a state behind some years of clerks -/
def okY (s : Nat → Nat) : Prop := s 0 ≤ 1100 ∧ s 1 ≤ 8 ∧ s 2 < 256 ∧ ∀ t, t < s 1 → s (3 + t * 6) ≤ 3 ∧ s (3 + t * 6 + 1) < 7 ∧ s (3 + t * 6 + 2) < 7 ∧ s (3 + t * 6 + 3) ≤ 99 ∧ s (3 + t * 6 + 4) ≤ 20 ∧ s (3 + t * 6 + 5) ≤ s 0
theorem cz_okY {s : Nat → Nat} (h : okY s) (t : Nat) : cz s t 0 ≤ 3 ∧ cz s t 1 < 7 ∧ cz s t 2 < 7 ∧ cz s t 3 ≤ 99 ∧ cz s t 4 ≤ 20 ∧ cz s t 5 ≤ s 0 := by
  unfold cz
  split
  · next ht => exact h.2.2.2 t ht
  · omega
theorem stg_leY {s : Nat → Nat} (h : okY s) (t n : Nat) : stg s t n ≤ 99 := by
  obtain ⟨-, -, -, h3, -, -⟩ := cz_okY h t
  unfold stg
  repeat' split
  all_goals omega
def XY (w : WT) (s : Nat → Nat) (A : AH) : Prop := VR w s (A.1 103) ∧ okY s
def E3 (A A' : AH) : Prop := A'.1 103 = A.1 103 ∧ ∀ k, k ≠ 25 → A'.1 100 k = A.1 100 k
theorem yc_X13_kindOf {K : Option Value → AH → Prop} {A : AH} {r : Value} {w : WT} {s : Nat → Nat} {t : Nat} (hM : RepM w A) (hX : XY w s A) (hr : w.1 2 ≤ 7 ∧ w.1 5 ≤ 5) (ht : t < s 1) (h : K (some (.int (nI (cz s t 0)))) A) : Ct yX13_kindOf mX13_kindOf 0 dM (GG (.ref 111) r) [.ref 100, .int (nI t)] A K := by
  have h8 := hX.2.2.1
  obtain ⟨v1, v2, v3⟩ := hX.1.2.2.2 t ht
  rcases v3 with ⟨hv, h2, hc⟩ | ⟨k, hk, hv, h2, c0, c1, c2, c3, c4⟩
  · exact t_X13_kindOf (by omega) hv (kq h (by rw [(hM.2.2.1 t h2).1, hc 0 (by decide)]))
  · exact o_X13_kindOf (by omega) (by omega) hv (kq h (by rw [c0]))
theorem yc_X13_stepOf {K : Option Value → AH → Prop} {A : AH} {r : Value} {w : WT} {s : Nat → Nat} {t : Nat} (hM : RepM w A) (hX : XY w s A) (hr : w.1 2 ≤ 7 ∧ w.1 5 ≤ 5) (ht : t < s 1) (h : K (some (.int (nI (cz s t 4)))) A) : Ct yX13_stepOf mX13_stepOf 0 dM (GG (.ref 111) r) [.ref 100, .int (nI t)] A K := by
  have h8 := hX.2.2.1
  obtain ⟨v1, v2, v3⟩ := hX.1.2.2.2 t ht
  rcases v3 with ⟨hv, h2, hc⟩ | ⟨k, hk, hv, h2, c0, c1, c2, c3, c4⟩
  · exact t_X13_stepOf (by omega) hv (kq h (by rw [(hM.2.2.1 t h2).2.2.2.2, hc 4 (by decide)]))
  · exact o_X13_stepOf (by omega) (by omega) hv (kq h (by rw [c4]))
theorem yc_X13_oneOf {K : Option Value → AH → Prop} {A : AH} {r : Value} {w : WT} {s : Nat → Nat} {t : Nat} (hM : RepM w A) (hX : XY w s A) (hr : w.1 2 ≤ 7 ∧ w.1 5 ≤ 5) (ht : t < s 1) (h : K (some (.int (nI (cz s t 1)))) A) : Ct yX13_oneOf mX13_oneOf 0 dM (GG (.ref 111) r) [.ref 100, .int (nI t)] A K := by
  have h8 := hX.2.2.1
  obtain ⟨v1, v2, v3⟩ := hX.1.2.2.2 t ht
  rcases v3 with ⟨hv, h2, hc⟩ | ⟨k, hk, hv, h2, c0, c1, c2, c3, c4⟩
  · exact t_X13_oneOf (by omega) hv (kq h (by rw [(hM.2.2.1 t h2).2.1, hc 1 (by decide)]))
  · exact o_X13_oneOf (by omega) (by omega) hv (kq h (by rw [c1, (hM.2.2.2.2.2.1 k hk).1]))
theorem yc_X13_twoOf {K : Option Value → AH → Prop} {A : AH} {r : Value} {w : WT} {s : Nat → Nat} {t : Nat} (hM : RepM w A) (hX : XY w s A) (hr : w.1 2 ≤ 7 ∧ w.1 5 ≤ 5) (ht : t < s 1) (h : K (some (.int (nI (cz s t 2)))) A) : Ct yX13_twoOf mX13_twoOf 0 dM (GG (.ref 111) r) [.ref 100, .int (nI t)] A K := by
  have h8 := hX.2.2.1
  obtain ⟨v1, v2, v3⟩ := hX.1.2.2.2 t ht
  rcases v3 with ⟨hv, h2, hc⟩ | ⟨k, hk, hv, h2, c0, c1, c2, c3, c4⟩
  · exact t_X13_twoOf (by omega) hv (kq h (by rw [(hM.2.2.1 t h2).2.2.1, hc 2 (by decide)]))
  · exact o_X13_twoOf (by omega) (by omega) hv (kq h (by rw [c2, (hM.2.2.2.2.2.1 k hk).2.1]))
theorem ya_X13_strongOf {K : Option Value → AH → Prop} {A : AH} {r : Value} {w : WT} {s : Nat → Nat} {t n : Nat} (hM : RepM w A) (hX : XY w s A) (hr : w.1 2 ≤ 7 ∧ w.1 5 ≤ 5) (ht : t < s 1) (hn : n ≤ 60) (h : K (some (.int (nI (stg s t n)))) A) : WP mX13_strongOf 1 dM (GG (.ref 111) r) 41 [some (.ref 100), some (.int (nI t)), some (.int (nI n)), some (.int (nI (cz s t 3))), none, none] [] A K := by
  have h8 := hX.2.2.1
  obtain ⟨v1, v2, v3⟩ := hX.1.2.2.2 t ht
  obtain ⟨z0, z1, z2, z3, z4, z5⟩ := cz_okY hX.2 t
  have h9 := hX.2.1
  have ey : s 0 - cz s t 5 + n = s 0 + n - cz s t 5 := by omega
  have zm : cz s t 4 * (s 0 + n - cz s t 5) ≤ 20 * (s 0 + n - cz s t 5) := Nat.mul_le_mul_right _ z4
  refine w_aload_n 42 dX13_strongOf_41 rfl rfl ?_
  refine w_getr 45 dX13_strongOf_42 rfl faX13_21 rfl rfl rfl (r := .ref 103) rfl ?_
  refine w_bipush 47 dX13_strongOf_45 rfl (v := nI 25) rfl ?_
  refine w_ialdv 48 dX13_strongOf_47 rfl rfl rfl (by decide) (by omega) hX.1.2.1 ?_
  refine w_iload_n 49 dX13_strongOf_48 rfl rfl ?_
  refine w_iaddN 50 dX13_strongOf_49 rfl ?_
  refine w_aload_n 51 dX13_strongOf_50 rfl rfl ?_
  refine w_getr 54 dX13_strongOf_51 rfl faX13_21 rfl rfl rfl (r := .ref 103) rfl ?_
  refine w_bipush 56 dX13_strongOf_54 rfl (v := nI 8) rfl ?_
  refine w_iload_n 57 dX13_strongOf_56 rfl rfl ?_
  refine w_iaddN 58 dX13_strongOf_57 rfl ?_
  refine w_ialdv 59 dX13_strongOf_58 rfl rfl rfl (by decide) (by omega) v1 ?_
  refine w_isubN 60 dX13_strongOf_59 rfl (by omega) ?_
  refine w_ist4 62 dX13_strongOf_60 rfl (by decide) rfl ?_
  refine w_aload_n 63 dX13_strongOf_62 rfl rfl ?_
  refine w_iload_n 64 dX13_strongOf_63 rfl rfl ?_
  refine w_inv1 67 dX13_strongOf_64 rfl mlX13_354 rfl rfl (d' := 0) (by decide) (Nat.le_of_ble_eq_true rfl) (yc_X13_stepOf hM hX hr ht ?_)
  refine w_ist5 69 dX13_strongOf_67 rfl (by decide) rfl ?_
  refine w_aload_n 70 dX13_strongOf_69 rfl rfl ?_
  refine w_getr 73 dX13_strongOf_70 rfl faX13_21 rfl rfl rfl (r := .ref 103) rfl ?_
  refine w_bipush 75 dX13_strongOf_73 rfl (v := nI 16) rfl ?_
  refine w_iload_n 76 dX13_strongOf_75 rfl rfl ?_
  refine w_iaddN 77 dX13_strongOf_76 rfl ?_
  refine w_ialdv 78 dX13_strongOf_77 rfl rfl rfl (by decide) (by omega) v2 ?_
  refine w_iconst 79 dX13_strongOf_78 rfl (v := nI 1) rfl ?_
  refine w_icne 84 82 dX13_strongOf_79 rfl rfl (fun c79 => ?_) (fun c79 => ?_)
  · skip
    have hsn : (s 2).testBit t = false := by
      cases q : (s 2).testBit t with
      | false => rfl
      | true => rw [q] at c79; exact absurd rfl c79
    refine w_aload_n 85 dX13_strongOf_84 rfl rfl ?_
    refine w_iload_n 86 dX13_strongOf_85 rfl rfl ?_
    refine w_inv1 89 dX13_strongOf_86 rfl mlX13_357 rfl rfl (d' := 0) (by decide) (Nat.le_of_ble_eq_true rfl) (yc_X13_kindOf hM hX hr ht ?_)
    refine w_iconst 90 dX13_strongOf_89 rfl (v := nI 1) rfl ?_
    refine w_icneN 114 93 dX13_strongOf_90 rfl rfl (by omega) (by omega) (fun c90 => ?_) (fun c90 => ?_)
    · skip
      refine w_aload_n 115 dX13_strongOf_114 rfl rfl ?_
      refine w_iload_n 116 dX13_strongOf_115 rfl rfl ?_
      refine w_inv1 119 dX13_strongOf_116 rfl mlX13_357 rfl rfl (d' := 0) (by decide) (Nat.le_of_ble_eq_true rfl) (yc_X13_kindOf hM hX hr ht ?_)
      refine w_iconst 120 dX13_strongOf_119 rfl (v := nI 2) rfl ?_
      refine w_icneN 148 123 dX13_strongOf_120 rfl rfl (by omega) (by omega) (fun c120 => ?_) (fun c120 => ?_)
      · skip
        refine w_aload_n 149 dX13_strongOf_148 rfl rfl ?_
        refine w_iload_n 150 dX13_strongOf_149 rfl rfl ?_
        refine w_inv1 153 dX13_strongOf_150 rfl mlX13_357 rfl rfl (d' := 0) (by decide) (Nat.le_of_ble_eq_true rfl) (yc_X13_kindOf hM hX hr ht ?_)
        refine w_iconst 154 dX13_strongOf_153 rfl (v := nI 3) rfl ?_
        refine w_icneN 168 157 dX13_strongOf_154 rfl rfl (by omega) (by omega) (fun c154 => ?_) (fun c154 => ?_)
        · skip
          refine w_iload_n 169 dX13_strongOf_168 rfl rfl ?_
          refine wr_i dX13_strongOf_169 rfl ?_
          exact kq h (by rw [stg, if_neg (by rw [hsn]; decide), if_neg c90, if_neg c120, if_neg c154])
        · skip
          refine w_iload 159 dX13_strongOf_157 rfl rfl ?_
          refine w_iload 161 dX13_strongOf_159 rfl rfl ?_
          refine w_icltN 168 164 dX13_strongOf_161 rfl rfl (by omega) (by omega) (fun c161 => ?_) (fun c161 => ?_)
          · skip
            refine w_iload_n 169 dX13_strongOf_168 rfl rfl ?_
            refine wr_i dX13_strongOf_169 rfl ?_
            exact kq h (by rw [stg, if_neg (by rw [hsn]; decide), if_neg c90, if_neg c120, if_pos c154, ey, if_neg (by omega)])
          · skip
            refine w_iconst 165 dX13_strongOf_164 rfl (v := nI 0) rfl ?_
            refine w_goto 169 dX13_strongOf_165 rfl ?_
            refine wr_i dX13_strongOf_169 rfl ?_
            exact kq h (by rw [stg, if_neg (by rw [hsn]; decide), if_neg c90, if_neg c120, if_pos c154, ey, if_pos (by omega)])
      · skip
        refine w_iload_n 124 dX13_strongOf_123 rfl rfl ?_
        refine w_iload 126 dX13_strongOf_124 rfl rfl ?_
        refine w_iload 128 dX13_strongOf_126 rfl rfl ?_
        refine w_imulN 129 dX13_strongOf_128 rfl ?_
        refine w_iaddN 130 dX13_strongOf_129 rfl ?_
        refine w_bipush 132 dX13_strongOf_130 rfl (v := nI 99) rfl ?_
        refine w_icgeN 145 135 dX13_strongOf_132 rfl rfl (by omega) (by omega) (fun c132 => ?_) (fun c132 => ?_)
        · skip
          refine w_bipush 147 dX13_strongOf_145 rfl (v := nI 99) rfl ?_
          refine wr_i dX13_strongOf_147 rfl ?_
          exact kq h (by rw [stg, if_neg (by rw [hsn]; decide), if_neg c90, if_pos c120, ey, if_neg (by omega)])
        · skip
          refine w_iload_n 136 dX13_strongOf_135 rfl rfl ?_
          refine w_iload 138 dX13_strongOf_136 rfl rfl ?_
          refine w_iload 140 dX13_strongOf_138 rfl rfl ?_
          refine w_imulN 141 dX13_strongOf_140 rfl ?_
          refine w_iaddN 142 dX13_strongOf_141 rfl ?_
          refine w_goto 147 dX13_strongOf_142 rfl ?_
          refine wr_i dX13_strongOf_147 rfl ?_
          exact kq h (by rw [stg, if_neg (by rw [hsn]; decide), if_neg c90, if_pos c120, ey, if_pos c132])
    · skip
      refine w_iload_n 94 dX13_strongOf_93 rfl rfl ?_
      refine w_iload 96 dX13_strongOf_94 rfl rfl ?_
      refine w_iload 98 dX13_strongOf_96 rfl rfl ?_
      refine w_imulN 99 dX13_strongOf_98 rfl ?_
      refine w_icleN 112 102 dX13_strongOf_99 rfl rfl (by omega) (by omega) (fun c99 => ?_) (fun c99 => ?_)
      · skip
        refine w_iconst 113 dX13_strongOf_112 rfl (v := nI 0) rfl ?_
        refine wr_i dX13_strongOf_113 rfl ?_
        exact kq h (by rw [stg, if_neg (by rw [hsn]; decide), if_pos c90, ey]; congr 1; omega)
      · skip
        refine w_iload_n 103 dX13_strongOf_102 rfl rfl ?_
        refine w_iload 105 dX13_strongOf_103 rfl rfl ?_
        refine w_iload 107 dX13_strongOf_105 rfl rfl ?_
        refine w_imulN 108 dX13_strongOf_107 rfl ?_
        refine w_isubN 109 dX13_strongOf_108 rfl (by omega) ?_
        refine w_goto 113 dX13_strongOf_109 rfl ?_
        refine wr_i dX13_strongOf_113 rfl ?_
        exact kq h (by rw [stg, if_neg (by rw [hsn]; decide), if_pos c90, ey])
  · skip
    have hsn : (s 2).testBit t = true := by
      cases q : (s 2).testBit t with
      | true => rfl
      | false => rw [q] at c79; exact absurd c79 (by decide)
    refine w_iconst 83 dX13_strongOf_82 rfl (v := nI 0) rfl ?_
    refine wr_i dX13_strongOf_83 rfl ?_
    exact kq h (by rw [stg, if_pos hsn])
theorem yt_X13_strongOf {K : Option Value → AH → Prop} {A : AH} {r : Value} {w : WT} {s : Nat → Nat} {t : Nat} (hM : RepM w A) (hX : XY w s A) (hr : w.1 2 ≤ 7 ∧ w.1 5 ≤ 5) (ht : t < s 1) {n : Nat} (hn : n ≤ 60) (hv : A.1 103 t = -1) (h2 : t < w.1 2) (hc : ∀ c, c < 5 → cz s t c = w.2 2 t c) (h : K (some (.int (nI (stg s t n)))) A) : Ct yX13_strongOf mX13_strongOf 1 dM (GG (.ref 111) r) [.ref 100, .int (nI t), .int (nI n)] A K := by
  refine Ct.of [some (.ref 100), some (.int (nI t)), some (.int (nI n)), none, none, none] rfl rfl rfl (Nat.le_of_ble_eq_true rfl) ?_
  have h8 := hX.2.2.1
  refine w_aload_n 1 dX13_strongOf_0 rfl rfl ?_
  refine w_getr 4 dX13_strongOf_1 rfl faX13_21 rfl rfl rfl (r := .ref 103) rfl ?_
  refine w_iconst 5 dX13_strongOf_4 rfl (v := nI 0) rfl ?_
  refine w_iload_n 6 dX13_strongOf_5 rfl rfl ?_
  refine w_iaddN 7 dX13_strongOf_6 rfl ?_
  refine w_top (show _ = nI t from by rw [Nat.zero_add]) ?_
  refine w_ialdv 8 dX13_strongOf_7 rfl rfl rfl (by decide) (by omega) hv ?_
  refine w_iconst 9 dX13_strongOf_8 rfl (v := (-1)) rfl ?_
  refine w_icne 24 12 dX13_strongOf_9 rfl rfl (fun c9 => (by exact absurd rfl c9)) (fun c9 => ?_)
  refine w_aload_n 13 dX13_strongOf_12 rfl rfl ?_
  refine w_getr 16 dX13_strongOf_13 rfl faX13_343 rfl rfl rfl (r := .ref 111) rfl ?_
  refine w_getr 19 dX13_strongOf_16 rfl faX13_267 rfl rfl rfl (r := .ref 115) rfl ?_
  refine w_iload_n 20 dX13_strongOf_19 rfl rfl ?_
  refine w_ialdv 21 dX13_strongOf_20 rfl rfl rfl (by decide) (by omega) (v := nI (cz s t 3)) (by rw [(hM.2.2.1 t h2).2.2.2.1, hc 3 (by decide)]) ?_
  refine w_goto 40 dX13_strongOf_21 rfl ?_
  refine w_ist3 41 dX13_strongOf_40 rfl (by decide) rfl ?_
  exact ya_X13_strongOf hM hX hr ht hn h
theorem yo_X13_strongOf {K : Option Value → AH → Prop} {A : AH} {r : Value} {w : WT} {s : Nat → Nat} {t : Nat} (hM : RepM w A) (hX : XY w s A) (hr : w.1 2 ≤ 7 ∧ w.1 5 ≤ 5) (ht : t < s 1) {n : Nat} (hn : n ≤ 60) {k : Nat} (hk : k < w.1 5) (hv : A.1 103 t = nI k) (c3 : cz s t 3 = w.2 5 k 2) (h : K (some (.int (nI (stg s t n)))) A) : Ct yX13_strongOf mX13_strongOf 1 dM (GG (.ref 111) r) [.ref 100, .int (nI t), .int (nI n)] A K := by
  refine Ct.of [some (.ref 100), some (.int (nI t)), some (.int (nI n)), none, none, none] rfl rfl rfl (Nat.le_of_ble_eq_true rfl) ?_
  have h8 := hX.2.2.1
  refine w_aload_n 1 dX13_strongOf_0 rfl rfl ?_
  refine w_getr 4 dX13_strongOf_1 rfl faX13_21 rfl rfl rfl (r := .ref 103) rfl ?_
  refine w_iconst 5 dX13_strongOf_4 rfl (v := nI 0) rfl ?_
  refine w_iload_n 6 dX13_strongOf_5 rfl rfl ?_
  refine w_iaddN 7 dX13_strongOf_6 rfl ?_
  refine w_top (show _ = nI t from by rw [Nat.zero_add]) ?_
  refine w_ialdv 8 dX13_strongOf_7 rfl rfl rfl (by decide) (by omega) hv ?_
  refine w_iconst 9 dX13_strongOf_8 rfl (v := (-1)) rfl ?_
  refine w_icne 24 12 dX13_strongOf_9 rfl rfl (fun c9 => ?_) (fun c9 => (by exact absurd c9 (nI_m1 (by omega))))
  refine w_aload_n 25 dX13_strongOf_24 rfl rfl ?_
  refine w_getr 28 dX13_strongOf_25 rfl faX13_343 rfl rfl rfl (r := .ref 111) rfl ?_
  refine w_getr 31 dX13_strongOf_28 rfl faX13_309 rfl rfl rfl (r := .ref 123) rfl ?_
  refine w_aload_n 32 dX13_strongOf_31 rfl rfl ?_
  refine w_getr 35 dX13_strongOf_32 rfl faX13_21 rfl rfl rfl (r := .ref 103) rfl ?_
  refine w_iconst 36 dX13_strongOf_35 rfl (v := nI 0) rfl ?_
  refine w_iload_n 37 dX13_strongOf_36 rfl rfl ?_
  refine w_iaddN 38 dX13_strongOf_37 rfl ?_
  refine w_top (show _ = nI t from by rw [Nat.zero_add]) ?_
  refine w_ialdv 39 dX13_strongOf_38 rfl rfl rfl (by decide) (by omega) hv ?_
  refine w_ialdv 40 dX13_strongOf_39 rfl rfl rfl (by decide) (by omega) (v := nI (cz s t 3)) (by rw [c3, (hM.2.2.2.2.2.1 k hk).2.2.1]) ?_
  refine w_ist3 41 dX13_strongOf_40 rfl (by decide) rfl ?_
  exact ya_X13_strongOf hM hX hr ht hn h
theorem yc_X13_strongOf {K : Option Value → AH → Prop} {A : AH} {r : Value} {w : WT} {s : Nat → Nat} {t : Nat} (hM : RepM w A) (hX : XY w s A) (hr : w.1 2 ≤ 7 ∧ w.1 5 ≤ 5) (ht : t < s 1) {n : Nat} (hn : n ≤ 60) (h : K (some (.int (nI (stg s t n)))) A) : Ct yX13_strongOf mX13_strongOf 1 dM (GG (.ref 111) r) [.ref 100, .int (nI t), .int (nI n)] A K := by
  obtain ⟨v1, v2, v3⟩ := hX.1.2.2.2 t ht
  rcases v3 with ⟨hv, h2, hc⟩ | ⟨k, hk, hv, h2, c0, c1, c2, c3, c4⟩
  · exact yt_X13_strongOf hM hX hr ht hn hv h2 hc h
  · exact yo_X13_strongOf hM hX hr ht hn hk hv c3 h
theorem yc_X13_edge {K : Option Value → AH → Prop} {A : AH} {r : Value} {ne a b c : Nat} {f1 f2 fs : Nat → Nat} (hY : RY ne f1 f2 fs A) (hn : ne < 13) (ha : a < 7) (hb : b < 7) (hc : c ≤ 99) (h : ∀ A', RY (ne + 1) (updN f1 ne a) (updN f2 ne b) (updN fs ne c) A' → QM A A' → E3 A A' → K none A') : Ct yX13_edge mX13_edge 0 dM (GG (.ref 111) r) [.ref 100, .int (nI a), .int (nI b), .int (nI c)] A K := by
  refine Ct.of [some (.ref 100), some (.int (nI a)), some (.int (nI b)), some (.int (nI c))] rfl rfl rfl (Nat.le_of_ble_eq_true rfl) ?_
  refine w_aload_n 1 dX13_edge_0 rfl rfl ?_
  refine w_getr 4 dX13_edge_1 rfl faX13_30 rfl rfl rfl (r := .ref 106) rfl ?_
  refine w_aload_n 5 dX13_edge_4 rfl rfl ?_
  refine w_getiv 8 dX13_edge_5 rfl faX13_360 rfl rfl rfl hY.1 ?_
  refine w_iload_n 9 dX13_edge_8 rfl rfl ?_
  refine w_iastN 10 dX13_edge_9 rfl rfl rfl (by decide) (by omega) ?_
  refine w_aload_n 11 dX13_edge_10 rfl rfl ?_
  refine w_getr 14 dX13_edge_11 rfl faX13_33 rfl rfl rfl (r := .ref 107) rfl ?_
  refine w_aload_n 15 dX13_edge_14 rfl rfl ?_
  refine w_getiv 18 dX13_edge_15 rfl faX13_360 rfl rfl rfl (v := nI ne) (by dsimp only; rw [upd2_ne (by decide)]; exact hY.1) ?_
  refine w_iload_n 19 dX13_edge_18 rfl rfl ?_
  refine w_iastN 20 dX13_edge_19 rfl rfl rfl (by decide) (by omega) ?_
  refine w_aload_n 21 dX13_edge_20 rfl rfl ?_
  refine w_getr 24 dX13_edge_21 rfl faX13_36 rfl rfl rfl (r := .ref 108) rfl ?_
  refine w_aload_n 25 dX13_edge_24 rfl rfl ?_
  refine w_getiv 28 dX13_edge_25 rfl faX13_360 rfl rfl rfl (v := nI ne) (by dsimp only; rw [upd2_ne (by decide), upd2_ne (by decide)]; exact hY.1) ?_
  refine w_iload_n 29 dX13_edge_28 rfl rfl ?_
  refine w_iastN 30 dX13_edge_29 rfl rfl rfl (by decide) (by omega) ?_
  refine w_aload_n 31 dX13_edge_30 rfl rfl ?_
  refine w_dup_r 32 dX13_edge_31 rfl ?_
  refine w_getiv 35 dX13_edge_32 rfl faX13_360 rfl rfl rfl (v := nI ne) (by dsimp only; rw [upd2_ne (by decide), upd2_ne (by decide), upd2_ne (by decide)]; exact hY.1) ?_
  refine w_iconst 36 dX13_edge_35 rfl (v := nI 1) rfl ?_
  refine w_iaddN 37 dX13_edge_36 rfl ?_
  refine w_puti 40 dX13_edge_37 rfl faX13_360 rfl rfl rfl rfl ?_
  refine wr_v dX13_edge_40 rfl ?_
  refine h _ ⟨by dsimp only; rw [upd2_at], by omega, fun i hi => ?_⟩ ((((QM.rf.a (by decide) (by decide) _ _).a (by decide) (by decide) _ _).a (by decide) (by decide) _ _).f (by decide) _) ⟨by dsimp only; rw [upd2_ne (by decide), upd2_ne (by decide), upd2_ne (by decide), upd2_ne (by decide)], fun k hk => by dsimp only; rw [upd2_off hk, upd2_ne (by decide), upd2_ne (by decide), upd2_ne (by decide)]⟩
  by_cases q : i = ne
  · subst q
    simp [upd2, updN]
    omega
  · have := hY.2.2 i (by omega)
    simp [upd2, updN, q]
    exact this
theorem yc_X13_laysWorked {K : Option Value → AH → Prop} {A : AH} {r : Value} {w : WT} {s : Nat → Nat} {n : Nat} (hM : RepM w A) (hX : XY w s A) (hr : w.1 2 ≤ 7 ∧ w.1 5 ≤ 5) (hn : n ≤ 60) (h : ∀ A', RY (s 1) (e1W w s) (e2W w s) (esW w s n) A' → XY w s A' → QM A A' → E3 A A' → K none A') : Ct yX13_laysWorked mX13_laysWorked 2 dM (GG (.ref 111) r) [.ref 100, .int (nI n)] A K := by
  refine Ct.of [some (.ref 100), some (.int (nI n)), none] rfl rfl rfl (Nat.le_of_ble_eq_true rfl) ?_
  have h8 := hX.2.2.1
  have lp7 : ∀ (nf : Nat) (i : Nat) (A' : AH) (g1 g2 gs : Nat → Nat), i ≤ s 1 → RY i g1 g2 gs A' → (∀ t, t < i → g1 t = cz s t 1 ∧ g2 t = cz s t 2 ∧ gs t = stg s t n) → QM A A' → E3 A A' → s 1 - i < nf → WP mX13_laysWorked 2 dM (GG (.ref 111) r) 7 [some (.ref 100), some (.int (nI n)), some (.int (nI i))] [] A' K := by
    intro nf
    induction nf with
    | zero => intros; omega
    | succ nf ih =>
      intro i A' g1 g2 gs hi hY hg hQ hx hms
      have hM2 := hM.q hQ
      have hX2 : XY w s A' := ⟨by rw [hx.1]; exact hX.1, hX.2⟩
      refine w_iload_n 8 dX13_laysWorked_7 rfl rfl ?_
      refine w_aload_n 9 dX13_laysWorked_8 rfl rfl ?_
      refine w_getr 12 dX13_laysWorked_9 rfl faX13_21 rfl rfl rfl (r := .ref 103) rfl ?_
      refine w_bipush 14 dX13_laysWorked_12 rfl (v := nI 24) rfl ?_
      refine w_ialdv 15 dX13_laysWorked_14 rfl rfl rfl (by decide) (by omega) hX2.1.1 ?_
      refine w_icgeN 44 18 dX13_laysWorked_15 rfl rfl (by omega) (by omega) (fun c15 => ?_) (fun c15 => ?_)
      · skip
        refine wr_v dX13_laysWorked_44 rfl ?_
        have e : i = s 1 := by omega
        subst e
        refine h A' ⟨hY.1, hY.2.1, fun i hi => ?_⟩ hX2 hQ hx
        have h1 := hY.2.2 i hi
        obtain ⟨g1', g2', g3'⟩ := hg i hi
        rw [g1', g2', g3'] at h1
        unfold e1W e2W esW
        rw [if_pos (by omega), if_pos (by omega), if_pos (by omega), if_pos hi]
        exact h1
      · skip
        obtain ⟨z0, z1, z2, z3, z4, z5⟩ := cz_okY hX.2 i
        have zs := stg_leY hX.2 i n
        refine w_aload_n 19 dX13_laysWorked_18 rfl rfl ?_
        refine w_aload_n 20 dX13_laysWorked_19 rfl rfl ?_
        refine w_iload_n 21 dX13_laysWorked_20 rfl rfl ?_
        refine w_inv1 24 dX13_laysWorked_21 rfl mlX13_363 rfl rfl (d' := 0) (by decide) (Nat.le_of_ble_eq_true rfl) (yc_X13_oneOf hM2 hX2 hr c15 ?_)
        refine w_aload_n 25 dX13_laysWorked_24 rfl rfl ?_
        refine w_iload_n 26 dX13_laysWorked_25 rfl rfl ?_
        refine w_inv1 29 dX13_laysWorked_26 rfl mlX13_366 rfl rfl (d' := 0) (by decide) (Nat.le_of_ble_eq_true rfl) (yc_X13_twoOf hM2 hX2 hr c15 ?_)
        refine w_aload_n 30 dX13_laysWorked_29 rfl rfl ?_
        refine w_iload_n 31 dX13_laysWorked_30 rfl rfl ?_
        refine w_iload_n 32 dX13_laysWorked_31 rfl rfl ?_
        refine w_inv2 35 dX13_laysWorked_32 rfl mlX13_369 rfl rfl (d' := 1) (by decide) (Nat.le_of_ble_eq_true rfl) (yc_X13_strongOf hM2 hX2 hr c15 hn ?_)
        refine w_inv3 38 dX13_laysWorked_35 rfl mlX13_372 rfl rfl (d' := 0) (by decide) (Nat.le_of_ble_eq_true rfl) (yc_X13_edge hY (by omega) z1 z2 zs (fun A3 hY3 hQ3 hx3 => ?_))
        refine w_inc2 41 dX13_laysWorked_38 rfl (by decide) rfl (v := nI (_ + 1)) (nI_1 _) ?_
        refine w_goto 7 dX13_laysWorked_41 rfl ?_
        refine ih (i + 1) A3 _ _ _ (by omega) hY3 (fun t ht => ?_) (hQ.tr hQ3) ⟨hx3.1.trans hx.1, fun k hk => (hx3.2 k hk).trans (hx.2 k hk)⟩ (by omega)
        by_cases q : t = i
        · subst q
          simp [updN]
        · have := hg t (by omega)
          simp [updN, q]
          exact this
  refine w_aload_n 1 dX13_laysWorked_0 rfl rfl ?_
  refine w_iconst 2 dX13_laysWorked_1 rfl (v := nI 0) rfl ?_
  refine w_puti 5 dX13_laysWorked_2 rfl faX13_360 rfl rfl rfl rfl ?_
  refine w_iconst 6 dX13_laysWorked_5 rfl (v := nI 0) rfl ?_
  refine w_ist2 7 dX13_laysWorked_6 rfl (by decide) rfl ?_
  exact lp7 _ 0 _ (fun _ => 0) (fun _ => 0) (fun _ => 0) (Nat.zero_le _) ⟨by dsimp only; rw [upd2_at], by decide, fun i hi => absurd hi (Nat.not_lt_zero i)⟩ (fun t ht => absurd ht (Nat.not_lt_zero t)) (QM.rf.f (by decide) _) ⟨by dsimp only; rw [upd2_ne (by decide)], fun k hk => by dsimp only; rw [upd2_off hk]⟩ (Nat.lt_succ_self _)
def sYr (s : Nat → Nat) (y g : Nat) : Nat → Nat := updN (updN s 0 (s 0 + y)) 2 (s 2 ||| g)
theorem sYr_0 {s : Nat → Nat} {y g : Nat} : sYr s y g 0 = s 0 + y := by simp [sYr, updN]
theorem sYr_1 {s : Nat → Nat} {y g : Nat} : sYr s y g 1 = s 1 := by simp [sYr, updN]
theorem sYr_2 {s : Nat → Nat} {y g : Nat} : sYr s y g 2 = s 2 ||| g := by simp [sYr, updN]
theorem sYr_k {s : Nat → Nat} {y g k : Nat} (h : 3 ≤ k) : sYr s y g k = s k := by simp [sYr, updN, show ¬ k = 0 by omega, show ¬ k = 2 by omega]
theorem sYr_s (s : Nat → Nat) : sYr s 0 0 = s := by
  funext j
  by_cases h0 : j = 0
  · subst h0; rw [sYr_0]; rfl
  · by_cases h2 : j = 2
    · subst h2; rw [sYr_2, Nat.or_zero]
    · simp [sYr, updN, h0, h2]
theorem cz_Yr {s : Nat → Nat} {y g t c : Nat} : cz (sYr s y g) t c = cz s t c := by
  unfold cz
  rw [sYr_1, sYr_k (by omega)]
theorem stg_Yr {s : Nat → Nat} (hs : okS s) {y g t : Nat} : stg (sYr s y g) t 0 = if g.testBit t then 0 else stg s t y := by
  have h5 := (cz_ok hs t).2.2.2.2.2
  unfold stg
  rw [sYr_2, sYr_0, cz_Yr, cz_Yr, cz_Yr, cz_Yr, Nat.testBit_or, show s 0 + y - cz s t 5 + 0 = s 0 - cz s t 5 + y by omega]
  cases (s 2).testBit t <;> cases g.testBit t <;> simp
theorem es_Yr {w : WT} {s : Nat → Nat} (hs : okS s) {y g i : Nat} (hi : i < 8) : esW w (sYr s y g) 0 i = if g.testBit i then 0 else esW w s y i := by
  unfold esW
  rw [if_pos hi, if_pos hi, sYr_1, stg_Yr hs]
  by_cases h : i < s 1
  · rw [if_pos h, if_pos h]
  · rw [if_neg h, if_neg h]; simp
theorem okY_Yr {s : Nat → Nat} (hs : okS s) {y g : Nat} (hy : y ≤ 60) (hg : g < 256) : okY (sYr s y g) := by
  obtain ⟨h0, h1, h2, h3⟩ := hs
  refine ⟨by rw [sYr_0]; omega, by rw [sYr_1]; exact h1, by rw [sYr_2]; exact Nat.or_lt_two_pow (n := 8) h2 hg, fun t ht => ?_⟩
  rw [sYr_1] at ht
  rw [sYr_k (by omega), sYr_k (by omega), sYr_k (by omega), sYr_k (by omega), sYr_k (by omega), sYr_k (by omega), sYr_0]
  have := h3 t ht
  omega
theorem VR_year {w : WT} {s : Nat → Nat} {y g : Nat} {v v' : Nat → Int32} (hs : okS s) (h : VR w (sYr s y g) v) (h1 : v' 25 = nI (s 0 + (y + 1))) (h2 : ∀ k, k < 26 → k ≠ 25 → v' k = v k) : VR w (sYr s (y + 1) g) v' := by
  have h8 := hs.2.1
  obtain ⟨a1, a2, a3, a4⟩ := h
  simp only [sYr_1, sYr_2, cz_Yr] at a1 a3 a4
  refine ⟨?_, ?_, ?_, ?_⟩
  · rw [h2 24 (by decide) (by decide), sYr_1]; exact a1
  · rw [sYr_0]; exact h1
  · rw [sYr_2, sYr_1]; exact a3
  · intro t ht
    rw [sYr_1] at ht
    simp only [sYr_2, cz_Yr]
    rw [h2 (8 + t) (by omega) (by omega), h2 (16 + t) (by omega) (by omega), h2 t (by omega) (by omega)]
    exact a4 t ht
theorem VR_snap {w : WT} {s : Nat → Nat} {y g t0 : Nat} {v v' : Nat → Int32} (hs : okS s) (h : VR w (sYr s y g) v) (ht0 : t0 < s 1) (h1 : v' (16 + t0) = 1) (h2 : ∀ k, k < 26 → k ≠ 16 + t0 → v' k = v k) : VR w (sYr s y (g ||| 2 ^ t0)) v' := by
  have h8 := hs.2.1
  obtain ⟨a1, a2, a3, a4⟩ := h
  simp only [sYr_0, sYr_1, sYr_2, cz_Yr] at a1 a2 a3 a4
  refine ⟨?_, ?_, ?_, ?_⟩
  · rw [h2 24 (by decide) (by omega), sYr_1]; exact a1
  · rw [h2 25 (by decide) (by omega), sYr_0]; exact a2
  · rw [sYr_2, sYr_1, ← Nat.or_assoc]; exact Nat.or_lt_two_pow a3 (Nat.pow_lt_pow_right (by decide) ht0)
  · intro t ht
    rw [sYr_1] at ht
    simp only [sYr_2, cz_Yr]
    obtain ⟨b1, b2, b3⟩ := a4 t ht
    rw [h2 (8 + t) (by omega) (by omega), h2 t (by omega) (by omega)]
    refine ⟨b1, ?_, b3⟩
    rw [← Nat.or_assoc, Nat.testBit_or]
    by_cases e : t = t0
    · subst e
      rw [h1, Nat.testBit_two_pow_self, Bool.or_true]
      rfl
    · rw [h2 (16 + t) (by omega) (by omega), b2, Nat.testBit_two_pow_of_ne (Ne.symm e), Bool.or_false]
theorem cyT_hi {s : Nat → Nat} {y c : Nat} {x : Nat × Nat} : ∀ {t j : Nat}, t ≤ j → (cyT s y c x t).2.testBit j = x.2.testBit j
  | 0, _, _ => rfl
  | t + 1, j, h => by
    have ih := cyT_hi (s := s) (y := y) (c := c) (x := x) (show t ≤ j by omega)
    simp only [cyT]
    split
    · dsimp only
      split
      · rw [Nat.testBit_or, Nat.testBit_two_pow_of_ne (by omega), Bool.or_false, ih]
      · exact ih
    · exact ih
theorem cyT_lt {s : Nat → Nat} {y c n : Nat} {x : Nat × Nat} (hx : x.2 < 2 ^ n) : ∀ {t : Nat}, t ≤ n → (cyT s y c x t).2 < 2 ^ n
  | 0, _ => hx
  | t + 1, h => by
    have ih := cyT_lt (s := s) (y := y) (c := c) hx (show t ≤ n by omega)
    simp only [cyT]
    split
    · dsimp only
      split
      · exact Nat.or_lt_two_pow ih (Nat.pow_lt_pow_right (by decide) (by omega))
      · exact ih
    · exact ih
theorem cyT_bit {w : WT} {s : Nat → Nat} (hs : okS s) {y c d g t : Nat} (ht : t < s 1) : (maskTo (fun e => decide (0 < esW w (sYr s y g) 0 e)) (s 1)).testBit t = (!(cyT s y c (d, g) t).2.testBit t && decide (0 < stg s t y)) := by
  have h8 := hs.2.1
  rw [testBit_maskTo, decide_eq_true ht, Bool.true_and, cyT_hi (Nat.le_refl t), es_Yr hs (by omega)]
  have he : esW w s y t = stg s t y := by unfold esW; rw [if_pos (by omega), if_pos ht]
  rw [he]
  cases g.testBit t <;> simp
theorem RY_Yr {w : WT} {s : Nat → Nat} {y g : Nat} {A : AH} (h : RY (sYr s y g 1) (e1W w (sYr s y g)) (e2W w (sYr s y g)) (esW w (sYr s y g) 0) A) : RY (s 1) (e1W w (sYr s y g)) (e2W w (sYr s y g)) (esW w (sYr s y g) 0) A := by
  rw [sYr_1] at h
  exact h
set_option maxRecDepth 4000 in
theorem c_X13_clerksYear {K : Option Value → AH → Prop} {A : AH} {r : Value} {w : WT} {s : Nat → Nat} {y d g : Nat} (hM : RepM w A) (hX : XY w (sYr s y g) A) (hs : okS s) (hr1 : w.1 2 ≤ 7) (hr2 : w.1 5 ≤ 5) (hc : tbz w 0 0 1 ≤ 100) (hy : y < 60) (hd : d < 65537) (hg : g < 2 ^ s 1) (hsd : A.1 100 31 = nI d) (h : ∀ A', RY (s 1) (e1W w (sYr s (y + 1) (cyT s (y + 1) (tbz w 0 0 1) (d, g) (s 1)).2)) (e2W w (sYr s (y + 1) (cyT s (y + 1) (tbz w 0 0 1) (d, g) (s 1)).2)) (esW w (sYr s (y + 1) (cyT s (y + 1) (tbz w 0 0 1) (d, g) (s 1)).2) 0) A' → XY w (sYr s (y + 1) (cyT s (y + 1) (tbz w 0 0 1) (d, g) (s 1)).2) A' → QM A A' → A'.1 100 31 = nI (cyT s (y + 1) (tbz w 0 0 1) (d, g) (s 1)).1 → K none A') : Ct yX13_clerksYear mX13_clerksYear 3 dM (GG (.ref 111) r) [.ref 100] A K := by
  refine Ct.of [some (.ref 100), none, none] rfl rfl rfl (Nat.le_of_ble_eq_true rfl) ?_
  have h8 := hs.2.1
  have h28 : 2 ^ s 1 ≤ 256 := Nat.pow_le_pow_right (n := 2) (j := 8) (by decide) h8
  have hg2 : g < 256 := by omega
  have hv24 : A.1 103 24 = nI (s 1) := by rw [hX.1.1, sYr_1]
  have hv25 : A.1 103 25 = nI (s 0 + y) := by rw [hX.1.2.1, sYr_0]
  have hs0 := hs.1
  have lp23 : ∀ (nf : Nat) (i : Nat) (A' : AH), i ≤ s 1 → VR w (sYr s (y + 1) (cyT s (y + 1) (tbz w 0 0 1) (d, g) i).2) (A'.1 103) → QM A A' → A'.1 100 31 = nI (cyT s (y + 1) (tbz w 0 0 1) (d, g) i).1 → s 1 - i < nf → WP mX13_clerksYear 3 dM (GG (.ref 111) r) 23 [some (.ref 100), some (.int (nI (maskTo (fun e => decide (0 < esW w (sYr s (y + 1) g) 0 e)) (s 1)))), some (.int (nI i))] [] A' K := by
    intro nf
    induction nf with
    | zero => intros; omega
    | succ nf ih =>
      intro i A' hi hV hQ hseed hms
      have hM2 := hM.q hQ
      have hV24 : A'.1 103 24 = nI (s 1) := by rw [hV.1, sYr_1]
      have hdl : (cyT s (y + 1) (tbz w 0 0 1) (d, g) i).1 < 65537 := (cyT_ok (s := s) (y := y + 1) (c := tbz w 0 0 1) (x := (d, g)) hd hg2 (t := i) (by omega)).1
      have hnx := nxt_lt (cyT s (y + 1) (tbz w 0 0 1) (d, g) i).1
      have hcl : A'.1 111 1 = nI (tbz w 0 0 1) := hM2.1.2.1
      have hHl : (maskTo (fun e => decide (0 < esW w (sYr s (y + 1) g) 0 e)) (s 1)) < 2 ^ s 1 := maskTo_lt _ _
      refine w_iload_n 24 dX13_clerksYear_23 rfl rfl ?_
      refine w_aload_n 25 dX13_clerksYear_24 rfl rfl ?_
      refine w_getr 28 dX13_clerksYear_25 rfl faX13_21 rfl rfl rfl (r := .ref 103) rfl ?_
      refine w_bipush 30 dX13_clerksYear_28 rfl (v := nI 24) rfl ?_
      refine w_ialdv 31 dX13_clerksYear_30 rfl rfl rfl (by decide) (by omega) hV24 ?_
      refine w_icgeN 100 34 dX13_clerksYear_31 rfl rfl (by omega) (by omega) (fun c31 => ?_) (fun c31 => ?_)
      · skip
        refine w_aload_n 101 dX13_clerksYear_100 rfl rfl ?_
        refine w_iconst 102 dX13_clerksYear_101 rfl (v := nI 0) rfl ?_
        have e : i = s 1 := by omega
        subst e
        have hgl := cyT_lt (s := s) (y := y + 1) (c := tbz w 0 0 1) (x := (d, g)) hg (t := s 1) (Nat.le_refl _)
        refine w_inv1 105 dX13_clerksYear_102 rfl mlX13_379 rfl rfl (d' := 2) (by decide) (Nat.le_of_ble_eq_true rfl) (yc_X13_laysWorked hM2 (show XY w (sYr s (y + 1) (cyT s (y + 1) (tbz w 0 0 1) (d, g) (s 1)).2) A' from ⟨hV, okY_Yr hs (by omega) (by omega)⟩) ⟨hr1, hr2⟩ (by decide) (fun A4 hY4 hX4 hQ4 hx4 => ?_))
        refine wr_v dX13_clerksYear_105 rfl ?_
        exact h A4 (RY_Yr hY4) hX4 (hQ.tr hQ4) (by rw [hx4.2 31 (by decide)]; exact hseed)
      · skip
        refine w_iload_n 35 dX13_clerksYear_34 rfl rfl ?_
        refine w_iload_n 36 dX13_clerksYear_35 rfl rfl ?_
        refine w_invs2 39 dX13_clerksYear_36 rfl slX13_277 (d' := 0) (by decide) (Nat.le_of_ble_eq_true rfl) (c_X13_bit ?_)
        rw [hasB_nI (by omega) (by omega), cyT_bit (c := tbz w 0 0 1) (d := d) hs c31]
        refine w_ifneB 45 42 dX13_clerksYear_39 rfl rfl (fun c39 => ?_) (fun c39 => ?_)
        · skip
          refine w_aload_n 46 dX13_clerksYear_45 rfl rfl ?_
          refine w_ldc2 49 dX13_clerksYear_46 rfl kcX13_503 ?_
          refine w_topl (show _ = lN 75 from rfl) ?_
          refine w_aload_n 50 dX13_clerksYear_49 rfl rfl ?_
          refine w_getiv 53 dX13_clerksYear_50 rfl faX13_505 rfl rfl rfl hseed ?_
          refine w_i2lN 54 dX13_clerksYear_53 rfl (by omega) ?_
          refine w_lmulN 55 dX13_clerksYear_54 rfl ?_
          refine w_ldc2 58 dX13_clerksYear_55 rfl kcX13_508 ?_
          refine w_topl (show _ = lN 74 from rfl) ?_
          refine w_laddN 59 dX13_clerksYear_58 rfl ?_
          refine w_ldc2 62 dX13_clerksYear_59 rfl kcX13_510 ?_
          refine w_topl (show _ = lN 65537 from rfl) ?_
          refine w_lremN 63 dX13_clerksYear_62 rfl (by omega) (by decide) (by decide) ?_
          refine w_l2iN 64 dX13_clerksYear_63 rfl ?_
          refine w_puti 67 dX13_clerksYear_64 rfl faX13_505 rfl rfl rfl rfl ?_
          refine w_aload_n 68 dX13_clerksYear_67 rfl rfl ?_
          refine w_getiv 71 dX13_clerksYear_68 rfl faX13_505 rfl rfl rfl (v := nI (nxt (cyT s (y + 1) (tbz w 0 0 1) (d, g) i).1)) (by dsimp only; rw [upd2_at]; rfl) ?_
          refine w_bipush 73 dX13_clerksYear_71 rfl (v := nI 100) rfl ?_
          refine w_iremN 74 dX13_clerksYear_73 rfl (by omega) (by omega) (by omega) ?_
          refine w_aload_n 75 dX13_clerksYear_74 rfl rfl ?_
          refine w_getr 78 dX13_clerksYear_75 rfl faX13_343 rfl rfl rfl (r := .ref 111) rfl ?_
          refine w_getiv 81 dX13_clerksYear_78 rfl faX13_228 rfl rfl rfl (v := nI (tbz w 0 0 1)) (by dsimp only; rw [upd2_ne (by decide)]; exact hcl) ?_
          refine w_icgeN 94 84 dX13_clerksYear_81 rfl rfl (by omega) (by omega) (fun c81 => ?_) (fun c81 => ?_)
          · skip
            refine w_inc2 97 dX13_clerksYear_94 rfl (by decide) rfl (v := nI (_ + 1)) (nI_1 _) ?_
            refine w_goto 23 dX13_clerksYear_97 rfl ?_
            have hcy : cyT s (y + 1) (tbz w 0 0 1) (d, g) (i + 1) = (nxt (cyT s (y + 1) (tbz w 0 0 1) (d, g) i).1, (cyT s (y + 1) (tbz w 0 0 1) (d, g) i).2) := by simp only [cyT, c39]; rw [if_pos trivial, if_neg (show ¬ nxt (cyT s (y + 1) (tbz w 0 0 1) (d, g) i).1 % 100 < tbz w 0 0 1 by omega)]
            exact ih (i + 1) _ (by omega) (by rw [hcy]; dsimp only; rw [upd2_ne (by decide)]; exact hV) (hQ.f (by decide) _) (by rw [hcy]; dsimp only; rw [upd2_at]; rfl) (by omega)
          · skip
            refine w_aload_n 85 dX13_clerksYear_84 rfl rfl ?_
            refine w_getr 88 dX13_clerksYear_85 rfl faX13_21 rfl rfl rfl (r := .ref 103) rfl ?_
            refine w_bipush 90 dX13_clerksYear_88 rfl (v := nI 16) rfl ?_
            refine w_iload_n 91 dX13_clerksYear_90 rfl rfl ?_
            refine w_iaddN 92 dX13_clerksYear_91 rfl ?_
            refine w_iconst 93 dX13_clerksYear_92 rfl (v := nI 1) rfl ?_
            refine w_iastN 94 dX13_clerksYear_93 rfl rfl rfl (by decide) (by omega) ?_
            refine w_inc2 97 dX13_clerksYear_94 rfl (by decide) rfl (v := nI (_ + 1)) (nI_1 _) ?_
            refine w_goto 23 dX13_clerksYear_97 rfl ?_
            have hcy : cyT s (y + 1) (tbz w 0 0 1) (d, g) (i + 1) = (nxt (cyT s (y + 1) (tbz w 0 0 1) (d, g) i).1, (cyT s (y + 1) (tbz w 0 0 1) (d, g) i).2 ||| 2 ^ i) := by simp only [cyT, c39]; rw [if_pos trivial, if_pos (show nxt (cyT s (y + 1) (tbz w 0 0 1) (d, g) i).1 % 100 < tbz w 0 0 1 by omega)]
            refine ih (i + 1) _ (by omega) ?_ ((hQ.f (by decide) _).a (by decide) (by decide) _ _) (by rw [hcy]; dsimp only; rw [upd2_ne (by decide), upd2_at]; rfl) (by omega)
            rw [hcy]
            exact VR_snap hs hV c31 (by dsimp only; rw [upd2_at]; rfl) (fun k _ hk => by dsimp only; rw [upd2_off hk, upd2_ne (by decide)])
        · skip
          refine w_goto 94 dX13_clerksYear_42 rfl ?_
          refine w_inc2 97 dX13_clerksYear_94 rfl (by decide) rfl (v := nI (_ + 1)) (nI_1 _) ?_
          refine w_goto 23 dX13_clerksYear_97 rfl ?_
          have hcy : cyT s (y + 1) (tbz w 0 0 1) (d, g) (i + 1) = (cyT s (y + 1) (tbz w 0 0 1) (d, g) i) := by simp only [cyT, c39]; simp
          exact ih (i + 1) A' (by omega) (by rw [hcy]; exact hV) hQ (by rw [hcy]; exact hseed) (by omega)
  refine w_aload_n 1 dX13_clerksYear_0 rfl rfl ?_
  refine w_getr 4 dX13_clerksYear_1 rfl faX13_21 rfl rfl rfl (r := .ref 103) rfl ?_
  refine w_bipush 6 dX13_clerksYear_4 rfl (v := nI 25) rfl ?_
  refine w_dup2 7 dX13_clerksYear_6 rfl ?_
  refine w_ialdv 8 dX13_clerksYear_7 rfl rfl rfl (by decide) (by omega) hv25 ?_
  refine w_iconst 9 dX13_clerksYear_8 rfl (v := nI 1) rfl ?_
  refine w_iaddN 10 dX13_clerksYear_9 rfl ?_
  refine w_iastN 11 dX13_clerksYear_10 rfl rfl rfl (by decide) (by omega) ?_
  refine w_aload_n 12 dX13_clerksYear_11 rfl rfl ?_
  refine w_iconst 13 dX13_clerksYear_12 rfl (v := nI 0) rfl ?_
  have hQ1 : QM A (upd2 A.1 103 25 (nI (s 0 + y + 1)), A.2) := QM.rf.a (by decide) (by decide) _ _
  have hM1 := hM.q hQ1
  have hX1 : XY w (sYr s (y + 1) g) (upd2 A.1 103 25 (nI (s 0 + y + 1)), A.2) := ⟨VR_year hs hX.1 (by dsimp only; rw [upd2_at, Nat.add_assoc]) (fun k _ hk => by dsimp only; rw [upd2_off hk]), okY_Yr hs (by omega) hg2⟩
  refine w_inv1 16 dX13_clerksYear_13 rfl mlX13_379 rfl rfl (d' := 2) (by decide) (Nat.le_of_ble_eq_true rfl) (yc_X13_laysWorked hM1 hX1 ⟨hr1, hr2⟩ (by decide) (fun A3 hY3 hX3 hQ3 hx3 => ?_))
  have hY3 := RY_Yr hY3
  have hsd3 : A3.1 100 31 = nI d := by rw [hx3.2 31 (by decide)]; dsimp only; rw [upd2_ne (by decide)]; exact hsd
  refine w_aload_n 17 dX13_clerksYear_16 rfl rfl ?_
  refine w_inv0 20 dX13_clerksYear_17 rfl mlX13_405 rfl rfl (d' := 0) (by decide) (Nat.le_of_ble_eq_true rfl) (c_X13_held hY3 ?_)
  refine w_ist1 21 dX13_clerksYear_20 rfl (by decide) rfl ?_
  refine w_iconst 22 dX13_clerksYear_21 rfl (v := nI 0) rfl ?_
  refine w_ist2 23 dX13_clerksYear_22 rfl (by decide) rfl ?_
  exact lp23 _ 0 A3 (Nat.zero_le _) hX3.1 (hQ1.tr hQ3) hsd3 (Nat.lt_succ_self _)

set_option maxRecDepth 4000 in
theorem c_X13_refusesSeed {K : Option Value → AH → Prop} {A : AH} {r : Value} {b : Bool} {d n : Int32} (h : K (some (.int (nI (tSY b d n)))) A) : Ct yX13_refusesSeed mX13_refusesSeed 1 dM (GG (.ref 111) r) [.ref 100, .int (b2i b), .int d, .int n] A K := by
  refine Ct.of [some (.ref 100), some (.int (b2i b)), some (.int d), some (.int n)] rfl rfl rfl (Nat.le_of_ble_eq_true rfl) ?_
  refine w_iload_n 1 dX13_refusesSeed_0 rfl rfl ?_
  refine w_ifneB 8 4 dX13_refusesSeed_1 rfl rfl (fun c1 => ?_) (fun c1 => ?_)
  · skip
    refine w_iload_n 9 dX13_refusesSeed_8 rfl rfl ?_
    refine w_iconst 10 dX13_refusesSeed_9 rfl (v := nI 0) rfl ?_
    refine w_ldcw 13 dX13_refusesSeed_10 rfl kcX13_512 ?_
    refine w_top (show _ = nI 65536 from rfl) ?_
    refine w_invs3 16 dX13_refusesSeed_13 rfl slX13_121 (d' := 0) (by decide) (Nat.le_of_ble_eq_true rfl) (c_X13_in ?_)
    refine w_ifeqB 33 19 dX13_refusesSeed_16 rfl rfl (fun c16 => ?_) (fun c16 => ?_)
    · skip
      refine w_iconst 34 dX13_refusesSeed_33 rfl (v := nI 2) rfl ?_
      refine wr_i dX13_refusesSeed_34 rfl ?_
      exact kq h (by unfold tSY; rw [c1, show tB 65536 d = 2 from if_neg (of_decide_eq_false c16)]; rfl)
    · skip
      refine w_iload_n 20 dX13_refusesSeed_19 rfl rfl ?_
      refine w_iconst 21 dX13_refusesSeed_20 rfl (v := nI 0) rfl ?_
      refine w_bipush 23 dX13_refusesSeed_21 rfl (v := nI 60) rfl ?_
      refine w_invs3 26 dX13_refusesSeed_23 rfl slX13_121 (d' := 0) (by decide) (Nat.le_of_ble_eq_true rfl) (c_X13_in ?_)
      refine w_ifeqB 33 29 dX13_refusesSeed_26 rfl rfl (fun c26 => ?_) (fun c26 => ?_)
      · skip
        refine w_iconst 34 dX13_refusesSeed_33 rfl (v := nI 2) rfl ?_
        refine wr_i dX13_refusesSeed_34 rfl ?_
        exact kq h (by unfold tSY; rw [c1, show tB 65536 d = 0 from if_pos (of_decide_eq_true c16), show tI n = 2 from if_neg (of_decide_eq_false c26)]; rfl)
      · skip
        refine w_iconst 30 dX13_refusesSeed_29 rfl (v := nI 0) rfl ?_
        refine w_goto 34 dX13_refusesSeed_30 rfl ?_
        refine wr_i dX13_refusesSeed_34 rfl ?_
        exact kq h (by unfold tSY; rw [c1, show tB 65536 d = 0 from if_pos (of_decide_eq_true c16), show tI n = 0 from if_pos (of_decide_eq_true c26)]; rfl)
  · skip
    refine w_iconst 5 dX13_refusesSeed_4 rfl (v := nI 1) rfl ?_
    refine w_goto 34 dX13_refusesSeed_5 rfl ?_
    refine wr_i dX13_refusesSeed_34 rfl ?_
    exact kq h (by unfold tSY; rw [c1]; rfl)

set_option maxRecDepth 4000 in
theorem c_X13_refusesSeedN {K : Option Value → AH → Prop} {A : AH} {r : Value} {b : Bool} {d n : Int32} (hb : b = false) (h : K (some (.int (nI 1))) A) : Ct yX13_refusesSeed mX13_refusesSeed 1 dN (GG .null r) [.ref 100, .int (b2i b), .int d, .int n] A K := by
  refine Ct.of [some (.ref 100), some (.int (b2i b)), some (.int d), some (.int n)] rfl rfl rfl (Nat.le_of_ble_eq_true rfl) ?_
  refine w_iload_n 1 dX13_refusesSeed_0 rfl rfl ?_
  refine w_ifneB 8 4 dX13_refusesSeed_1 rfl rfl (fun c1 => (by rw [hb] at c1; cases c1)) (fun c1 => ?_)
  refine w_iconst 5 dX13_refusesSeed_4 rfl (v := nI 1) rfl ?_
  refine w_goto 34 dX13_refusesSeed_5 rfl ?_
  refine wr_i dX13_refusesSeed_34 rfl ?_
  exact h

