/-! ===== bytes ===== -/
def isB (b : Int32) : Prop := -128 ≤ b.toInt ∧ b.toInt ≤ 127
def bv (b : Int32) : Nat := (b.toInt % 256).toNat
theorem nar_b (x : Int32) : vp_nar .byte x = x.toInt8.toInt32 := rfl
theorem isB_8 (y : Int8) : isB y.toInt32 := by
  have h1 := Int8.le_toInt y
  have h2 := Int8.toInt_lt y
  unfold isB
  rw [Int8.toInt_toInt32]
  omega
theorem isB_nar (x : Int32) : isB (vp_nar .byte x) := by rw [nar_b]; exact isB_8 _
theorem bv_lt (b : Int32) : bv b < 256 := by unfold bv; omega
theorem b_lt {b : Int32} (h : isB b) {c : Nat} (hc : c < 128) : b < nI c ↔ ¬ (c ≤ bv b ∧ bv b < 128) := by
  unfold isB at h
  rw [Int32.lt_iff_toInt_lt, nI_toInt (by omega)]
  unfold bv
  omega
theorem b_gt {b : Int32} (h : isB b) {c : Nat} (hc : c < 128) : nI c < b ↔ c < bv b ∧ bv b < 128 := by
  unfold isB at h
  rw [Int32.lt_iff_toInt_lt, nI_toInt (by omega)]
  unfold bv
  omega
theorem b_eq {b : Int32} (h : isB b) {c : Nat} (hc : c < 128) : b = nI c ↔ bv b = c := by
  unfold isB at h
  rw [← Int32.toInt_inj, nI_toInt (by omega)]
  unfold bv
  omega
theorem b_and {b : Int32} : b &&& nI 255 = nI (bv b) := by
  apply Int32.toBitVec_inj.mp
  show b.toBitVec &&& BitVec.ofNat 32 255 = BitVec.ofNat 32 (bv b)
  apply BitVec.eq_of_toNat_eq
  rw [BitVec.toNat_and, BitVec.toNat_ofNat, BitVec.toNat_ofNat, show 255 % 2 ^ 32 = 2 ^ 8 - 1 from rfl, Nat.and_two_pow_sub_one_eq_mod]
  have h : b.toInt = b.toBitVec.toInt := rfl
  have hl := b.toBitVec.isLt
  unfold bv
  rw [h, BitVec.toInt_eq_toNat_cond]
  split <;> omega
def isL (v : Nat) : Bool := decide (97 ≤ v ∧ v ≤ 122)
def isD (v : Nat) : Bool := decide (48 ≤ v ∧ v ≤ 57)
/-! ===== runs of bytes ===== -/
def run (P : Nat → Bool) (p : Nat) : Nat → Nat
  | 0 => p
  | k + 1 => if P p then run P (p + 1) k else p
theorem run_ge (P : Nat → Bool) : ∀ (k p : Nat), p ≤ run P p k
  | 0, p => Nat.le_refl p
  | k + 1, p => by
    simp only [run]
    split
    · have := run_ge P k (p + 1); omega
    · omega
theorem run_le (P : Nat → Bool) : ∀ (k p : Nat), run P p k ≤ p + k
  | 0, p => Nat.le_refl p
  | k + 1, p => by
    simp only [run]
    split
    · have := run_le P k (p + 1); omega
    · omega
theorem run_eq {P : Nat → Bool} {i : Nat} : ∀ {k p : Nat}, p ≤ i → i ≤ p + k → (∀ j, p ≤ j → j < i → P j = true) → (i < p + k → P i = false) → run P p k = i
  | 0, p, h1, h2, _, _ => by simp only [run]; omega
  | k + 1, p, h1, h2, h3, h4 => by
    simp only [run]
    by_cases e : p = i
    · subst e
      rw [if_neg (by rw [h4 (by omega)]; simp)]
    · rw [if_pos (h3 p (Nat.le_refl p) (by omega))]
      exact run_eq (by omega) (by omega) (fun j a b => h3 j (by omega) b) (fun q => h4 (by omega))
def wdF (f : Nat → Nat) (b q : Nat) : Nat → Nat
  | 0 => 0
  | k + 1 => wdF f b q k * b + f (q + k)
theorem wdF_lt {f : Nat → Nat} {b q : Nat} (hf : ∀ k, f (q + k) < b) : ∀ k, wdF f b q k < b ^ k
  | 0 => by simp [wdF]
  | k + 1 => by
    have ih := wdF_lt hf k
    have h2 := hf k
    simp only [wdF, Nat.pow_succ]
    have h3 : (wdF f b q k + 1) * b ≤ b ^ k * b := Nat.mul_le_mul_right b ih
    rw [Nat.add_mul] at h3
    omega
/-! ===== tokens: 0 end, 1 word, 2 whole, 3 semicolon, 4 none ===== -/
def tkS (g : Nat → Nat) (e p : Nat) : Nat := run (fun i => decide (g i = 32)) p (e - p)
def lrn (g : Nat → Nat) (e q : Nat) : Nat := run (fun i => isL (g i)) q (e - q)
def drn (g : Nat → Nat) (e q : Nat) : Nat := run (fun i => isD (g i)) q (e - q)
def tkK (g : Nat → Nat) (e p : Nat) : Nat :=
  if e ≤ tkS g e p then 0
  else if isL (g (tkS g e p)) then (if lrn g e (tkS g e p) - tkS g e p ≤ 8 then 1 else 4)
  else if isD (g (tkS g e p)) then (if drn g e (tkS g e p) - tkS g e p ≤ 3 then 2 else 4)
  else if g (tkS g e p) = 59 then 3 else 4
def tkE (g : Nat → Nat) (e p : Nat) : Nat :=
  if e ≤ tkS g e p then tkS g e p
  else if isL (g (tkS g e p)) then lrn g e (tkS g e p)
  else if isD (g (tkS g e p)) then drn g e (tkS g e p)
  else tkS g e p + 1
def lc (g : Nat → Nat) (q k : Nat) : Nat := wdF (fun i => g i - 96) 32 q k
def dc (g : Nat → Nat) (q k : Nat) : Nat := wdF (fun i => g i - 48) 10 q k
def tkC (g : Nat → Nat) (e p : Nat) : Nat := lc g (tkS g e p) (lrn g e (tkS g e p) - tkS g e p)
def tkV (g : Nat → Nat) (e p : Nat) : Nat := dc g (tkS g e p) (drn g e (tkS g e p) - tkS g e p)
theorem tkS_ge (g : Nat → Nat) (e p : Nat) : p ≤ tkS g e p := run_ge _ _ _
theorem tkS_le {g : Nat → Nat} {e p : Nat} (h : p ≤ e) : tkS g e p ≤ e := by have := run_le (fun i => decide (g i = 32)) (e - p) p; unfold tkS; omega
theorem lrn_le {g : Nat → Nat} {e p : Nat} (h : p ≤ e) : lrn g e p ≤ e := by have := run_le (fun i => isL (g i)) (e - p) p; unfold lrn; omega
theorem drn_le {g : Nat → Nat} {e p : Nat} (h : p ≤ e) : drn g e p ≤ e := by have := run_le (fun i => isD (g i)) (e - p) p; unfold drn; omega
theorem tkE_le {g : Nat → Nat} {e p : Nat} (h : p ≤ e) : tkE g e p ≤ e := by
  have h1 := tkS_le (g := g) h
  unfold tkE
  repeat' split
  · exact h1
  · exact lrn_le h1
  · exact drn_le h1
  · omega
theorem upd2_2 {α : Type} {f : Nat → Nat → α} {o k : Nat} {x y : α} : upd2 (upd2 f o k x) o k y = upd2 f o k y := by
  funext a b
  simp only [upd2]
  repeat' split
  all_goals rfl
theorem upd2_c {α : Type} {f : Nat → Nat → α} {o k j : Nat} {x y : α} (h : k ≠ j) : upd2 (upd2 f o k x) o j y = upd2 (upd2 f o j y) o k x := by
  funext a b
  simp only [upd2]
  repeat' split
  all_goals first | rfl | (exfalso; omega)
theorem upd2_s {α : Type} {f : Nat → Nat → α} {o k : Nat} {x : α} (h : f o k = x) : upd2 f o k x = f := by
  funext a b
  simp only [upd2]
  repeat' split
  all_goals first | rfl | (subst_vars; rfl)
/-! ===== the reader's numbers ===== -/
def RdI (f : Nat) (pl : Int32) (n : Nat) (tp : Nat → Int32) (A : AH) : Prop := A.1 1 5 = nI f ∧ A.1 1 6 = pl ∧ A.1 7 1 = nI n ∧ n ≤ 900 ∧ ∀ i, i < n → A.1 8 i = tp i
theorem RdI.off {f : Nat} {pl : Int32} {n : Nat} {tp : Nat → Int32} {A A' : AH} (h : RdI f pl n tp A) (h1 : A'.1 1 = A.1 1) (h7 : A'.1 7 = A.1 7) (h8 : A'.1 8 = A.1 8) : RdI f pl n tp A' := by
  unfold RdI
  rw [h1, h7, h8]
  exact h
def bt (x : Int32) (j : Nat) : Int32 := vp_nar .byte (x >>> (nI (24 - 8 * j) &&& 31)).toInt8.toInt32
set_option maxRecDepth 4000 in
theorem c_X11_trouble {K : Option Value → AH → Prop} {A : AH} {x : Int32} (hx : A.1 0 8 = x) (h : K (some (.int x)) A) : Ct yX11_trouble mX11_trouble 0 dC gC [.ref 0] A K := by
  refine Ct.of [some (.ref 0)] rfl rfl rfl (Nat.le_of_ble_eq_true rfl) ?_
  refine w_aload_n 1 dX11_trouble_0 rfl rfl ?_
  refine w_getiv 4 dX11_trouble_1 rfl faX11_117 rfl rfl rfl hx ?_
  refine wr_i dX11_trouble_4 rfl ?_
  exact h

set_option maxRecDepth 4000 in
theorem c_X11_fault {K : Option Value → AH → Prop} {A : AH} {f : Nat} {pl : Int32} {n : Nat} {tp : Nat → Int32} (hR : RdI f pl n tp A) (h : K (some (.int (nI f))) A) : Ct yX11_fault mX11_fault 0 dC gC [.ref 0] A K := by
  refine Ct.of [some (.ref 0)] rfl rfl rfl (Nat.le_of_ble_eq_true rfl) ?_
  refine w_aload_n 1 dX11_fault_0 rfl rfl ?_
  refine w_getr 4 dX11_fault_1 rfl faX11_10 rfl rfl rfl (r := .ref 1) rfl ?_
  refine w_getiv 7 dX11_fault_4 rfl faX11_94 rfl rfl rfl hR.1 ?_
  refine wr_i dX11_fault_7 rfl ?_
  exact h

set_option maxRecDepth 4000 in
theorem c_X11_where {K : Option Value → AH → Prop} {A : AH} {f : Nat} {pl : Int32} {n : Nat} {tp : Nat → Int32} (hR : RdI f pl n tp A) {x : Nat} (hx : A.1 0 8 = nI x) (hx2 : x < 2 ^ 31) (h : K (some (.int (if x = 4 then pl else -1))) A) : Ct yX11_where mX11_where 0 dC gC [.ref 0] A K := by
  refine Ct.of [some (.ref 0)] rfl rfl rfl (Nat.le_of_ble_eq_true rfl) ?_
  refine w_aload_n 1 dX11_where_0 rfl rfl ?_
  refine w_getiv 4 dX11_where_1 rfl faX11_117 rfl rfl rfl hx ?_
  refine w_iconst 5 dX11_where_4 rfl (v := nI 4) rfl ?_
  refine w_icneN 18 8 dX11_where_5 rfl rfl (by omega) (by omega) (fun c5 => ?_) (fun c5 => ?_)
  · skip
    refine w_iconst 19 dX11_where_18 rfl (v := (-1)) rfl ?_
    refine wr_i dX11_where_19 rfl ?_
    exact kq h (by rw [if_neg c5])
  · skip
    refine w_aload_n 9 dX11_where_8 rfl rfl ?_
    refine w_getr 12 dX11_where_9 rfl faX11_10 rfl rfl rfl (r := .ref 1) rfl ?_
    refine w_getiv 15 dX11_where_12 rfl faX11_120 rfl rfl rfl hR.2.1 ?_
    refine w_goto 19 dX11_where_15 rfl ?_
    refine wr_i dX11_where_19 rfl ?_
    exact kq h (by rw [if_pos c5])

def rSize (w : WT) (s : Nat → Nat) (c m n : Nat) (x : Int32) : Int32 := if x = nI 0 then nI (tbz w 0 0 0) else if x = nI 1 then nI (tbz w 0 0 1) else if x = nI 2 then nI (w.1 1) else if x = nI 3 then nI (s 1) else if x = nI 4 then nI (w.1 3) else if x = nI 5 then nI (w.1 4) else if x = nI 6 then nI (w.1 5) else if x = nI 7 then nI (w.1 6) else if x = nI 8 then nI (w.1 7) else if x = nI 9 then nI (s 0) else if x = nI 10 then nI c else if x = nI 11 then nI m else if x = nI 12 then nI n else -1
set_option maxRecDepth 4000 in
theorem c_X11_sizeN {K : Option Value → AH → Prop} {A : AH} {w : WT} {s : Nat → Nat} {H I : Nat → Nat → Nat} {nx c m : Nat} {f : Nat} {pl : Int32} {n : Nat} {tp : Nat → Int32} {x : Nat} (hC : CI w s A) (hP : RepP H I nx c m A) (hR : RdI f pl n tp A) (hx : x ≤ 12) (h : K (some (.int (rSize w s c m n (nI x)))) A) : Ct yX11_size mX11_size 2 dC gC [.ref 0, .int (nI x)] A K := by
  refine Ct.of [some (.ref 0), some (.int (nI x))] rfl rfl rfl (Nat.le_of_ble_eq_true rfl) ?_
  refine w_iload_n 1 dX11_size_0 rfl rfl ?_
  rcases x with _ | _ | _ | _ | _ | _ | _ | _ | _ | _ | _ | _ | _ | x
  rotate_left 13
  · omega
  · skip
    skip
    refine w_tabIn 68 dX11_size_1 (by decide) (by decide) rfl rfl ?_
    refine w_aload_n 69 dX11_size_68 rfl rfl ?_
    refine w_getr 72 dX11_size_69 rfl faX11_19 rfl rfl rfl (r := .ref 26) rfl ?_
    refine w_inv0 75 dX11_size_72 rfl mlX11_355 rfl rfl (d' := 1) (by decide) (Nat.le_of_ble_eq_true rfl) (c_X10_slipsInHundred_26 hC.1 ?_)
    refine wr_i dX11_size_75 rfl ?_
    exact h
  · skip
    skip
    refine w_tabIn 76 dX11_size_1 (by decide) (by decide) rfl rfl ?_
    refine w_aload_n 77 dX11_size_76 rfl rfl ?_
    refine w_getr 80 dX11_size_77 rfl faX11_19 rfl rfl rfl (r := .ref 26) rfl ?_
    refine w_inv0 83 dX11_size_80 rfl mlX11_307 rfl rfl (d' := 1) (by decide) (Nat.le_of_ble_eq_true rfl) (c_X10_clerksInHundred_26 hC.1 ?_)
    refine wr_i dX11_size_83 rfl ?_
    exact h
  · skip
    skip
    refine w_tabIn 84 dX11_size_1 (by decide) (by decide) rfl rfl ?_
    refine w_aload_n 85 dX11_size_84 rfl rfl ?_
    refine w_getr 88 dX11_size_85 rfl faX11_19 rfl rfl rfl (r := .ref 26) rfl ?_
    refine w_iconst 89 dX11_size_88 rfl (v := nI 1) rfl ?_
    refine w_inv1 92 dX11_size_89 rfl mlX11_113 rfl rfl (d' := 1) (by decide) (Nat.le_of_ble_eq_true rfl) (c_X10_howMany_26 hC.1 (by decide) ?_)
    refine wr_i dX11_size_92 rfl ?_
    exact h
  · skip
    skip
    refine w_tabIn 93 dX11_size_1 (by decide) (by decide) rfl rfl ?_
    refine w_aload_n 94 dX11_size_93 rfl rfl ?_
    refine w_getr 97 dX11_size_94 rfl faX11_26 rfl rfl rfl (r := .ref 43) rfl ?_
    refine w_inv0 100 dX11_size_97 rfl mlX11_164 rfl rfl (d' := 0) (by decide) (Nat.le_of_ble_eq_true rfl) (c_X7_threads hC.2.2.1 ?_)
    refine wr_i dX11_size_100 rfl ?_
    exact h
  · skip
    skip
    refine w_tabIn 101 dX11_size_1 (by decide) (by decide) rfl rfl ?_
    refine w_aload_n 102 dX11_size_101 rfl rfl ?_
    refine w_getr 105 dX11_size_102 rfl faX11_19 rfl rfl rfl (r := .ref 26) rfl ?_
    refine w_iconst 106 dX11_size_105 rfl (v := nI 3) rfl ?_
    refine w_inv1 109 dX11_size_106 rfl mlX11_113 rfl rfl (d' := 1) (by decide) (Nat.le_of_ble_eq_true rfl) (c_X10_howMany_26 hC.1 (by decide) ?_)
    refine wr_i dX11_size_109 rfl ?_
    exact h
  · skip
    skip
    refine w_tabIn 110 dX11_size_1 (by decide) (by decide) rfl rfl ?_
    refine w_aload_n 111 dX11_size_110 rfl rfl ?_
    refine w_getr 114 dX11_size_111 rfl faX11_19 rfl rfl rfl (r := .ref 26) rfl ?_
    refine w_iconst 115 dX11_size_114 rfl (v := nI 4) rfl ?_
    refine w_inv1 118 dX11_size_115 rfl mlX11_113 rfl rfl (d' := 1) (by decide) (Nat.le_of_ble_eq_true rfl) (c_X10_howMany_26 hC.1 (by decide) ?_)
    refine wr_i dX11_size_118 rfl ?_
    exact h
  · skip
    skip
    refine w_tabIn 119 dX11_size_1 (by decide) (by decide) rfl rfl ?_
    refine w_aload_n 120 dX11_size_119 rfl rfl ?_
    refine w_getr 123 dX11_size_120 rfl faX11_19 rfl rfl rfl (r := .ref 26) rfl ?_
    refine w_iconst 124 dX11_size_123 rfl (v := nI 5) rfl ?_
    refine w_inv1 127 dX11_size_124 rfl mlX11_113 rfl rfl (d' := 1) (by decide) (Nat.le_of_ble_eq_true rfl) (c_X10_howMany_26 hC.1 (by decide) ?_)
    refine wr_i dX11_size_127 rfl ?_
    exact h
  · skip
    skip
    refine w_tabIn 128 dX11_size_1 (by decide) (by decide) rfl rfl ?_
    refine w_aload_n 129 dX11_size_128 rfl rfl ?_
    refine w_getr 132 dX11_size_129 rfl faX11_19 rfl rfl rfl (r := .ref 26) rfl ?_
    refine w_bipush 134 dX11_size_132 rfl (v := nI 6) rfl ?_
    refine w_inv1 137 dX11_size_134 rfl mlX11_113 rfl rfl (d' := 1) (by decide) (Nat.le_of_ble_eq_true rfl) (c_X10_howMany_26 hC.1 (by decide) ?_)
    refine wr_i dX11_size_137 rfl ?_
    exact h
  · skip
    skip
    refine w_tabIn 138 dX11_size_1 (by decide) (by decide) rfl rfl ?_
    refine w_aload_n 139 dX11_size_138 rfl rfl ?_
    refine w_getr 142 dX11_size_139 rfl faX11_19 rfl rfl rfl (r := .ref 26) rfl ?_
    refine w_bipush 144 dX11_size_142 rfl (v := nI 7) rfl ?_
    refine w_inv1 147 dX11_size_144 rfl mlX11_113 rfl rfl (d' := 1) (by decide) (Nat.le_of_ble_eq_true rfl) (c_X10_howMany_26 hC.1 (by decide) ?_)
    refine wr_i dX11_size_147 rfl ?_
    exact h
  · skip
    skip
    refine w_tabIn 148 dX11_size_1 (by decide) (by decide) rfl rfl ?_
    refine w_aload_n 149 dX11_size_148 rfl rfl ?_
    refine w_getr 152 dX11_size_149 rfl faX11_26 rfl rfl rfl (r := .ref 43) rfl ?_
    refine w_inv0 155 dX11_size_152 rfl mlX11_317 rfl rfl (d' := 0) (by decide) (Nat.le_of_ble_eq_true rfl) (c_X7_yearsGone hC.2.2.1 ?_)
    refine wr_i dX11_size_155 rfl ?_
    exact h
  · skip
    skip
    refine w_tabIn 156 dX11_size_1 (by decide) (by decide) rfl rfl ?_
    refine w_aload_n 157 dX11_size_156 rfl rfl ?_
    refine w_getr 160 dX11_size_157 rfl faX11_33 rfl rfl rfl (r := .ref 45) rfl ?_
    refine w_getiv 163 dX11_size_160 rfl faX11_339 rfl rfl rfl hP.2.2.2.2.1 ?_
    refine wr_i dX11_size_163 rfl ?_
    exact h
  · skip
    skip
    refine w_tabIn 164 dX11_size_1 (by decide) (by decide) rfl rfl ?_
    refine w_aload_n 165 dX11_size_164 rfl rfl ?_
    refine w_getr 168 dX11_size_165 rfl faX11_33 rfl rfl rfl (r := .ref 45) rfl ?_
    refine w_getiv 171 dX11_size_168 rfl faX11_343 rfl rfl rfl hP.2.2.2.2.2.1 ?_
    refine wr_i dX11_size_171 rfl ?_
    exact h
  · skip
    skip
    refine w_tabIn 172 dX11_size_1 (by decide) (by decide) rfl rfl ?_
    refine w_aload_n 173 dX11_size_172 rfl rfl ?_
    refine w_getr 176 dX11_size_173 rfl faX11_10 rfl rfl rfl (r := .ref 1) rfl ?_
    refine w_getr 179 dX11_size_176 rfl faX11_65 rfl rfl rfl (r := .ref 7) rfl ?_
    refine w_getiv 182 dX11_size_179 rfl faX11_79 rfl rfl rfl hR.2.2.1 ?_
    refine wr_i dX11_size_182 rfl ?_
    exact h

theorem c_X11_size {K : Option Value → AH → Prop} {A : AH} {w : WT} {s : Nat → Nat} {H I : Nat → Nat → Nat} {nx c m : Nat} {f : Nat} {pl : Int32} {n : Nat} {tp : Nat → Int32} {x : Int32} (hC : CI w s A) (hP : RepP H I nx c m A) (hR : RdI f pl n tp A) (h : K (some (.int (rSize w s c m n x))) A) : Ct yX11_size mX11_size 2 dC gC [.ref 0, .int x] A K := by
  by_cases q : 0 ≤ x ∧ x ≤ nI 12
  · obtain ⟨k, hk, rfl⟩ := nI_of (Int32.not_lt.mpr q.1)
    exact c_X11_sizeN hC hP hR ((nI_leI hk (by decide)).mp q.2) h
  · have hx : x.toInt < 0 ∨ 12 < x.toInt := by
      rw [Int32.le_iff_toInt_le, Int32.le_iff_toInt_le] at q
      rw [nI_toInt (by decide)] at q
      have : (0 : Int32).toInt = 0 := rfl
      rw [this] at q
      omega
    have hne : ∀ k : Nat, k ≤ 12 → ¬ x = nI k := fun k hk e => by
      rw [e, nI_toInt (by omega)] at hx
      omega
    refine Ct.of [some (.ref 0), some (.int x)] rfl rfl rfl (Nat.le_of_ble_eq_true rfl) ?_
    refine w_iload_n 1 dX11_size_0 rfl rfl ?_
    refine w_tabOut 183 dX11_size_1 hx rfl ?_
    refine w_iconst 184 dX11_size_183 rfl (v := -1) rfl ?_
    refine wr_i dX11_size_184 rfl (kq h ?_)
    unfold rSize
    rw [if_neg (hne 0 (by decide)), if_neg (hne 1 (by decide)), if_neg (hne 2 (by decide)), if_neg (hne 3 (by decide)), if_neg (hne 4 (by decide)), if_neg (hne 5 (by decide)), if_neg (hne 6 (by decide)), if_neg (hne 7 (by decide)), if_neg (hne 8 (by decide)), if_neg (hne 9 (by decide)), if_neg (hne 10 (by decide)), if_neg (hne 11 (by decide)), if_neg (hne 12 (by decide))]
/-- the place of the i-th that leads nowhere -/
def ledF (s : Nat → Nat) (x : Int32) : Nat → Int32
  | 0 => x
  | t + 1 => if stg s t 0 = 0 then ledF s x t - 1 else ledF s x t
def ledAt (s : Nat → Nat) (x : Int32) (t : Nat) : Bool := decide (stg s t 0 = 0) && decide (ledF s x t = 0)
set_option maxRecDepth 4000 in
theorem c_X9_takesTwenty {K : Option Value → AH → Prop} {A : AH} {n : Nat} (hn : A.1 7 1 = nI n) (h9 : n ≤ 900) (h : K (some (.int (b2i (decide (n + 20 ≤ 900))))) A) : Ct yX9_takesTwenty mX9_takesTwenty 0 dC gC [.ref 7] A K := by
  refine Ct.of [some (.ref 7)] rfl rfl rfl (Nat.le_of_ble_eq_true rfl) ?_
  refine w_aload_n 1 dX9_takesTwenty_0 rfl rfl ?_
  refine w_getiv 4 dX9_takesTwenty_1 rfl faX9_13 rfl rfl rfl hn ?_
  refine w_bipush 6 dX9_takesTwenty_4 rfl (v := nI 20) rfl ?_
  refine w_iaddN 7 dX9_takesTwenty_6 rfl ?_
  refine w_sipush 10 dX9_takesTwenty_7 rfl (v := nI 900) rfl ?_
  refine w_icgtN 17 13 dX9_takesTwenty_10 rfl rfl (by omega) (by omega) (fun c10 => ?_) (fun c10 => ?_)
  · skip
    refine w_iconst 18 dX9_takesTwenty_17 rfl (v := nI 0) rfl ?_
    refine wr_z dX9_takesTwenty_18 rfl (by first | rfl | exact nb_b2i _) ?_
    exact kq h (by rw [decide_eq_false (by omega)]; rfl)
  · skip
    refine w_iconst 14 dX9_takesTwenty_13 rfl (v := nI 1) rfl ?_
    refine w_goto 18 dX9_takesTwenty_14 rfl ?_
    refine wr_z dX9_takesTwenty_18 rfl (by first | rfl | exact nb_b2i _) ?_
    exact kq h (by rw [decide_eq_true (by omega)]; rfl)

def shv (j : Nat) : Int32 := if j < 4 then nI (24 - 8 * j) else -8
theorem shv_s : ∀ j, j < 4 → shv j + Int32.ofInt (-8) = shv (j + 1) := by decide
theorem shv_n : ∀ j, j < 4 → ¬ shv j < 0 := by decide
theorem shv_4 : shv 4 < 0 := by decide
set_option maxRecDepth 4000 in
theorem c_X9_append {K : Option Value → AH → Prop} {A : AH} {n : Nat} {x : Int32} (hn : A.1 7 1 = nI n) (h9 : n + 4 ≤ 900) (h : ∀ A', A'.1 7 1 = nI (n + 4) → (∀ i, i < n + 4 → A'.1 8 i = if i < n then A.1 8 i else bt x (i - n)) → OffL [7, 8] A A' → K none A') : Ct yX9_append mX9_append 0 dC gC [.ref 7, .int x] A K := by
  refine Ct.of [some (.ref 7), some (.int x), none] rfl rfl rfl (Nat.le_of_ble_eq_true rfl) ?_
  have lp3 : ∀ (nf : Nat) (j : Nat) (A' : AH), j ≤ 4 → A'.1 7 1 = nI (n + j) → (∀ i, i < n + j → A'.1 8 i = if i < n then A.1 8 i else bt x (i - n)) → OffL [7, 8] A A' → 4 - j < nf → WP mX9_append 0 dC gC 3 [some (.ref 7), some (.int x), some (.int (shv j))] [] A' K := by
    intro nf
    induction nf with
    | zero => intros; omega
    | succ nf ih =>
      intro j A' hj hc hb hO hms
      refine w_iload_n 4 dX9_append_3 rfl rfl ?_
      refine w_iflt 46 7 dX9_append_4 rfl rfl (fun c4 => ?_) (fun c4 => ?_)
      · skip
        have hj4 : j = 4 := by
          by_cases q : j < 4
          · exact absurd c4 (shv_n j q)
          · omega
        refine wr_v dX9_append_46 rfl ?_
        subst hj4
        exact h A' hc hb hO
      · skip
        have hj4 : j < 4 := by
          by_cases q : j < 4
          · exact q
          · have e : j = 4 := by omega
            subst e
            exact absurd shv_4 c4
        refine w_aload_n 8 dX9_append_7 rfl rfl ?_
        refine w_getiv 11 dX9_append_8 rfl faX9_13 rfl rfl rfl hc ?_
        refine w_sipush 14 dX9_append_11 rfl (v := nI 900) rfl ?_
        refine w_icgeN 40 17 dX9_append_14 rfl rfl (by omega) (by omega) (fun c14 => (by omega)) (fun c14 => ?_)
        refine w_aload_n 18 dX9_append_17 rfl rfl ?_
        refine w_getr 21 dX9_append_18 rfl faX9_9 rfl rfl rfl (r := .ref 8) rfl ?_
        refine w_aload_n 22 dX9_append_21 rfl rfl ?_
        refine w_getiv 25 dX9_append_22 rfl faX9_13 rfl rfl rfl hc ?_
        refine w_iload_n 26 dX9_append_25 rfl rfl ?_
        refine w_iload_n 27 dX9_append_26 rfl rfl ?_
        refine w_ishr 28 dX9_append_27 rfl ?_
        refine w_i2b 29 dX9_append_28 rfl ?_
        refine w_bastN 30 dX9_append_29 rfl rfl rfl (by decide) (by omega) ?_
        refine w_aload_n 31 dX9_append_30 rfl rfl ?_
        refine w_dup_r 32 dX9_append_31 rfl ?_
        refine w_getiv 35 dX9_append_32 rfl faX9_13 rfl rfl rfl (v := nI (n + j)) (by dsimp only; rw [upd2_ne (by decide)]; exact hc) ?_
        refine w_iconst 36 dX9_append_35 rfl (v := nI 1) rfl ?_
        refine w_iaddN 37 dX9_append_36 rfl ?_
        refine w_puti 40 dX9_append_37 rfl faX9_13 rfl rfl rfl rfl ?_
        refine w_inc2 43 dX9_append_40 rfl (by decide) rfl (v := _ + (-8)) rfl ?_
        refine w_goto 3 dX9_append_43 rfl ?_
        have e1 : shv j = nI (24 - 8 * j) := by unfold shv; rw [if_pos hj4]
        refine wp_to ?_ rfl rfl (ih (j + 1) _ (by omega) (by dsimp only; rw [upd2_at]; rfl) (fun i hi => ?_) ((hO.upd (by decide) _ _).upd (by decide) _ _) (by omega))
        · exact ⟨Or.inr rfl, Or.inr rfl, Or.inr (congrArg (fun z => some (Value.int z)) (shv_s j hj4)), trivial⟩
        · dsimp only
          rw [upd2_ne (by decide)]
          by_cases q : i = n + j
          · subst q
            rw [upd2_at, if_neg (by omega), show n + j - n = j by omega, e1]
            rfl
          · rw [upd2_off q]
            exact hb i (by omega)
  refine w_bipush 2 dX9_append_0 rfl (v := shv 0) rfl ?_
  refine w_ist2 3 dX9_append_2 rfl (by decide) rfl ?_
  exact lp3 _ 0 A (by omega) hn (fun i hi => by rw [if_pos (by omega)]) OffL.rf (Nat.lt_succ_self _)

def fdA (a b c d e : Int32) (k : Nat) : Int32 := if k < 4 then a else if k < 8 then b else if k < 12 then c else if k < 16 then d else e
def fdT (n : Nat) (tp : Nat → Int32) (a b c d e : Int32) : Nat → Int32 := fun i => if i < n then tp i else bt (fdA a b c d e (i - n)) ((i - n) % 4)
theorem fdT_B {n : Nat} {tp : Nat → Int32} (h : ∀ i, i < n → isB (tp i)) (a b c d e : Int32) : ∀ i, isB (fdT n tp a b c d e i) := fun i => by
  unfold fdT
  split
  · exact h i (by assumption)
  · exact isB_nar _
def fdR (n : Nat) : Int32 := if n + 20 ≤ 900 then nI (n + 20) else -1
set_option maxRecDepth 4000 in
theorem c_X11_feed {K : Option Value → AH → Prop} {A : AH} {f : Nat} {pl : Int32} {n : Nat} {tp : Nat → Int32} {a b c d e : Int32} (hR : RdI f pl n tp A) (h0 : ¬ n + 20 ≤ 900 → K (some (.int (-1))) A) (h : n + 20 ≤ 900 → ∀ A', RdI f pl (n + 20) (fdT n tp a b c d e) A' → OffL [7, 8] A A' → K (some (.int (nI (n + 20)))) A') : Ct yX11_feed mX11_feed 1 dC gC [.ref 0, .int a, .int b, .int c, .int d, .int e] A K := by
  refine Ct.of [some (.ref 0), some (.int a), some (.int b), some (.int c), some (.int d), some (.int e), none] rfl rfl rfl (Nat.le_of_ble_eq_true rfl) ?_
  refine w_aload_n 1 dX11_feed_0 rfl rfl ?_
  refine w_getr 4 dX11_feed_1 rfl faX11_10 rfl rfl rfl (r := .ref 1) rfl ?_
  refine w_getr 7 dX11_feed_4 rfl faX11_65 rfl rfl rfl (r := .ref 7) rfl ?_
  refine w_ast6 9 dX11_feed_7 rfl (by decide) rfl ?_
  refine w_aload 11 dX11_feed_9 rfl rfl ?_
  refine w_inv0 14 dX11_feed_11 rfl mlX11_69 rfl rfl (d' := 0) (by decide) (Nat.le_of_ble_eq_true rfl) (c_X9_takesTwenty hR.2.2.1 hR.2.2.2.1 ?_)
  refine w_ifneB 19 17 dX11_feed_14 rfl rfl (fun c14 => ?_) (fun c14 => ?_)
  · skip
    have h20 : n + 20 ≤ 900 := of_decide_eq_true c14
    refine w_aload 21 dX11_feed_19 rfl rfl ?_
    refine w_iload_n 22 dX11_feed_21 rfl rfl ?_
    refine w_inv1 25 dX11_feed_22 rfl mlX11_75 rfl rfl (d' := 0) (by decide) (Nat.le_of_ble_eq_true rfl) (c_X9_append (n := n) hR.2.2.1 (by omega) (fun A1 c1 b1 o1 => ?_))
    refine w_aload 27 dX11_feed_25 rfl rfl ?_
    refine w_iload_n 28 dX11_feed_27 rfl rfl ?_
    refine w_inv1 31 dX11_feed_28 rfl mlX11_75 rfl rfl (d' := 0) (by decide) (Nat.le_of_ble_eq_true rfl) (c_X9_append (n := n + 4) c1 (by omega) (fun A2 c2 b2 o2 => ?_))
    refine w_aload 33 dX11_feed_31 rfl rfl ?_
    refine w_iload_n 34 dX11_feed_33 rfl rfl ?_
    refine w_inv1 37 dX11_feed_34 rfl mlX11_75 rfl rfl (d' := 0) (by decide) (Nat.le_of_ble_eq_true rfl) (c_X9_append (n := n + 8) c2 (by omega) (fun A3 c3 b3 o3 => ?_))
    refine w_aload 39 dX11_feed_37 rfl rfl ?_
    refine w_iload 41 dX11_feed_39 rfl rfl ?_
    refine w_inv1 44 dX11_feed_41 rfl mlX11_75 rfl rfl (d' := 0) (by decide) (Nat.le_of_ble_eq_true rfl) (c_X9_append (n := n + 12) c3 (by omega) (fun A4 c4 b4 o4 => ?_))
    refine w_aload 46 dX11_feed_44 rfl rfl ?_
    refine w_iload 48 dX11_feed_46 rfl rfl ?_
    refine w_inv1 51 dX11_feed_48 rfl mlX11_75 rfl rfl (d' := 0) (by decide) (Nat.le_of_ble_eq_true rfl) (c_X9_append (n := n + 16) c4 (by omega) (fun A5 c5 b5 o5 => ?_))
    refine w_aload 53 dX11_feed_51 rfl rfl ?_
    refine w_getiv 56 dX11_feed_53 rfl faX11_79 rfl rfl rfl c5 ?_
    refine wr_i dX11_feed_56 rfl ?_
    refine h h20 A5 ⟨?_, ?_, c5, h20, fun i hi => ?_⟩ ((((o1.tr o2).tr o3).tr o4).tr o5)
    · rw [(o5 1 (by decide)).1, (o4 1 (by decide)).1, (o3 1 (by decide)).1, (o2 1 (by decide)).1, (o1 1 (by decide)).1]; exact hR.1
    · rw [(o5 1 (by decide)).1, (o4 1 (by decide)).1, (o3 1 (by decide)).1, (o2 1 (by decide)).1, (o1 1 (by decide)).1]; exact hR.2.1
    · unfold fdT fdA
      by_cases q0 : i < n
      · rw [b5 i hi, if_pos (by omega), b4 i (by omega), if_pos (by omega), b3 i (by omega), if_pos (by omega), b2 i (by omega), if_pos (by omega), b1 i (by omega), if_pos q0, if_pos q0]
        exact hR.2.2.2.2 i q0
      rw [if_neg q0]
      by_cases q1 : i < n + 4
      · rw [b5 i hi, if_pos (by omega), b4 i (by omega), if_pos (by omega), b3 i (by omega), if_pos (by omega), b2 i (by omega), if_pos (by omega), b1 i (by omega), if_neg q0, if_pos (by omega), show (i - n) % 4 = i - n by omega]
      by_cases q2 : i < n + 8
      · rw [b5 i hi, if_pos (by omega), b4 i (by omega), if_pos (by omega), b3 i (by omega), if_pos (by omega), b2 i (by omega), if_neg (by omega), if_neg (by omega), if_pos (by omega), show (i - n) % 4 = i - (n + 4) by omega]
      by_cases q3 : i < n + 12
      · rw [b5 i hi, if_pos (by omega), b4 i (by omega), if_pos (by omega), b3 i (by omega), if_neg (by omega), if_neg (by omega), if_neg (by omega), if_pos (by omega), show (i - n) % 4 = i - (n + 8) by omega]
      by_cases q4 : i < n + 16
      · rw [b5 i hi, if_pos (by omega), b4 i (by omega), if_neg (by omega), if_neg (by omega), if_neg (by omega), if_neg (by omega), if_pos (by omega), show (i - n) % 4 = i - (n + 12) by omega]
      · rw [b5 i hi, if_neg (by omega), if_neg (by omega), if_neg (by omega), if_neg (by omega), if_neg (by omega), show (i - n) % 4 = i - (n + 16) by omega]
  · skip
    have h20 : ¬ n + 20 ≤ 900 := of_decide_eq_false c14
    refine w_iconst 18 dX11_feed_17 rfl (v := (-1)) rfl ?_
    refine wr_i dX11_feed_18 rfl ?_
    exact h0 h20
