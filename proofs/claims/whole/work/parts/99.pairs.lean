/-! ===== both sides at once ===== -/
def dW : Bool → Nat × Nat
  | true => (100, 33)
  | false => (100, 11)
def GW : Bool → Value → Nat → Nat → Value
  | true, r => GG (.ref 111) r
  | false, r => GG .null r
def TM (f : Nat) (pl : Int32) (n : Nat) (tp : Nat → Int32) (t : Nat) (A : AH) : Prop := A.1 100 6 = nI n ∧ (∀ i, i < n → A.1 101 i = tp i) ∧ A.1 100 12 = nI f ∧ A.1 100 1 = nI t ∧ A.1 100 2 = if t = 4 then pl else -1
def CS (w : WT) (s : Nat → Nat) (H I : Nat → Nat → Nat) (nx c m f : Nat) (pl : Int32) (n : Nat) (tp : Nat → Int32) (t : Nat) (A : AH) : Prop := CI w s A ∧ RepP H I nx c m A ∧ RdI f pl n tp A ∧ LR w A ∧ A.1 0 8 = nI t
def NW (w : WT) (s : Nat → Nat) (c m : Nat) : Prop := w = emptyW ∧ s 0 = 0 ∧ s 1 = 0 ∧ c = 0 ∧ m = 0
/-- the joint state -/
def JT (w : WT) (s : Nat → Nat) (H I : Nat → Nat → Nat) (nx c m f : Nat) (pl : Int32) (n : Nat) (tp : Nat → Int32) (t : Nat) (hw : Bool) (Ac Am : AH) : Prop := CS w s H I nx c m f pl n tp t Ac ∧ TM f pl n tp t Am ∧ (∀ i, i < n → isB (tp i)) ∧ t < 10 ∧ (hw = true → MC w s Am ∧ MH w s H I c m Am) ∧ (hw = false → NW w s c m)
def JS (hw : Bool) (Ac Am : AH) : Prop := ∃ (w : WT) (s : Nat → Nat) (H I : Nat → Nat → Nat) (nx c m f : Nat) (pl : Int32) (n : Nat) (tp : Nat → Int32) (t : Nat), JT w s H I nx c m f pl n tp t hw Ac Am
def KC (A : AH) (t : Nat) (v : Value) : Option Value → AH → Prop := fun o A' => Qk A A' ∧ A'.1 0 8 = nI t ∧ o = some v
def KQ (A : AH) (t : Nat) (v : Value) : Option Value → AH → Prop := fun o A' => QM A A' ∧ A'.1 100 1 = nI t ∧ A'.1 100 2 = -1 ∧ o = some v
theorem RepP.of {H I : Nat → Nat → Nat} {nx c m : Nat} {A A' : AH} (h : RepP H I nx c m A) (h1 : A'.1 45 = A.1 45) (h2 : A'.1 46 = A.1 46) (h3 : A'.1 47 = A.1 47) : RepP H I nx c m A' := by
  unfold RepP at h ⊢
  rw [h1, h2, h3]
  exact h
theorem CS.q {w : WT} {s : Nat → Nat} {H I : Nat → Nat → Nat} {nx c m f : Nat} {pl : Int32} {n : Nat} {tp : Nat → Int32} {t t' : Nat} {A A' : AH} (h : CS w s H I nx c m f pl n tp t A) (q : Qk A A') (ht : A'.1 0 8 = nI t') : CS w s H I nx c m f pl n tp t' A' :=
  ⟨h.1.off q, h.2.1.of (q.1 45 (by decide)).1 (q.1 46 (by decide)).1 (q.1 47 (by decide)).1, h.2.2.1.off (q.1 1 (by decide)).1 (q.1 7 (by decide)).1 (q.1 8 (by decide)).1, h.2.2.2.1.off q, ht⟩
theorem JT.q {w : WT} {s : Nat → Nat} {H I : Nat → Nat → Nat} {nx c m f : Nat} {pl : Int32} {n : Nat} {tp : Nat → Int32} {t t' : Nat} {hw : Bool} {Ac Am Ac' Am' : AH} {v : Value} {o1 o2 : Option Value} (h : JT w s H I nx c m f pl n tp t hw Ac Am) (h1 : KC Ac t' v o1 Ac') (h2 : KQ Am t' v o2 Am') (h4 : t' ≠ 4 ∧ t' < 10) : JS hw Ac' Am' := by
  obtain ⟨hC, hT, hB, h10, g1, g0⟩ := h
  refine ⟨w, s, H, I, nx, c, m, f, pl, n, tp, t', hC.q h1.1 h1.2.1, ⟨?_, ?_, ?_, h2.2.1, ?_⟩, hB, h4.2, fun e => ⟨(g1 e).1.q h2.1, (g1 e).2.q h2.1⟩, g0⟩
  · rw [h2.1.2 6 (by decide)]; exact hT.1
  · intro i hi; rw [(h2.1.1 101 (by decide)).1]; exact hT.2.1 i hi
  · rw [h2.1.2 12 (by decide)]; exact hT.2.2.1
  · rw [h2.2.2.1, if_neg h4.1]
theorem okR_0 (k : Int32) : okR 0 k = false := by
  unfold okR
  refine decide_eq_false (fun h => ?_)
  have h1 := h.1
  have h2 := h.2
  rw [Int32.le_iff_toInt_le] at h1
  rw [Int32.lt_iff_toInt_lt] at h2
  have e : (nI 0).toInt = 0 := rfl
  have e0 : (0 : Int32).toInt = 0 := rfl
  omega
theorem n4_t1 (b : Bool) : t1 b ≠ 4 ∧ t1 b < 10 := by have := t1_le b; omega
theorem n4_tY (b : Bool) (n : Int32) : tY b n ≠ 4 ∧ tY b n < 10 := by have := tY_le b n; omega
theorem n4_tX {b : Bool} {x : Nat} (h : x ≠ 4 ∧ x < 10) : tX b x ≠ 4 ∧ tX b x < 10 := by unfold tX; split; exact h; omega
theorem n4_tB (n : Nat) (x : Int32) : tB n x ≠ 4 ∧ tB n x < 10 := by have := tB_le n x; omega
theorem n4_tSY (b : Bool) (d n : Int32) : tSY b d n ≠ 4 ∧ tSY b d n < 10 := by
  unfold tSY
  refine n4_tX ?_
  have := tI_le n
  have := tB_le 65536 d
  split <;> omega
theorem qc_thread {Ac : AH} {w : WT} {s : Nat → Nat} {t x : Int32} (hC : CI w s Ac) (hL : LR w Ac) : Ct yX11_thread mX11_thread 3 dC gC [.ref 0, .int t, .int x] Ac (KC Ac (t1 (okR (s 1) t && ok6 x)) (.int (rThread w s t x))) := c_X11_thread hC (fun A' hQ ht => ⟨hQ, ht, rfl⟩)
theorem pm_thread {hw : Bool} {r : Value} {Am : AH} {w : WT} {s : Nat → Nat} {c m : Nat} {t x : Int32} (hs : okS s) (hf : ofOK w) (h1 : hw = true → MC w s Am) (h0 : hw = false → NW w s c m) : Ct yX13_thread mX13_thread 2 (dW hw) (GW hw r) [.ref 100, .int t, .int x] Am (KQ Am (t1 (okR (s 1) t && ok6 x)) (.int (rThread w s t x))) := by
  cases hw with
  | true =>
    have hC := h1 rfl
    obtain ⟨nm, hP⟩ := hC.2.2.1
    have hE := enW_of hs hP hC.2.1
    exact c_X13_thread hC (fun A' hQ ht hv => ⟨hQ, ht, hv, rfl⟩)
  | false =>
    obtain ⟨rfl, e0, e1, -, -⟩ := h0 rfl
    have hT : (t1 (okR (s 1) t && ok6 x)) = 1 := by simp [t1, tY, tX, tSY, tFit, tBr, okW1, ok2, okR_0, emptyW, e1]
    exact n_X13_thread (fun A' hQ ht hv => ⟨hQ, by rw [hT]; exact ht, hv, by unfold rThread; rw [hT]; rfl⟩)
theorem qc_nail {Ac : AH} {w : WT} {s : Nat → Nat} {a x : Int32} (hC : CI w s Ac) (hL : LR w Ac) : Ct yX11_nail mX11_nail 5 dC gC [.ref 0, .int a, .int x] Ac (KC Ac (t1 (okR (w.1 1) a && ok01 x)) (.int (rNail w s a x))) := c_X11_nail hC (fun A' hQ ht => ⟨hQ, ht, rfl⟩)
theorem pm_nail {hw : Bool} {r : Value} {Am : AH} {w : WT} {s : Nat → Nat} {c m : Nat} {a x : Int32} (hs : okS s) (hf : ofOK w) (h1 : hw = true → MC w s Am) (h0 : hw = false → NW w s c m) : Ct yX13_nail mX13_nail 4 (dW hw) (GW hw r) [.ref 100, .int a, .int x] Am (KQ Am (t1 (okR (w.1 1) a && ok01 x)) (.int (rNail w s a x))) := by
  cases hw with
  | true =>
    have hC := h1 rfl
    obtain ⟨nm, hP⟩ := hC.2.2.1
    have hE := enW_of hs hP hC.2.1
    exact c_X13_nail hC (fun A' hQ ht hv => ⟨hQ, ht, hv, by rw [qNail_r hs a x]⟩)
  | false =>
    obtain ⟨rfl, e0, e1, -, -⟩ := h0 rfl
    have hT : (t1 (okR (emptyW.1 1) a && ok01 x)) = 1 := by simp [t1, tY, tX, tSY, tFit, tBr, okW1, ok2, okR_0, emptyW, e1]
    exact n_X13_nail (fun A' hQ ht hv => ⟨hQ, by rw [hT]; exact ht, hv, by unfold rNail; rw [hT]; rfl⟩)
theorem qc_strong {Ac : AH} {w : WT} {s : Nat → Nat} {t n : Int32} (hC : CI w s Ac) (hL : LR w Ac) : Ct yX11_strong mX11_strong 3 dC gC [.ref 0, .int t, .int n] Ac (KC Ac (tY (okR (s 1) t) n) (.int (rStrong w s t n))) := c_X11_strong hC (fun A' hQ ht => ⟨hQ, ht, rfl⟩)
theorem pm_strong {hw : Bool} {r : Value} {Am : AH} {w : WT} {s : Nat → Nat} {c m : Nat} {t n : Int32} (hs : okS s) (hf : ofOK w) (h1 : hw = true → MC w s Am) (h0 : hw = false → NW w s c m) : Ct yX13_strong mX13_strong 2 (dW hw) (GW hw r) [.ref 100, .int t, .int n] Am (KQ Am (tY (okR (s 1) t) n) (.int (rStrong w s t n))) := by
  cases hw with
  | true =>
    have hC := h1 rfl
    obtain ⟨nm, hP⟩ := hC.2.2.1
    have hE := enW_of hs hP hC.2.1
    exact c_X13_strong hC (fun A' hQ ht hv => ⟨hQ, ht, hv, rfl⟩)
  | false =>
    obtain ⟨rfl, e0, e1, -, -⟩ := h0 rfl
    have hT : (tY (okR (s 1) t) n) = 1 := by simp [t1, tY, tX, tSY, tFit, tBr, okW1, ok2, okR_0, emptyW, e1]
    exact n_X13_strong (fun A' hQ ht hv => ⟨hQ, by rw [hT]; exact ht, hv, by unfold rStrong; rw [hT]; rfl⟩)
theorem qc_breaksIn {Ac : AH} {w : WT} {s : Nat → Nat} {t : Int32} (hC : CI w s Ac) (hL : LR w Ac) : Ct yX11_breaksIn mX11_breaksIn 3 dC gC [.ref 0, .int t] Ac (KC Ac (t1 (okR (s 1) t)) (.int (rBreaksIn w s t))) := c_X11_breaksIn hC (fun A' hQ ht => ⟨hQ, ht, rfl⟩)
theorem pm_breaksIn {hw : Bool} {r : Value} {Am : AH} {w : WT} {s : Nat → Nat} {c m : Nat} {t : Int32} (hs : okS s) (hf : ofOK w) (h1 : hw = true → MC w s Am) (h0 : hw = false → NW w s c m) : Ct yX13_breaksIn mX13_breaksIn 2 (dW hw) (GW hw r) [.ref 100, .int t] Am (KQ Am (t1 (okR (s 1) t)) (.int (rBreaksIn w s t))) := by
  cases hw with
  | true =>
    have hC := h1 rfl
    obtain ⟨nm, hP⟩ := hC.2.2.1
    have hE := enW_of hs hP hC.2.1
    exact c_X13_breaksIn hC (fun A' hQ ht hv => ⟨hQ, ht, hv, rfl⟩)
  | false =>
    obtain ⟨rfl, e0, e1, -, -⟩ := h0 rfl
    have hT : (t1 (okR (s 1) t)) = 1 := by simp [t1, tY, tX, tSY, tFit, tBr, okW1, ok2, okR_0, emptyW, e1]
    exact n_X13_breaksIn (fun A' hQ ht hv => ⟨hQ, by rw [hT]; exact ht, hv, by unfold rBreaksIn; rw [hT]; rfl⟩)
theorem qc_holding {Ac : AH} {w : WT} {s : Nat → Nat} {n : Int32} (hC : CI w s Ac) (hL : LR w Ac) : Ct yX11_holding mX11_holding 5 dC gC [.ref 0, .int n] Ac (KC Ac (tY (okW1 w) n) (.int (rHolding w s n))) := c_X11_holding hC (fun A' hQ ht => ⟨hQ, ht, rfl⟩)
theorem pm_holding {hw : Bool} {r : Value} {Am : AH} {w : WT} {s : Nat → Nat} {c m : Nat} {n : Int32} (hs : okS s) (hf : ofOK w) (h1 : hw = true → MC w s Am) (h0 : hw = false → NW w s c m) : Ct yX13_holding mX13_holding 4 (dW hw) (GW hw r) [.ref 100, .int n] Am (KQ Am (tY (okW1 w) n) (.int (rHolding w s n))) := by
  cases hw with
  | true =>
    have hC := h1 rfl
    obtain ⟨nm, hP⟩ := hC.2.2.1
    have hE := enW_of hs hP hC.2.1
    exact c_X13_holding hC (fun A' hQ ht hv => ⟨hQ, ht, hv, by rw [qHolding_r hs n]⟩)
  | false =>
    obtain ⟨rfl, e0, e1, -, -⟩ := h0 rfl
    have hT : (tY (okW1 emptyW) n) = 1 := by simp [t1, tY, tX, tSY, tFit, tBr, okW1, ok2, okR_0, emptyW, e1]
    exact n_X13_holding (fun A' hQ ht hv => ⟨hQ, by rw [hT]; exact ht, hv, by unfold rHolding; rw [hT]; rfl⟩)
theorem qc_strongest {Ac : AH} {w : WT} {s : Nat → Nat} {n : Int32} (hC : CI w s Ac) (hL : LR w Ac) : Ct yX11_strongest mX11_strongest 3 dC gC [.ref 0, .int n] Ac (KC Ac (tY (okW1 w) n) (.int (rStrongest w s n))) := c_X11_strongest hC (fun A' hQ ht => ⟨hQ, ht, rfl⟩)
theorem pm_strongest {hw : Bool} {r : Value} {Am : AH} {w : WT} {s : Nat → Nat} {c m : Nat} {n : Int32} (hs : okS s) (hf : ofOK w) (h1 : hw = true → MC w s Am) (h0 : hw = false → NW w s c m) : Ct yX13_strongest mX13_strongest 4 (dW hw) (GW hw r) [.ref 100, .int n] Am (KQ Am (tY (okW1 w) n) (.int (rStrongest w s n))) := by
  cases hw with
  | true =>
    have hC := h1 rfl
    obtain ⟨nm, hP⟩ := hC.2.2.1
    have hE := enW_of hs hP hC.2.1
    exact c_X13_strongest hC (fun A' hQ ht hv => ⟨hQ, ht, hv, by rw [qStrongest_r hs n]⟩)
  | false =>
    obtain ⟨rfl, e0, e1, -, -⟩ := h0 rfl
    have hT : (tY (okW1 emptyW) n) = 1 := by simp [t1, tY, tX, tSY, tFit, tBr, okW1, ok2, okR_0, emptyW, e1]
    exact n_X13_strongest (fun A' hQ ht hv => ⟨hQ, by rw [hT]; exact ht, hv, by unfold rStrongest; rw [hT]; rfl⟩)
theorem qc_bears {Ac : AH} {w : WT} {s : Nat → Nat} {a b n : Int32} (hC : CI w s Ac) (hL : LR w Ac) : Ct yX11_bears mX11_bears 5 dC gC [.ref 0, .int a, .int b, .int n] Ac (KC Ac (tY (ok2 w a b) n) (.int (rBears w s a b n))) := c_X11_bears hC (fun A' hQ ht => ⟨hQ, ht, rfl⟩)
theorem pm_bears {hw : Bool} {r : Value} {Am : AH} {w : WT} {s : Nat → Nat} {c m : Nat} {a b n : Int32} (hs : okS s) (hf : ofOK w) (h1 : hw = true → MC w s Am) (h0 : hw = false → NW w s c m) : Ct yX13_bears mX13_bears 4 (dW hw) (GW hw r) [.ref 100, .int a, .int b, .int n] Am (KQ Am (tY (ok2 w a b) n) (.int (rBears w s a b n))) := by
  cases hw with
  | true =>
    have hC := h1 rfl
    obtain ⟨nm, hP⟩ := hC.2.2.1
    have hE := enW_of hs hP hC.2.1
    exact c_X13_bears hC (fun A' hQ ht hv => ⟨hQ, ht, hv, by rw [qBears_r hs hf a b n]⟩)
  | false =>
    obtain ⟨rfl, e0, e1, -, -⟩ := h0 rfl
    have hT : (tY (ok2 emptyW a b) n) = 1 := by simp [t1, tY, tX, tSY, tFit, tBr, okW1, ok2, okR_0, emptyW, e1]
    exact n_X13_bears (fun A' hQ ht hv => ⟨hQ, by rw [hT]; exact ht, hv, by unfold rBears; rw [hT]; rfl⟩)
theorem qc_cut {Ac : AH} {w : WT} {s : Nat → Nat} {a b n : Int32} (hC : CI w s Ac) (hL : LR w Ac) : Ct yX11_cut mX11_cut 5 dC gC [.ref 0, .int a, .int b, .int n] Ac (KC Ac (tY (ok2 w a b) n) (.int (rCut w s a b n))) := c_X11_cut hC (fun A' hQ ht => ⟨hQ, ht, rfl⟩)
theorem pm_cut {hw : Bool} {r : Value} {Am : AH} {w : WT} {s : Nat → Nat} {c m : Nat} {a b n : Int32} (hs : okS s) (hf : ofOK w) (h1 : hw = true → MC w s Am) (h0 : hw = false → NW w s c m) : Ct yX13_cut mX13_cut 4 (dW hw) (GW hw r) [.ref 100, .int a, .int b, .int n] Am (KQ Am (tY (ok2 w a b) n) (.int (rCut w s a b n))) := by
  cases hw with
  | true =>
    have hC := h1 rfl
    obtain ⟨nm, hP⟩ := hC.2.2.1
    have hE := enW_of hs hP hC.2.1
    exact c_X13_cut hC (fun A' hQ ht hv => ⟨hQ, ht, hv, by rw [qCut_r hs hf a b n]⟩)
  | false =>
    obtain ⟨rfl, e0, e1, -, -⟩ := h0 rfl
    have hT : (tY (ok2 emptyW a b) n) = 1 := by simp [t1, tY, tX, tSY, tFit, tBr, okW1, ok2, okR_0, emptyW, e1]
    exact n_X13_cut (fun A' hQ ht hv => ⟨hQ, by rw [hT]; exact ht, hv, by unfold rCut; rw [hT]; rfl⟩)
theorem qc_vital {Ac : AH} {w : WT} {s : Nat → Nat} {a b n : Int32} (hC : CI w s Ac) (hL : LR w Ac) : Ct yX11_vital mX11_vital 5 dC gC [.ref 0, .int a, .int b, .int n] Ac (KC Ac (tY (ok2 w a b) n) (.int (rVital w s a b n))) := c_X11_vital hC (fun A' hQ ht => ⟨hQ, ht, rfl⟩)
theorem pm_vital {hw : Bool} {r : Value} {Am : AH} {w : WT} {s : Nat → Nat} {c m : Nat} {a b n : Int32} (hs : okS s) (hf : ofOK w) (h1 : hw = true → MC w s Am) (h0 : hw = false → NW w s c m) : Ct yX13_vital mX13_vital 4 (dW hw) (GW hw r) [.ref 100, .int a, .int b, .int n] Am (KQ Am (tY (ok2 w a b) n) (.int (rVital w s a b n))) := by
  cases hw with
  | true =>
    have hC := h1 rfl
    obtain ⟨nm, hP⟩ := hC.2.2.1
    have hE := enW_of hs hP hC.2.1
    exact c_X13_vital hC (fun A' hQ ht hv => ⟨hQ, ht, hv, by rw [qVital_r hs hf a b n]⟩)
  | false =>
    obtain ⟨rfl, e0, e1, -, -⟩ := h0 rfl
    have hT : (tY (ok2 emptyW a b) n) = 1 := by simp [t1, tY, tX, tSY, tFit, tBr, okW1, ok2, okR_0, emptyW, e1]
    exact n_X13_vital (fun A' hQ ht hv => ⟨hQ, by rw [hT]; exact ht, hv, by unfold rVital; rw [hT]; rfl⟩)
theorem qc_needed {Ac : AH} {w : WT} {s : Nat → Nat} {a b n : Int32} (hC : CI w s Ac) (hL : LR w Ac) : Ct yX11_needed mX11_needed 5 dC gC [.ref 0, .int a, .int b, .int n] Ac (KC Ac (tY (ok2 w a b) n) (.int (rNeeded w s a b n))) := c_X11_needed hC (fun A' hQ ht => ⟨hQ, ht, rfl⟩)
theorem pm_needed {hw : Bool} {r : Value} {Am : AH} {w : WT} {s : Nat → Nat} {c m : Nat} {a b n : Int32} (hs : okS s) (hf : ofOK w) (h1 : hw = true → MC w s Am) (h0 : hw = false → NW w s c m) : Ct yX13_needed mX13_needed 4 (dW hw) (GW hw r) [.ref 100, .int a, .int b, .int n] Am (KQ Am (tY (ok2 w a b) n) (.int (rNeeded w s a b n))) := by
  cases hw with
  | true =>
    have hC := h1 rfl
    obtain ⟨nm, hP⟩ := hC.2.2.1
    have hE := enW_of hs hP hC.2.1
    exact c_X13_needed hC (fun A' hQ ht hv => ⟨hQ, ht, hv, by rw [qNeeded_r hs hf a b n]⟩)
  | false =>
    obtain ⟨rfl, e0, e1, -, -⟩ := h0 rfl
    have hT : (tY (ok2 emptyW a b) n) = 1 := by simp [t1, tY, tX, tSY, tFit, tBr, okW1, ok2, okR_0, emptyW, e1]
    exact n_X13_needed (fun A' hQ ht hv => ⟨hQ, by rw [hT]; exact ht, hv, by unfold rNeeded; rw [hT]; rfl⟩)
theorem qc_weakest {Ac : AH} {w : WT} {s : Nat → Nat} {n : Int32} (hC : CI w s Ac) (hL : LR w Ac) : Ct yX11_weakest mX11_weakest 5 dC gC [.ref 0, .int n] Ac (KC Ac (tY (okW1 w) n) (.int (rWeakest w s n))) := c_X11_weakest hC (fun A' hQ ht => ⟨hQ, ht, rfl⟩)
theorem pm_weakest {hw : Bool} {r : Value} {Am : AH} {w : WT} {s : Nat → Nat} {c m : Nat} {n : Int32} (hs : okS s) (hf : ofOK w) (h1 : hw = true → MC w s Am) (h0 : hw = false → NW w s c m) : Ct yX13_weakest mX13_weakest 4 (dW hw) (GW hw r) [.ref 100, .int n] Am (KQ Am (tY (okW1 w) n) (.int (rWeakest w s n))) := by
  cases hw with
  | true =>
    have hC := h1 rfl
    obtain ⟨nm, hP⟩ := hC.2.2.1
    have hE := enW_of hs hP hC.2.1
    exact c_X13_weakest hC (fun A' hQ ht hv => ⟨hQ, ht, hv, by rw [qWeakest_r hs hf n]⟩)
  | false =>
    obtain ⟨rfl, e0, e1, -, -⟩ := h0 rfl
    have hT : (tY (okW1 emptyW) n) = 1 := by simp [t1, tY, tX, tSY, tFit, tBr, okW1, ok2, okR_0, emptyW, e1]
    exact n_X13_weakest (fun A' hQ ht hv => ⟨hQ, by rw [hT]; exact ht, hv, by unfold rWeakest; rw [hT]; rfl⟩)
theorem qc_apart {Ac : AH} {w : WT} {s : Nat → Nat} {a b n : Int32} (hC : CI w s Ac) (hL : LR w Ac) : Ct yX11_apart mX11_apart 5 dC gC [.ref 0, .int a, .int b, .int n] Ac (KC Ac (tY (okR (w.1 1) a && okR (w.1 1) b) n) (.int (rApart w s a b n))) := c_X11_apart hC (fun A' hQ ht => ⟨hQ, ht, rfl⟩)
theorem pm_apart {hw : Bool} {r : Value} {Am : AH} {w : WT} {s : Nat → Nat} {c m : Nat} {a b n : Int32} (hs : okS s) (hf : ofOK w) (h1 : hw = true → MC w s Am) (h0 : hw = false → NW w s c m) : Ct yX13_apart mX13_apart 4 (dW hw) (GW hw r) [.ref 100, .int a, .int b, .int n] Am (KQ Am (tY (okR (w.1 1) a && okR (w.1 1) b) n) (.int (rApart w s a b n))) := by
  cases hw with
  | true =>
    have hC := h1 rfl
    obtain ⟨nm, hP⟩ := hC.2.2.1
    have hE := enW_of hs hP hC.2.1
    exact c_X13_apart hC (fun A' hQ ht hv => ⟨hQ, ht, hv, by rw [qApart_r hs hf hE a b n]⟩)
  | false =>
    obtain ⟨rfl, e0, e1, -, -⟩ := h0 rfl
    have hT : (tY (okR (emptyW.1 1) a && okR (emptyW.1 1) b) n) = 1 := by simp [t1, tY, tX, tSY, tFit, tBr, okW1, ok2, okR_0, emptyW, e1]
    exact n_X13_apart (fun A' hQ ht hv => ⟨hQ, by rw [hT]; exact ht, hv, by unfold rApart; rw [hT]; rfl⟩)
theorem qc_parts {Ac : AH} {w : WT} {s : Nat → Nat} {n : Int32} (hC : CI w s Ac) (hL : LR w Ac) : Ct yX11_parts mX11_parts 5 dC gC [.ref 0, .int n] Ac (KC Ac (tY (okW1 w) n) (.int (rParts w s n))) := c_X11_parts hC (fun A' hQ ht => ⟨hQ, ht, rfl⟩)
theorem pm_parts {hw : Bool} {r : Value} {Am : AH} {w : WT} {s : Nat → Nat} {c m : Nat} {n : Int32} (hs : okS s) (hf : ofOK w) (h1 : hw = true → MC w s Am) (h0 : hw = false → NW w s c m) : Ct yX13_parts mX13_parts 4 (dW hw) (GW hw r) [.ref 100, .int n] Am (KQ Am (tY (okW1 w) n) (.int (rParts w s n))) := by
  cases hw with
  | true =>
    have hC := h1 rfl
    obtain ⟨nm, hP⟩ := hC.2.2.1
    have hE := enW_of hs hP hC.2.1
    exact c_X13_parts hC (fun A' hQ ht hv => ⟨hQ, ht, hv, by rw [qParts_r hs hf hE n]⟩)
  | false =>
    obtain ⟨rfl, e0, e1, -, -⟩ := h0 rfl
    have hT : (tY (okW1 emptyW) n) = 1 := by simp [t1, tY, tX, tSY, tFit, tBr, okW1, ok2, okR_0, emptyW, e1]
    exact n_X13_parts (fun A' hQ ht hv => ⟨hQ, by rw [hT]; exact ht, hv, by unfold rParts; rw [hT]; rfl⟩)
theorem qc_bridges {Ac : AH} {w : WT} {s : Nat → Nat} {n : Int32} (hC : CI w s Ac) (hL : LR w Ac) : Ct yX11_bridges mX11_bridges 5 dC gC [.ref 0, .int n] Ac (KC Ac (tY (okW1 w) n) (.int (rBridges w s n))) := c_X11_bridges hC (fun A' hQ ht => ⟨hQ, ht, rfl⟩)
theorem pm_bridges {hw : Bool} {r : Value} {Am : AH} {w : WT} {s : Nat → Nat} {c m : Nat} {n : Int32} (hs : okS s) (hf : ofOK w) (h1 : hw = true → MC w s Am) (h0 : hw = false → NW w s c m) : Ct yX13_bridges mX13_bridges 4 (dW hw) (GW hw r) [.ref 100, .int n] Am (KQ Am (tY (okW1 w) n) (.int (rBridges w s n))) := by
  cases hw with
  | true =>
    have hC := h1 rfl
    obtain ⟨nm, hP⟩ := hC.2.2.1
    have hE := enW_of hs hP hC.2.1
    exact c_X13_bridges hC (fun A' hQ ht hv => ⟨hQ, ht, hv, by rw [qBridges_r hs hf hE n]⟩)
  | false =>
    obtain ⟨rfl, e0, e1, -, -⟩ := h0 rfl
    have hT : (tY (okW1 emptyW) n) = 1 := by simp [t1, tY, tX, tSY, tFit, tBr, okW1, ok2, okR_0, emptyW, e1]
    exact n_X13_bridges (fun A' hQ ht hv => ⟨hQ, by rw [hT]; exact ht, hv, by unfold rBridges; rw [hT]; rfl⟩)
theorem qc_borne {Ac : AH} {w : WT} {s : Nat → Nat} {n : Int32} (hC : CI w s Ac) (hL : LR w Ac) : Ct yX11_borne mX11_borne 5 dC gC [.ref 0, .int n] Ac (KC Ac (tY (okW1 w) n) (.int (rBorne w s n))) := c_X11_borne hC (fun A' hQ ht => ⟨hQ, ht, rfl⟩)
theorem pm_borne {hw : Bool} {r : Value} {Am : AH} {w : WT} {s : Nat → Nat} {c m : Nat} {n : Int32} (hs : okS s) (hf : ofOK w) (h1 : hw = true → MC w s Am) (h0 : hw = false → NW w s c m) : Ct yX13_borne mX13_borne 5 (dW hw) (GW hw r) [.ref 100, .int n] Am (KQ Am (tY (okW1 w) n) (.int (rBorne w s n))) := by
  cases hw with
  | true =>
    have hC := h1 rfl
    obtain ⟨nm, hP⟩ := hC.2.2.1
    have hE := enW_of hs hP hC.2.1
    exact c_X13_borne hC (fun A' hQ ht hv => ⟨hQ, ht, hv, by rw [qBorne_r hP hs hf n]⟩)
  | false =>
    obtain ⟨rfl, e0, e1, -, -⟩ := h0 rfl
    have hT : (tY (okW1 emptyW) n) = 1 := by simp [t1, tY, tX, tSY, tFit, tBr, okW1, ok2, okR_0, emptyW, e1]
    exact n_X13_borne (fun A' hQ ht hv => ⟨hQ, by rw [hT]; exact ht, hv, by unfold rBorne; rw [hT]; rfl⟩)
theorem qc_fallsIn {Ac : AH} {w : WT} {s : Nat → Nat} {k : Int32} (hC : CI w s Ac) (hL : LR w Ac) : Ct yX11_fallsIn mX11_fallsIn 5 dC gC [.ref 0, .int k] Ac (KC Ac (t1 (okR (w.1 4) k)) (.int (rFallsIn w s k))) := c_X11_fallsIn hC (fun A' hQ ht => ⟨hQ, ht, rfl⟩)
theorem pm_fallsIn {hw : Bool} {r : Value} {Am : AH} {w : WT} {s : Nat → Nat} {c m : Nat} {k : Int32} (hs : okS s) (hf : ofOK w) (h1 : hw = true → MC w s Am) (h0 : hw = false → NW w s c m) : Ct yX13_fallsIn mX13_fallsIn 5 (dW hw) (GW hw r) [.ref 100, .int k] Am (KQ Am (t1 (okR (w.1 4) k)) (.int (rFallsIn w s k))) := by
  cases hw with
  | true =>
    have hC := h1 rfl
    obtain ⟨nm, hP⟩ := hC.2.2.1
    have hE := enW_of hs hP hC.2.1
    exact c_X13_fallsIn hC (fun A' hQ ht hv => ⟨hQ, ht, hv, by rw [qFallsIn_r hP hs hf k]⟩)
  | false =>
    obtain ⟨rfl, e0, e1, -, -⟩ := h0 rfl
    have hT : (t1 (okR (emptyW.1 4) k)) = 1 := by simp [t1, tY, tX, tSY, tFit, tBr, okW1, ok2, okR_0, emptyW, e1]
    exact n_X13_fallsIn (fun A' hQ ht hv => ⟨hQ, by rw [hT]; exact ht, hv, by unfold rFallsIn; rw [hT]; rfl⟩)
theorem qc_spare {Ac : AH} {w : WT} {s : Nat → Nat} {k : Int32} (hC : CI w s Ac) (hL : LR w Ac) : Ct yX11_spare mX11_spare 5 dC gC [.ref 0, .int k] Ac (KC Ac (t1 (okR (w.1 4) k)) (.int (rSpare w s k))) := c_X11_spare hC (fun A' hQ ht => ⟨hQ, ht, rfl⟩)
theorem pm_spare {hw : Bool} {r : Value} {Am : AH} {w : WT} {s : Nat → Nat} {c m : Nat} {k : Int32} (hs : okS s) (hf : ofOK w) (h1 : hw = true → MC w s Am) (h0 : hw = false → NW w s c m) : Ct yX13_spare mX13_spare 4 (dW hw) (GW hw r) [.ref 100, .int k] Am (KQ Am (t1 (okR (w.1 4) k)) (.int (rSpare w s k))) := by
  cases hw with
  | true =>
    have hC := h1 rfl
    obtain ⟨nm, hP⟩ := hC.2.2.1
    have hE := enW_of hs hP hC.2.1
    exact c_X13_spare hC (fun A' hQ ht hv => ⟨hQ, ht, hv, by rw [qSpare_r hP hs hf k]⟩)
  | false =>
    obtain ⟨rfl, e0, e1, -, -⟩ := h0 rfl
    have hT : (t1 (okR (emptyW.1 4) k)) = 1 := by simp [t1, tY, tX, tSY, tFit, tBr, okW1, ok2, okR_0, emptyW, e1]
    exact n_X13_spare (fun A' hQ ht hv => ⟨hQ, by rw [hT]; exact ht, hv, by unfold rSpare; rw [hT]; rfl⟩)
theorem qc_mend {Ac : AH} {w : WT} {s : Nat → Nat} (hC : CI w s Ac) (hL : LR w Ac) : Ct yX11_mend mX11_mend 6 dC gC [.ref 0] Ac (KC Ac (t1 (okW1 w)) (.int (rMend w s))) := c_X11_mend hC (fun A' hQ ht => ⟨hQ, ht, rfl⟩)
theorem pm_mend {hw : Bool} {r : Value} {Am : AH} {w : WT} {s : Nat → Nat} {c m : Nat} (hs : okS s) (hf : ofOK w) (h1 : hw = true → MC w s Am) (h0 : hw = false → NW w s c m) : Ct yX13_mend mX13_mend 6 (dW hw) (GW hw r) [.ref 100] Am (KQ Am (t1 (okW1 w)) (.int (rMend w s))) := by
  cases hw with
  | true =>
    have hC := h1 rfl
    obtain ⟨nm, hP⟩ := hC.2.2.1
    have hE := enW_of hs hP hC.2.1
    exact c_X13_mend hC (fun A' hQ ht hv => ⟨hQ, ht, hv, by rw [qMend_r hP hs hf]⟩)
  | false =>
    obtain ⟨rfl, e0, e1, -, -⟩ := h0 rfl
    have hT : (t1 (okW1 emptyW)) = 1 := by simp [t1, tY, tX, tSY, tFit, tBr, okW1, ok2, okR_0, emptyW, e1]
    exact n_X13_mend (fun A' hQ ht hv => ⟨hQ, by rw [hT]; exact ht, hv, by unfold rMend; rw [hT]; rfl⟩)
theorem qc_mendCost {Ac : AH} {w : WT} {s : Nat → Nat} (hC : CI w s Ac) (hL : LR w Ac) : Ct yX11_mendCost mX11_mendCost 6 dC gC [.ref 0] Ac (KC Ac (t1 (okW1 w)) (.int (rMendCost w s))) := c_X11_mendCost hC (fun A' hQ ht => ⟨hQ, ht, rfl⟩)
theorem pm_mendCost {hw : Bool} {r : Value} {Am : AH} {w : WT} {s : Nat → Nat} {c m : Nat} (hs : okS s) (hf : ofOK w) (h1 : hw = true → MC w s Am) (h0 : hw = false → NW w s c m) : Ct yX13_mendCost mX13_mendCost 6 (dW hw) (GW hw r) [.ref 100] Am (KQ Am (t1 (okW1 w)) (.int (rMendCost w s))) := by
  cases hw with
  | true =>
    have hC := h1 rfl
    obtain ⟨nm, hP⟩ := hC.2.2.1
    have hE := enW_of hs hP hC.2.1
    exact c_X13_mendCost hC (fun A' hQ ht hv => ⟨hQ, ht, hv, by rw [qMendCost_r hP hs hf]⟩)
  | false =>
    obtain ⟨rfl, e0, e1, -, -⟩ := h0 rfl
    have hT : (t1 (okW1 emptyW)) = 1 := by simp [t1, tY, tX, tSY, tFit, tBr, okW1, ok2, okR_0, emptyW, e1]
    exact n_X13_mendCost (fun A' hQ ht hv => ⟨hQ, by rw [hT]; exact ht, hv, by unfold rMendCost; rw [hT]; rfl⟩)
theorem qc_bestOffer {Ac : AH} {w : WT} {s : Nat → Nat} (hC : CI w s Ac) (hL : LR w Ac) : Ct yX11_bestOffer mX11_bestOffer 5 dC gC [.ref 0] Ac (KC Ac (t1 (okW1 w)) (.int (rBestOffer w s))) := c_X11_bestOffer hC (fun A' hQ ht => ⟨hQ, ht, rfl⟩)
theorem pm_bestOffer {hw : Bool} {r : Value} {Am : AH} {w : WT} {s : Nat → Nat} {c m : Nat} (hs : okS s) (hf : ofOK w) (h1 : hw = true → MC w s Am) (h0 : hw = false → NW w s c m) : Ct yX13_bestOffer mX13_bestOffer 5 (dW hw) (GW hw r) [.ref 100] Am (KQ Am (t1 (okW1 w)) (.int (rBestOffer w s))) := by
  cases hw with
  | true =>
    have hC := h1 rfl
    obtain ⟨nm, hP⟩ := hC.2.2.1
    have hE := enW_of hs hP hC.2.1
    exact c_X13_bestOffer hC (fun A' hQ ht hv => ⟨hQ, ht, hv, by rw [qBestOffer_r hP hs hf]⟩)
  | false =>
    obtain ⟨rfl, e0, e1, -, -⟩ := h0 rfl
    have hT : (t1 (okW1 emptyW)) = 1 := by simp [t1, tY, tX, tSY, tFit, tBr, okW1, ok2, okR_0, emptyW, e1]
    exact n_X13_bestOffer (fun A' hQ ht hv => ⟨hQ, by rw [hT]; exact ht, hv, by unfold rBestOffer; rw [hT]; rfl⟩)
theorem qc_clashes {Ac : AH} {w : WT} {s : Nat → Nat} {n : Int32} (hC : CI w s Ac) (hL : LR w Ac) : Ct yX11_clashes mX11_clashes 5 dC gC [.ref 0, .int n] Ac (KC Ac (tY (okW1 w) n) (.int (rClashes w s n))) := c_X11_clashes hC (fun A' hQ ht => ⟨hQ, ht, rfl⟩)
theorem pm_clashes {hw : Bool} {r : Value} {Am : AH} {w : WT} {s : Nat → Nat} {c m : Nat} {n : Int32} (hs : okS s) (hf : ofOK w) (h1 : hw = true → MC w s Am) (h0 : hw = false → NW w s c m) : Ct yX13_clashes mX13_clashes 4 (dW hw) (GW hw r) [.ref 100, .int n] Am (KQ Am (tY (okW1 w) n) (.int (rClashes w s n))) := by
  cases hw with
  | true =>
    have hC := h1 rfl
    obtain ⟨nm, hP⟩ := hC.2.2.1
    have hE := enW_of hs hP hC.2.1
    exact c_X13_clashes hC (fun A' hQ ht hv => ⟨hQ, ht, hv, rfl⟩)
  | false =>
    obtain ⟨rfl, e0, e1, -, -⟩ := h0 rfl
    have hT : (tY (okW1 emptyW) n) = 1 := by simp [t1, tY, tX, tSY, tFit, tBr, okW1, ok2, okR_0, emptyW, e1]
    exact n_X13_clashes (fun A' hQ ht hv => ⟨hQ, by rw [hT]; exact ht, hv, by unfold rClashes; rw [hT]; rfl⟩)
theorem qc_breakFew {Ac : AH} {w : WT} {s : Nat → Nat} (hC : CI w s Ac) (hL : LR w Ac) : Ct yX11_breakFew mX11_breakFew 6 dC gC [.ref 0] Ac (KC Ac (t1 (okW1 w)) (.int (rBreakFew w s))) := c_X11_breakFew hC (fun A' hQ ht => ⟨hQ, ht, rfl⟩)
theorem pm_breakFew {hw : Bool} {r : Value} {Am : AH} {w : WT} {s : Nat → Nat} {c m : Nat} (hs : okS s) (hf : ofOK w) (h1 : hw = true → MC w s Am) (h0 : hw = false → NW w s c m) : Ct yX13_breakFew mX13_breakFew 5 (dW hw) (GW hw r) [.ref 100] Am (KQ Am (t1 (okW1 w)) (.int (rBreakFew w s))) := by
  cases hw with
  | true =>
    have hC := h1 rfl
    obtain ⟨nm, hP⟩ := hC.2.2.1
    have hE := enW_of hs hP hC.2.1
    exact c_X13_breakFew hC (fun A' hQ ht hv => ⟨hQ, ht, hv, rfl⟩)
  | false =>
    obtain ⟨rfl, e0, e1, -, -⟩ := h0 rfl
    have hT : (t1 (okW1 emptyW)) = 1 := by simp [t1, tY, tX, tSY, tFit, tBr, okW1, ok2, okR_0, emptyW, e1]
    exact n_X13_breakFew (fun A' hQ ht hv => ⟨hQ, by rw [hT]; exact ht, hv, by unfold rBreakFew; rw [hT]; rfl⟩)
theorem qc_breakRued {Ac : AH} {w : WT} {s : Nat → Nat} (hC : CI w s Ac) (hL : LR w Ac) : Ct yX11_breakRued mX11_breakRued 6 dC gC [.ref 0] Ac (KC Ac (t1 (okW1 w)) (.int (rBreakRued w s))) := c_X11_breakRued hC (fun A' hQ ht => ⟨hQ, ht, rfl⟩)
theorem pm_breakRued {hw : Bool} {r : Value} {Am : AH} {w : WT} {s : Nat → Nat} {c m : Nat} (hs : okS s) (hf : ofOK w) (h1 : hw = true → MC w s Am) (h0 : hw = false → NW w s c m) : Ct yX13_breakRued mX13_breakRued 5 (dW hw) (GW hw r) [.ref 100] Am (KQ Am (t1 (okW1 w)) (.int (rBreakRued w s))) := by
  cases hw with
  | true =>
    have hC := h1 rfl
    obtain ⟨nm, hP⟩ := hC.2.2.1
    have hE := enW_of hs hP hC.2.1
    exact c_X13_breakRued hC (fun A' hQ ht hv => ⟨hQ, ht, hv, rfl⟩)
  | false =>
    obtain ⟨rfl, e0, e1, -, -⟩ := h0 rfl
    have hT : (t1 (okW1 emptyW)) = 1 := by simp [t1, tY, tX, tSY, tFit, tBr, okW1, ok2, okR_0, emptyW, e1]
    exact n_X13_breakRued (fun A' hQ ht hv => ⟨hQ, by rw [hT]; exact ht, hv, by unfold rBreakRued; rw [hT]; rfl⟩)
theorem qc_rue {Ac : AH} {w : WT} {s : Nat → Nat} (hC : CI w s Ac) (hL : LR w Ac) : Ct yX11_rue mX11_rue 6 dC gC [.ref 0] Ac (KC Ac (t1 (okW1 w)) (.int (rRue w s))) := c_X11_rue hC (fun A' hQ ht => ⟨hQ, ht, rfl⟩)
theorem pm_rue {hw : Bool} {r : Value} {Am : AH} {w : WT} {s : Nat → Nat} {c m : Nat} (hs : okS s) (hf : ofOK w) (h1 : hw = true → MC w s Am) (h0 : hw = false → NW w s c m) : Ct yX13_rue mX13_rue 5 (dW hw) (GW hw r) [.ref 100] Am (KQ Am (t1 (okW1 w)) (.int (rRue w s))) := by
  cases hw with
  | true =>
    have hC := h1 rfl
    obtain ⟨nm, hP⟩ := hC.2.2.1
    have hE := enW_of hs hP hC.2.1
    exact c_X13_rue hC (fun A' hQ ht hv => ⟨hQ, ht, hv, rfl⟩)
  | false =>
    obtain ⟨rfl, e0, e1, -, -⟩ := h0 rfl
    have hT : (t1 (okW1 emptyW)) = 1 := by simp [t1, tY, tX, tSY, tFit, tBr, okW1, ok2, okR_0, emptyW, e1]
    exact n_X13_rue (fun A' hQ ht hv => ⟨hQ, by rw [hT]; exact ht, hv, by unfold rRue; rw [hT]; rfl⟩)
theorem qc_peaces {Ac : AH} {w : WT} {s : Nat → Nat} (hC : CI w s Ac) (hL : LR w Ac) : Ct yX11_peaces mX11_peaces 5 dC gC [.ref 0] Ac (KC Ac (t1 (okW1 w)) (.int (rPeaces w s))) := c_X11_peaces hC (fun A' hQ ht => ⟨hQ, ht, rfl⟩)
theorem pm_peaces {hw : Bool} {r : Value} {Am : AH} {w : WT} {s : Nat → Nat} {c m : Nat} (hs : okS s) (hf : ofOK w) (h1 : hw = true → MC w s Am) (h0 : hw = false → NW w s c m) : Ct yX13_peaces mX13_peaces 4 (dW hw) (GW hw r) [.ref 100] Am (KQ Am (t1 (okW1 w)) (.int (rPeaces w s))) := by
  cases hw with
  | true =>
    have hC := h1 rfl
    obtain ⟨nm, hP⟩ := hC.2.2.1
    have hE := enW_of hs hP hC.2.1
    exact c_X13_peaces hC (fun A' hQ ht hv => ⟨hQ, ht, hv, rfl⟩)
  | false =>
    obtain ⟨rfl, e0, e1, -, -⟩ := h0 rfl
    have hT : (t1 (okW1 emptyW)) = 1 := by simp [t1, tY, tX, tSY, tFit, tBr, okW1, ok2, okR_0, emptyW, e1]
    exact n_X13_peaces (fun A' hQ ht hv => ⟨hQ, by rw [hT]; exact ht, hv, by unfold rPeaces; rw [hT]; rfl⟩)
theorem qc_fits {Ac : AH} {w : WT} {s : Nat → Nat} (hC : CI w s Ac) (hL : LR w Ac) : Ct yX11_fits mX11_fits 3 dC gC [.ref 0] Ac (KC Ac (t1 (okW1 w)) (.int (rFits w))) := c_X11_fits hC hL (fun A' hQ ht => ⟨hQ, ht, rfl⟩)
theorem pm_fits {hw : Bool} {r : Value} {Am : AH} {w : WT} {s : Nat → Nat} {c m : Nat} (hs : okS s) (hf : ofOK w) (h1 : hw = true → MC w s Am) (h0 : hw = false → NW w s c m) : Ct yX13_fits mX13_fits 5 (dW hw) (GW hw r) [.ref 100] Am (KQ Am (t1 (okW1 w)) (.int (rFits w))) := by
  cases hw with
  | true =>
    have hC := h1 rfl
    obtain ⟨nm, hP⟩ := hC.2.2.1
    have hE := enW_of hs hP hC.2.1
    exact c_X13_fits hC (fun A' hQ ht hv => ⟨hQ, ht, hv, rfl⟩)
  | false =>
    obtain ⟨rfl, e0, e1, -, -⟩ := h0 rfl
    have hT : (t1 (okW1 emptyW)) = 1 := by simp [t1, tY, tX, tSY, tFit, tBr, okW1, ok2, okR_0, emptyW, e1]
    exact n_X13_fits (fun A' hQ ht hv => ⟨hQ, by rw [hT]; exact ht, hv, by unfold rFits; rw [hT]; rfl⟩)
theorem qc_fitAt {Ac : AH} {w : WT} {s : Nat → Nat} {i : Int32} (hC : CI w s Ac) (hL : LR w Ac) : Ct yX11_fitAt mX11_fitAt 3 dC gC [.ref 0, .int i] Ac (KC Ac (tFit w i) (.int (rFitAt w i))) := c_X11_fitAt hC hL (fun A' hQ ht => ⟨hQ, ht, rfl⟩)
theorem LN_le32 {w : WT} {s : Nat → Nat} {A : AH} (h : MC w s A) : LN w ≤ 32 := by
  have := h.rooms.2.2.2.2.2.2.1
  unfold LN
  split
  · exact Nat.pow_le_pow_right (n := 2) (by decide) (show w.1 6 ≤ 5 from this)
  · omega
theorem pm_fitAt {hw : Bool} {r : Value} {Am : AH} {w : WT} {s : Nat → Nat} {c m : Nat} {i : Int32} (hs : okS s) (hf : ofOK w) (h1 : hw = true → MC w s Am) (h0 : hw = false → NW w s c m) : Ct yX13_fitAt mX13_fitAt 5 (dW hw) (GW hw r) [.ref 100, .int i] Am (KQ Am (tFit w i) (.int (rFitAt w i))) := by
  cases hw with
  | true =>
    have hC := h1 rfl
    obtain ⟨nm, hP⟩ := hC.2.2.1
    have hE := enW_of hs hP hC.2.1
    exact c_X13_fitAt hC (fun A' hQ ht hv => ⟨hQ, by rw [ht, (qFit_r (decide_eq_true hC.2.2.2.2.1) (LN_le32 hC) i).2], hv, by rw [(qFit_r (decide_eq_true hC.2.2.2.2.1) (LN_le32 hC) i).1]⟩)
  | false =>
    obtain ⟨rfl, e0, e1, -, -⟩ := h0 rfl
    have hT : (tFit emptyW i) = 1 := by simp [t1, tY, tX, tSY, tFit, tBr, okW1, ok2, okR_0, emptyW, e1]
    exact n_X13_fitAt (fun A' hQ ht hv => ⟨hQ, by rw [hT]; exact ht, hv, by unfold rFitAt; rw [hT]; rfl⟩)
theorem qc_odds {Ac : AH} {w : WT} {s : Nat → Nat} {k : Int32} {b : Bool} (hC : CI w s Ac) (hL : LR w Ac) : Ct yX11_odds mX11_odds 3 dC gC [.ref 0, .int k, .int (b2i b)] Ac (KC Ac (t1 (okR (w.1 6) k)) (.long (rOdds w k b))) := c_X11_odds hC hL (fun A' hQ ht => ⟨hQ, ht, rfl⟩)
theorem pm_odds {hw : Bool} {r : Value} {Am : AH} {w : WT} {s : Nat → Nat} {c m : Nat} {k : Int32} {b : Bool} (hs : okS s) (hf : ofOK w) (h1 : hw = true → MC w s Am) (h0 : hw = false → NW w s c m) : Ct yX13_odds mX13_odds 4 (dW hw) (GW hw r) [.ref 100, .int k, .int (b2i b)] Am (KQ Am (t1 (okR (w.1 6) k)) (.long (rOdds w k b))) := by
  cases hw with
  | true =>
    have hC := h1 rfl
    obtain ⟨nm, hP⟩ := hC.2.2.1
    have hE := enW_of hs hP hC.2.1
    exact c_X13_odds hC (fun A' hQ ht hv => ⟨hQ, ht, hv, rfl⟩)
  | false =>
    obtain ⟨rfl, e0, e1, -, -⟩ := h0 rfl
    have hT : (t1 (okR (emptyW.1 6) k)) = 1 := by simp [t1, tY, tX, tSY, tFit, tBr, okW1, ok2, okR_0, emptyW, e1]
    exact n_X13_odds (fun A' hQ ht hv => ⟨hQ, by rw [hT]; exact ht, hv, by unfold rOdds; rw [hT]; rfl⟩)
theorem qc_likeliest {Ac : AH} {w : WT} {s : Nat → Nat} (hC : CI w s Ac) (hL : LR w Ac) : Ct yX11_likeliest mX11_likeliest 3 dC gC [.ref 0] Ac (KC Ac (t1 (okW1 w)) (.int (rLikeliest w))) := c_X11_likeliest hC hL (fun A' hQ ht => ⟨hQ, ht, rfl⟩)
theorem pm_likeliest {hw : Bool} {r : Value} {Am : AH} {w : WT} {s : Nat → Nat} {c m : Nat} (hs : okS s) (hf : ofOK w) (h1 : hw = true → MC w s Am) (h0 : hw = false → NW w s c m) : Ct yX13_likeliest mX13_likeliest 4 (dW hw) (GW hw r) [.ref 100] Am (KQ Am (t1 (okW1 w)) (.int (rLikeliest w))) := by
  cases hw with
  | true =>
    have hC := h1 rfl
    obtain ⟨nm, hP⟩ := hC.2.2.1
    have hE := enW_of hs hP hC.2.1
    exact c_X13_likeliest hC (fun A' hQ ht hv => ⟨hQ, ht, hv, rfl⟩)
  | false =>
    obtain ⟨rfl, e0, e1, -, -⟩ := h0 rfl
    have hT : (t1 (okW1 emptyW)) = 1 := by simp [t1, tY, tX, tSY, tFit, tBr, okW1, ok2, okR_0, emptyW, e1]
    exact n_X13_likeliest (fun A' hQ ht hv => ⟨hQ, by rw [hT]; exact ht, hv, by unfold rLikeliest; rw [hT]; rfl⟩)
theorem qc_test {Ac : AH} {w : WT} {s : Nat → Nat} (hC : CI w s Ac) (hL : LR w Ac) : Ct yX11_test mX11_test 3 dC gC [.ref 0] Ac (KC Ac (t1 (okW1 w)) (.int (rTest w))) := c_X11_test hC hL (fun A' hQ ht => ⟨hQ, ht, rfl⟩)
theorem pm_test {hw : Bool} {r : Value} {Am : AH} {w : WT} {s : Nat → Nat} {c m : Nat} (hs : okS s) (hf : ofOK w) (h1 : hw = true → MC w s Am) (h0 : hw = false → NW w s c m) : Ct yX13_test mX13_test 6 (dW hw) (GW hw r) [.ref 100] Am (KQ Am (t1 (okW1 w)) (.int (rTest w))) := by
  cases hw with
  | true =>
    have hC := h1 rfl
    obtain ⟨nm, hP⟩ := hC.2.2.1
    have hE := enW_of hs hP hC.2.1
    exact c_X13_test hC (fun A' hQ ht hv => ⟨hQ, ht, hv, by rw [qTest_r w]⟩)
  | false =>
    obtain ⟨rfl, e0, e1, -, -⟩ := h0 rfl
    have hT : (t1 (okW1 emptyW)) = 1 := by simp [t1, tY, tX, tSY, tFit, tBr, okW1, ok2, okR_0, emptyW, e1]
    exact n_X13_test (fun A' hQ ht hv => ⟨hQ, by rw [hT]; exact ht, hv, by unfold rTest; rw [hT]; rfl⟩)
theorem qc_testLeaves {Ac : AH} {w : WT} {s : Nat → Nat} (hC : CI w s Ac) (hL : LR w Ac) : Ct yX11_testLeaves mX11_testLeaves 3 dC gC [.ref 0] Ac (KC Ac (t1 (okW1 w)) (.int (rTestLeaves w))) := c_X11_testLeaves hC hL (fun A' hQ ht => ⟨hQ, ht, rfl⟩)
theorem pm_testLeaves {hw : Bool} {r : Value} {Am : AH} {w : WT} {s : Nat → Nat} {c m : Nat} (hs : okS s) (hf : ofOK w) (h1 : hw = true → MC w s Am) (h0 : hw = false → NW w s c m) : Ct yX13_testLeaves mX13_testLeaves 6 (dW hw) (GW hw r) [.ref 100] Am (KQ Am (t1 (okW1 w)) (.int (rTestLeaves w))) := by
  cases hw with
  | true =>
    have hC := h1 rfl
    obtain ⟨nm, hP⟩ := hC.2.2.1
    have hE := enW_of hs hP hC.2.1
    exact c_X13_testLeaves hC (fun A' hQ ht hv => ⟨hQ, ht, hv, by rw [qTestLeaves_r w]⟩)
  | false =>
    obtain ⟨rfl, e0, e1, -, -⟩ := h0 rfl
    have hT : (t1 (okW1 emptyW)) = 1 := by simp [t1, tY, tX, tSY, tFit, tBr, okW1, ok2, okR_0, emptyW, e1]
    exact n_X13_testLeaves (fun A' hQ ht hv => ⟨hQ, by rw [hT]; exact ht, hv, by unfold rTestLeaves; rw [hT]; rfl⟩)
theorem qc_brown {Ac : AH} {w : WT} {s : Nat → Nat} {t u : Int32} {b : Bool} (hC : CI w s Ac) (hL : LR w Ac) : Ct yX11_brown mX11_brown 5 dC gC [.ref 0, .int t, .int u, .int (b2i b)] Ac (KC Ac (tBr s t u) (.long (rBrown w s t u b))) := c_X11_brown hC hL (fun A' hQ ht => ⟨hQ, ht, rfl⟩)
theorem pm_brown {hw : Bool} {r : Value} {Am : AH} {w : WT} {s : Nat → Nat} {c m : Nat} {t u : Int32} {b : Bool} (hs : okS s) (hf : ofOK w) (h1 : hw = true → MC w s Am) (h0 : hw = false → NW w s c m) : Ct yX13_brown mX13_brown 4 (dW hw) (GW hw r) [.ref 100, .int t, .int u, .int (b2i b)] Am (KQ Am (tBr s t u) (.long (rBrown w s t u b))) := by
  cases hw with
  | true =>
    have hC := h1 rfl
    obtain ⟨nm, hP⟩ := hC.2.2.1
    have hE := enW_of hs hP hC.2.1
    exact c_X13_brown hC (fun A' hQ ht hv => ⟨hQ, ht, hv, rfl⟩)
  | false =>
    obtain ⟨rfl, e0, e1, -, -⟩ := h0 rfl
    have hT : (tBr s t u) = 1 := by simp [t1, tY, tX, tSY, tFit, tBr, okW1, ok2, okR_0, emptyW, e1]
    exact n_X13_brown (fun A' hQ ht hv => ⟨hQ, by rw [hT]; exact ht, hv, by unfold rBrown; rw [hT]; rfl⟩)
theorem qc_judge {Ac : AH} {w : WT} {s : Nat → Nat} (hC : CI w s Ac) (hL : LR w Ac) : Ct yX11_judge mX11_judge 3 dC gC [.ref 0] Ac (KC Ac (t1 (okW1 w)) (.int (rJudge w))) := c_X11_judge hC (fun A' hQ ht => ⟨hQ, ht, rfl⟩)
theorem pm_judge {hw : Bool} {r : Value} {Am : AH} {w : WT} {s : Nat → Nat} {c m : Nat} (hs : okS s) (hf : ofOK w) (h1 : hw = true → MC w s Am) (h0 : hw = false → NW w s c m) : Ct yX13_judge mX13_judge 3 (dW hw) (GW hw r) [.ref 100] Am (KQ Am (t1 (okW1 w)) (.int (rJudge w))) := by
  cases hw with
  | true =>
    have hC := h1 rfl
    obtain ⟨nm, hP⟩ := hC.2.2.1
    have hE := enW_of hs hP hC.2.1
    exact c_X13_judge hC (fun A' hQ ht hv => ⟨hQ, ht, hv, rfl⟩)
  | false =>
    obtain ⟨rfl, e0, e1, -, -⟩ := h0 rfl
    have hT : (t1 (okW1 emptyW)) = 1 := by simp [t1, tY, tX, tSY, tFit, tBr, okW1, ok2, okR_0, emptyW, e1]
    exact n_X13_judge (fun A' hQ ht hv => ⟨hQ, by rw [hT]; exact ht, hv, by unfold rJudge; rw [hT]; rfl⟩)
theorem qc_snaps {Ac : AH} {w : WT} {s : Nat → Nat} {a b : Int32} (hC : CI w s Ac) (hL : LR w Ac) : Ct yX11_snaps mX11_snaps 5 dC gC [.ref 0, .int a, .int b] Ac (KC Ac (t1 (ok2 w a b)) (.int (rSnaps w s a b))) := c_X11_snaps hC (fun A' hQ ht => ⟨hQ, ht, rfl⟩)
theorem pm_snaps {hw : Bool} {r : Value} {Am : AH} {w : WT} {s : Nat → Nat} {c m : Nat} {a b : Int32} (hs : okS s) (hf : ofOK w) (h1 : hw = true → MC w s Am) (h0 : hw = false → NW w s c m) : Ct yX13_snaps mX13_snaps 5 (dW hw) (GW hw r) [.ref 100, .int a, .int b] Am (KQ Am (t1 (ok2 w a b)) (.int (rSnaps w s a b))) := by
  cases hw with
  | true =>
    have hC := h1 rfl
    obtain ⟨nm, hP⟩ := hC.2.2.1
    have hE := enW_of hs hP hC.2.1
    exact c_X13_snaps hC (fun A' hQ ht hv => ⟨hQ, ht, hv, by rw [qSnaps_r hs hf hE a b]⟩)
  | false =>
    obtain ⟨rfl, e0, e1, -, -⟩ := h0 rfl
    have hT : (t1 (ok2 emptyW a b)) = 1 := by simp [t1, tY, tX, tSY, tFit, tBr, okW1, ok2, okR_0, emptyW, e1]
    exact n_X13_snaps (fun A' hQ ht hv => ⟨hQ, by rw [hT]; exact ht, hv, by unfold rSnaps; rw [hT]; rfl⟩)
theorem qc_snapsBy {Ac : AH} {w : WT} {s : Nat → Nat} {a b : Int32} (hC : CI w s Ac) (hL : LR w Ac) : Ct yX11_snapsBy mX11_snapsBy 5 dC gC [.ref 0, .int a, .int b] Ac (KC Ac (t1 (ok2 w a b)) (.int (rSnapsBy w s a b))) := c_X11_snapsBy hC (fun A' hQ ht => ⟨hQ, ht, rfl⟩)
theorem pm_snapsBy {hw : Bool} {r : Value} {Am : AH} {w : WT} {s : Nat → Nat} {c m : Nat} {a b : Int32} (hs : okS s) (hf : ofOK w) (h1 : hw = true → MC w s Am) (h0 : hw = false → NW w s c m) : Ct yX13_snapsBy mX13_snapsBy 5 (dW hw) (GW hw r) [.ref 100, .int a, .int b] Am (KQ Am (t1 (ok2 w a b)) (.int (rSnapsBy w s a b))) := by
  cases hw with
  | true =>
    have hC := h1 rfl
    obtain ⟨nm, hP⟩ := hC.2.2.1
    have hE := enW_of hs hP hC.2.1
    exact c_X13_snapsBy hC (fun A' hQ ht hv => ⟨hQ, ht, hv, by rw [qSnapsBy_r hs hf hE a b]⟩)
  | false =>
    obtain ⟨rfl, e0, e1, -, -⟩ := h0 rfl
    have hT : (t1 (ok2 emptyW a b)) = 1 := by simp [t1, tY, tX, tSY, tFit, tBr, okW1, ok2, okR_0, emptyW, e1]
    exact n_X13_snapsBy (fun A' hQ ht hv => ⟨hQ, by rw [hT]; exact ht, hv, by unfold rSnapsBy; rw [hT]; rfl⟩)
theorem qc_blows {Ac : AH} {w : WT} {s : Nat → Nat} {x : Int32} {p q o : Bool} (hC : CI w s Ac) (hL : LR w Ac) : Ct yX11_blows mX11_blows 3 dC gC [.ref 0, .int x, .int (b2i p), .int (b2i q), .int (b2i o)] Ac (KC Ac (tX (okW1 w) (tB 9 x)) (.int (rBlows w x p q o))) := c_X11_blows hC (fun A' hQ ht => ⟨hQ, ht, rfl⟩)
theorem pm_blows {hw : Bool} {r : Value} {Am : AH} {w : WT} {s : Nat → Nat} {c m : Nat} {x : Int32} {p q o : Bool} (hs : okS s) (hf : ofOK w) (h1 : hw = true → MC w s Am) (h0 : hw = false → NW w s c m) : Ct yX13_blows mX13_blows 2 (dW hw) (GW hw r) [.ref 100, .int x, .int (b2i p), .int (b2i q), .int (b2i o)] Am (KQ Am (tX (okW1 w) (tB 9 x)) (.int (rBlows w x p q o))) := by
  cases hw with
  | true =>
    have hC := h1 rfl
    obtain ⟨nm, hP⟩ := hC.2.2.1
    have hE := enW_of hs hP hC.2.1
    exact c_X13_blows hC (fun A' hQ ht hv => ⟨hQ, ht, hv, rfl⟩)
  | false =>
    obtain ⟨rfl, e0, e1, -, -⟩ := h0 rfl
    have hT : (tX (okW1 emptyW) (tB 9 x)) = 1 := by simp [t1, tY, tX, tSY, tFit, tBr, okW1, ok2, okR_0, emptyW, e1]
    exact n_X13_blows (fun A' hQ ht hv => ⟨hQ, by rw [hT]; exact ht, hv, by unfold rBlows; rw [hT]; rfl⟩)
theorem qc_rests {Ac : AH} {w : WT} {s : Nat → Nat} {x : Int32} (hC : CI w s Ac) (hL : LR w Ac) : Ct yX11_rests mX11_rests 3 dC gC [.ref 0, .int x] Ac (KC Ac (tX (okW1 w) (tB 9 x)) (.int (rRests w x))) := c_X11_rests hC (fun A' hQ ht => ⟨hQ, ht, rfl⟩)
theorem pm_rests {hw : Bool} {r : Value} {Am : AH} {w : WT} {s : Nat → Nat} {c m : Nat} {x : Int32} (hs : okS s) (hf : ofOK w) (h1 : hw = true → MC w s Am) (h0 : hw = false → NW w s c m) : Ct yX13_rests mX13_rests 2 (dW hw) (GW hw r) [.ref 100, .int x] Am (KQ Am (tX (okW1 w) (tB 9 x)) (.int (rRests w x))) := by
  cases hw with
  | true =>
    have hC := h1 rfl
    obtain ⟨nm, hP⟩ := hC.2.2.1
    have hE := enW_of hs hP hC.2.1
    exact c_X13_rests hC (fun A' hQ ht hv => ⟨hQ, ht, hv, rfl⟩)
  | false =>
    obtain ⟨rfl, e0, e1, -, -⟩ := h0 rfl
    have hT : (tX (okW1 emptyW) (tB 9 x)) = 1 := by simp [t1, tY, tX, tSY, tFit, tBr, okW1, ok2, okR_0, emptyW, e1]
    exact n_X13_rests (fun A' hQ ht hv => ⟨hQ, by rw [hT]; exact ht, hv, by unfold rRests; rw [hT]; rfl⟩)
theorem qc_rest {Ac : AH} {w : WT} {s : Nat → Nat} {x : Int32} (hC : CI w s Ac) (hL : LR w Ac) : Ct yX11_rest mX11_rest 3 dC gC [.ref 0, .int x] Ac (KC Ac (tX (okW1 w) (tB 9 x)) (.int (rRest w x))) := c_X11_rest hC (fun A' hQ ht => ⟨hQ, ht, rfl⟩)
theorem pm_rest {hw : Bool} {r : Value} {Am : AH} {w : WT} {s : Nat → Nat} {c m : Nat} {x : Int32} (hs : okS s) (hf : ofOK w) (h1 : hw = true → MC w s Am) (h0 : hw = false → NW w s c m) : Ct yX13_rest mX13_rest 2 (dW hw) (GW hw r) [.ref 100, .int x] Am (KQ Am (tX (okW1 w) (tB 9 x)) (.int (rRest w x))) := by
  cases hw with
  | true =>
    have hC := h1 rfl
    obtain ⟨nm, hP⟩ := hC.2.2.1
    have hE := enW_of hs hP hC.2.1
    exact c_X13_rest hC (fun A' hQ ht hv => ⟨hQ, ht, hv, rfl⟩)
  | false =>
    obtain ⟨rfl, e0, e1, -, -⟩ := h0 rfl
    have hT : (tX (okW1 emptyW) (tB 9 x)) = 1 := by simp [t1, tY, tX, tSY, tFit, tBr, okW1, ok2, okR_0, emptyW, e1]
    exact n_X13_rest (fun A' hQ ht hv => ⟨hQ, by rw [hT]; exact ht, hv, by unfold rRest; rw [hT]; rfl⟩)
theorem qc_bearOdds {Ac : AH} {w : WT} {s : Nat → Nat} {a b m : Int32} {lo : Bool} (hC : CI w s Ac) (hL : LR w Ac) : Ct yX11_bearOdds mX11_bearOdds 5 dC gC [.ref 0, .int a, .int b, .int m, .int (b2i lo)] Ac (KC Ac (tX (ok2 w a b) (tB 800 m)) (.long (rBearOdds w s a b m lo))) := c_X11_bearOdds hC (fun A' hQ ht => ⟨hQ, ht, rfl⟩)
theorem pm_bearOdds {hw : Bool} {r : Value} {Am : AH} {w : WT} {s : Nat → Nat} {c m : Nat} {a b m0 : Int32} {lo : Bool} (hs : okS s) (hf : ofOK w) (h1 : hw = true → MC w s Am) (h0 : hw = false → NW w s c m) : Ct yX13_bearOdds mX13_bearOdds 4 (dW hw) (GW hw r) [.ref 100, .int a, .int b, .int m0, .int (b2i lo)] Am (KQ Am (tX (ok2 w a b) (tB 800 m0)) (.long (rBearOdds w s a b m0 lo))) := by
  cases hw with
  | true =>
    have hC := h1 rfl
    obtain ⟨nm, hP⟩ := hC.2.2.1
    have hE := enW_of hs hP hC.2.1
    exact c_X13_bearOdds hC (fun A' hQ ht hv => ⟨hQ, ht, hv, rfl⟩)
  | false =>
    obtain ⟨rfl, e0, e1, -, -⟩ := h0 rfl
    have hT : (tX (ok2 emptyW a b) (tB 800 m0)) = 1 := by simp [t1, tY, tX, tSY, tFit, tBr, okW1, ok2, okR_0, emptyW, e1]
    exact n_X13_bearOdds (fun A' hQ ht hv => ⟨hQ, by rw [hT]; exact ht, hv, by unfold rBearOdds; rw [hT]; rfl⟩)
theorem qc_mean {Ac : AH} {w : WT} {s : Nat → Nat} {a b : Int32} {lo : Bool} (hC : CI w s Ac) (hL : LR w Ac) : Ct yX11_mean mX11_mean 5 dC gC [.ref 0, .int a, .int b, .int (b2i lo)] Ac (KC Ac (t1 (ok2 w a b)) (.long (rMean w s a b lo))) := c_X11_mean hC (fun A' hQ ht => ⟨hQ, ht, rfl⟩)
theorem pm_mean {hw : Bool} {r : Value} {Am : AH} {w : WT} {s : Nat → Nat} {c m : Nat} {a b : Int32} {lo : Bool} (hs : okS s) (hf : ofOK w) (h1 : hw = true → MC w s Am) (h0 : hw = false → NW w s c m) : Ct yX13_mean mX13_mean 4 (dW hw) (GW hw r) [.ref 100, .int a, .int b, .int (b2i lo)] Am (KQ Am (t1 (ok2 w a b)) (.long (rMean w s a b lo))) := by
  cases hw with
  | true =>
    have hC := h1 rfl
    obtain ⟨nm, hP⟩ := hC.2.2.1
    have hE := enW_of hs hP hC.2.1
    exact c_X13_mean hC (fun A' hQ ht hv => ⟨hQ, ht, hv, rfl⟩)
  | false =>
    obtain ⟨rfl, e0, e1, -, -⟩ := h0 rfl
    have hT : (t1 (ok2 emptyW a b)) = 1 := by simp [t1, tY, tX, tSY, tFit, tBr, okW1, ok2, okR_0, emptyW, e1]
    exact n_X13_mean (fun A' hQ ht hv => ⟨hQ, by rw [hT]; exact ht, hv, by unfold rMean; rw [hT]; rfl⟩)
theorem qc_years {Ac : AH} {w : WT} {s : Nat → Nat} {d n : Int32} (hC : CI w s Ac) (hL : LR w Ac) : Ct yX11_years mX11_years 5 dC gC [.ref 0, .int d, .int n] Ac (KC Ac (tSY (okW1 w) d n) (.int (rYears w s d n))) := c_X11_years hC (fun A' hQ ht => ⟨hQ, ht, rfl⟩)
theorem pm_years {hw : Bool} {r : Value} {Am : AH} {w : WT} {s : Nat → Nat} {c m : Nat} {d n : Int32} (hs : okS s) (hf : ofOK w) (h1 : hw = true → MC w s Am) (h0 : hw = false → NW w s c m) : Ct yX13_years mX13_years 4 (dW hw) (GW hw r) [.ref 100, .int d, .int n] Am (KQ Am (tSY (okW1 w) d n) (.int (rYears w s d n))) := by
  cases hw with
  | true =>
    have hC := h1 rfl
    obtain ⟨nm, hP⟩ := hC.2.2.1
    have hE := enW_of hs hP hC.2.1
    exact c_X13_years hC (fun A' hQ ht hv => ⟨hQ, ht, hv, rfl⟩)
  | false =>
    obtain ⟨rfl, e0, e1, -, -⟩ := h0 rfl
    have hT : (tSY (okW1 emptyW) d n) = 1 := by simp [t1, tY, tX, tSY, tFit, tBr, okW1, ok2, okR_0, emptyW, e1]
    exact n_X13_years (fun A' hQ ht hv => ⟨hQ, by rw [hT]; exact ht, hv, by unfold rYears; rw [hT]; rfl⟩)
theorem qc_fallsBy {Ac : AH} {w : WT} {s : Nat → Nat} {k d n : Int32} (hC : CI w s Ac) (hL : LR w Ac) : Ct yX11_fallsBy mX11_fallsBy 5 dC gC [.ref 0, .int k, .int d, .int n] Ac (KC Ac (tSY (okR (w.1 4) k) d n) (.int (rFallsBy w s k d n))) := c_X11_fallsBy hC (fun A' hQ ht => ⟨hQ, ht, rfl⟩)
theorem pm_fallsBy {hw : Bool} {r : Value} {Am : AH} {w : WT} {s : Nat → Nat} {c m : Nat} {k d n : Int32} (hs : okS s) (hf : ofOK w) (h1 : hw = true → MC w s Am) (h0 : hw = false → NW w s c m) : Ct yX13_fallsBy mX13_fallsBy 5 (dW hw) (GW hw r) [.ref 100, .int k, .int d, .int n] Am (KQ Am (tSY (okR (w.1 4) k) d n) (.int (rFallsBy w s k d n))) := by
  cases hw with
  | true =>
    have hC := h1 rfl
    obtain ⟨nm, hP⟩ := hC.2.2.1
    have hE := enW_of hs hP hC.2.1
    exact c_X13_fallsBy hC (fun A' hQ ht hv => ⟨hQ, ht, hv, rfl⟩)
  | false =>
    obtain ⟨rfl, e0, e1, -, -⟩ := h0 rfl
    have hT : (tSY (okR (emptyW.1 4) k) d n) = 1 := by simp [t1, tY, tX, tSY, tFit, tBr, okW1, ok2, okR_0, emptyW, e1]
    exact n_X13_fallsBy (fun A' hQ ht hv => ⟨hQ, by rw [hT]; exact ht, hv, by unfold rFallsBy; rw [hT]; rfl⟩)
