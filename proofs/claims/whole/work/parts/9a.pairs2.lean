/-! ===== acts on both sides ===== -/
def KCa (A : AH) (T : Nat) (neg v : Value) (Pp : AH → Prop) : Option Value → AH → Prop := fun o A' => (T ≠ 0 ∧ KC A T neg o A') ∨ (T = 0 ∧ Pp A' ∧ Qa A A' ∧ A'.1 0 8 = nI 0 ∧ o = some v)
def KMa (A : AH) (T : Nat) (neg v : Value) (Pp : AH → Prop) : Option Value → AH → Prop := fun o A' => (T ≠ 0 ∧ KQ A T neg o A') ∨ (T = 0 ∧ Pp A' ∧ QA A A' ∧ A'.1 100 1 = nI 0 ∧ A'.1 100 2 = -1 ∧ o = some v)
theorem JT.hH {w : WT} {s : Nat → Nat} {H I : Nat → Nat → Nat} {nx c m f : Nat} {pl : Int32} {n : Nat} {tp : Nat → Int32} {t : Nat} {hw : Bool} {Ac Am : AH} (h : JT w s H I nx c m f pl n tp t hw Ac Am) : (∀ i, i < c → okS (H i)) ∧ ∀ i, i < m → okS (I i) := by
  obtain ⟨hC, hT, hB, h10, g1, g0⟩ := h
  cases hw with
  | true =>
    obtain ⟨-, -, -, -, -, a, b⟩ := (g1 rfl).2
    exact ⟨fun i hi => (a i hi).2.1, fun i hi => (b i hi).2.1⟩
  | false =>
    obtain ⟨-, -, -, rfl, rfl⟩ := g0 rfl
    exact ⟨fun i hi => absurd hi (Nat.not_lt_zero i), fun i hi => absurd hi (Nat.not_lt_zero i)⟩
theorem JT.a {w : WT} {s : Nat → Nat} {H I : Nat → Nat → Nat} {nx c m f : Nat} {pl : Int32} {n : Nat} {tp : Nat → Int32} {t : Nat} {hw : Bool} {Ac Am Ac' Am' : AH} {T : Nat} {neg v : Value} {s' : Nat → Nat} {H' I' : Nat → Nat → Nat} {nx' c' m' : Nat} {o1 o2 : Option Value} (h : JT w s H I nx c m f pl n tp t hw Ac Am) (h1 : KCa Ac T neg v (fun A' => CI w s' A' ∧ RepP H' I' nx' c' m' A') o1 Ac') (h2 : KMa Am T neg v (fun A' => MC w s' A' ∧ MH w s' H' I' c' m' A') o2 Am') (h4 : T ≠ 4 ∧ T < 10) (hne : hw = false → T ≠ 0) : JS hw Ac' Am' ∧ ∃ u, (u = neg ∨ u = v) ∧ o1 = some u ∧ o2 = some u := by
  rcases h1 with ⟨e1, k1⟩ | ⟨e1, k1, k2, k3, k4⟩
  · rcases h2 with ⟨-, j1⟩ | ⟨e2, -⟩
    · exact ⟨h.q k1 j1 h4, neg, Or.inl rfl, k1.2.2, j1.2.2.2⟩
    · exact absurd e2 e1
  · rcases h2 with ⟨e2, -⟩ | ⟨-, j1, j2, j3, j5, j4⟩
    · exact absurd e1 e2
    · obtain ⟨hC, hT, hB, h10, g1, g0⟩ := h
      refine ⟨⟨w, s', H', I', nx', c', m', f, pl, n, tp, 0, ⟨k1.1, k1.2, hC.2.2.1.off (k2.1 1 (by decide)).1 (k2.1 7 (by decide)).1 (k2.1 8 (by decide)).1, RepL.cong hC.2.2.2.1 (k2.1 56 (by decide)).1 (k2.1 57 (by decide)).2, k3⟩, ⟨?_, ?_, ?_, j3, ?_⟩, hB, by decide, fun _ => j1, fun e => absurd e1 (hne e)⟩, v, Or.inr rfl, k4, j4⟩
      · rw [j2.2 6 (by decide)]; exact hT.1
      · intro i hi; rw [(j2.1 101 (by decide)).1]; exact hT.2.1 i hi
      · rw [j2.2 12 (by decide)]; exact hT.2.2.1
      · rw [j5, if_neg (by decide)]
theorem ac_year {w : WT} {s : Nat → Nat} {H I : Nat → Nat → Nat} {nx c m : Nat} {Ac : AH} (hC : CI w s Ac) (hP : RepP H I nx c m Ac) (hH : (∀ i, i < c → okS (H i)) ∧ ∀ i, i < m → okS (I i)) : Ct yX11_year mX11_year 5 dC gC [.ref 0] Ac (KCa Ac (tYear w s) (.int (-1)) (.int (nI (vYear w s))) (fun A' => CI w (yrS s) A' ∧ RepP (pushH s H) I ((nx + 1) % 16) (kpC c) m A')) :=
  c_X11_year hC hP (fun h A' hQ ht => Or.inl ⟨h, hQ, ht, rfl⟩) (fun h A' g1 g2 g3 ht => Or.inr ⟨h, ⟨g1, g2⟩, g3, ht, rfl⟩)
theorem an_year {w : WT} {s : Nat → Nat} {c m : Nat} (h : NW w s c m) : (tYear w s) = 1 := by
  obtain ⟨rfl, e0, e1, rfl, rfl⟩ := h
  simp [tYear, tX, okW1, emptyW]
theorem am_year {hw : Bool} {r : Value} {w : WT} {s : Nat → Nat} {H I : Nat → Nat → Nat} {c m : Nat} {Am : AH} (h1 : hw = true → MC w s Am ∧ MH w s H I c m Am) (h0 : hw = false → NW w s c m) : Ct yX13_year mX13_year 4 (dW hw) (GW hw r) [.ref 100] Am (KMa Am (tYear w s) (.int (-1)) (.int (nI (vYear w s))) (fun A' => MC w (yrS s) A' ∧ MH w (yrS s) (pushH s H) I (kpC c) m A')) := by
  cases hw with
  | true => exact c_X13_year (h1 rfl).1 (h1 rfl).2 (fun h A' hQ ht hv => Or.inl ⟨h, hQ, ht, hv, rfl⟩) (fun h A' g1 g2 g3 ht hv => Or.inr ⟨h, ⟨g1, g2⟩, g3, ht, hv, rfl⟩)
  | false =>
    have hT := an_year (h0 rfl)
    exact n_X13_year (fun A' hQ ht hv => Or.inl ⟨by rw [hT]; decide, hQ, by rw [hT]; exact ht, hv, rfl⟩)
theorem ac_snap {w : WT} {s : Nat → Nat} {H I : Nat → Nat → Nat} {nx c m : Nat} {Ac : AH} {t0 : Int32} (hC : CI w s Ac) (hP : RepP H I nx c m Ac) (hH : (∀ i, i < c → okS (H i)) ∧ ∀ i, i < m → okS (I i)) : Ct yX11_snap mX11_snap 3 dC gC [.ref 0, .int t0] Ac (KCa Ac (tSnap s t0) (.int (nI 0)) (.int (nI 1)) (fun A' => CI w (snS s (cl t0)) A' ∧ RepP (pushH s H) I ((nx + 1) % 16) (kpC c) m A')) :=
  c_X11_snap hC hP (fun h A' hQ ht => Or.inl ⟨h, hQ, ht, rfl⟩) (fun h A' g1 g2 g3 ht => Or.inr ⟨h, ⟨g1, g2⟩, g3, ht, rfl⟩)
theorem an_snap {w : WT} {s : Nat → Nat} {c m : Nat} {t0 : Int32} (h : NW w s c m) : (tSnap s t0) = 1 := by
  obtain ⟨rfl, e0, e1, rfl, rfl⟩ := h
  simp [tSnap, tX, okR_0, e1]
theorem am_snap {hw : Bool} {r : Value} {w : WT} {s : Nat → Nat} {H I : Nat → Nat → Nat} {c m : Nat} {Am : AH} {t0 : Int32} (h1 : hw = true → MC w s Am ∧ MH w s H I c m Am) (h0 : hw = false → NW w s c m) : Ct yX13_snap mX13_snap 2 (dW hw) (GW hw r) [.ref 100, .int t0] Am (KMa Am (tSnap s t0) (.int (nI 0)) (.int (nI 1)) (fun A' => MC w (snS s (cl t0)) A' ∧ MH w (snS s (cl t0)) (pushH s H) I (kpC c) m A')) := by
  cases hw with
  | true => exact c_X13_snap (h1 rfl).1 (h1 rfl).2 (fun h A' hQ ht hv => Or.inl ⟨h, hQ, ht, hv, rfl⟩) (fun h A' g1 g2 g3 ht hv => Or.inr ⟨h, ⟨g1, g2⟩, g3, ht, hv, rfl⟩)
  | false =>
    have hT := an_snap (t0 := t0) (h0 rfl)
    exact n_X13_snap (fun A' hQ ht hv => Or.inl ⟨by rw [hT]; decide, hQ, by rw [hT]; exact ht, hv, rfl⟩)
theorem ac_darn {w : WT} {s : Nat → Nat} {H I : Nat → Nat → Nat} {nx c m : Nat} {Ac : AH} {t0 : Int32} (hC : CI w s Ac) (hP : RepP H I nx c m Ac) (hH : (∀ i, i < c → okS (H i)) ∧ ∀ i, i < m → okS (I i)) : Ct yX11_darn mX11_darn 3 dC gC [.ref 0, .int t0] Ac (KCa Ac (tDarn s t0) (.int (-1)) (.int (nI (stg (dnS s (cl t0)) (cl t0) 0))) (fun A' => CI w (dnS s (cl t0)) A' ∧ RepP (pushH s H) I ((nx + 1) % 16) (kpC c) m A')) :=
  c_X11_darn hC hP (fun h A' hQ ht => Or.inl ⟨h, hQ, ht, rfl⟩) (fun h A' g1 g2 g3 ht => Or.inr ⟨h, ⟨g1, g2⟩, g3, ht, rfl⟩)
theorem an_darn {w : WT} {s : Nat → Nat} {c m : Nat} {t0 : Int32} (h : NW w s c m) : (tDarn s t0) = 1 := by
  obtain ⟨rfl, e0, e1, rfl, rfl⟩ := h
  simp [tDarn, tX, okR_0, e1]
theorem am_darn {hw : Bool} {r : Value} {w : WT} {s : Nat → Nat} {H I : Nat → Nat → Nat} {c m : Nat} {Am : AH} {t0 : Int32} (h1 : hw = true → MC w s Am ∧ MH w s H I c m Am) (h0 : hw = false → NW w s c m) : Ct yX13_darn mX13_darn 2 (dW hw) (GW hw r) [.ref 100, .int t0] Am (KMa Am (tDarn s t0) (.int (-1)) (.int (nI (stg (dnS s (cl t0)) (cl t0) 0))) (fun A' => MC w (dnS s (cl t0)) A' ∧ MH w (dnS s (cl t0)) (pushH s H) I (kpC c) m A')) := by
  cases hw with
  | true => exact c_X13_darn (h1 rfl).1 (h1 rfl).2 (fun h A' hQ ht hv => Or.inl ⟨h, hQ, ht, hv, rfl⟩) (fun h A' g1 g2 g3 ht hv => Or.inr ⟨h, ⟨g1, g2⟩, g3, ht, hv, rfl⟩)
  | false =>
    have hT := an_darn (t0 := t0) (h0 rfl)
    exact n_X13_darn (fun A' hQ ht hv => Or.inl ⟨by rw [hT]; decide, hQ, by rw [hT]; exact ht, hv, rfl⟩)
theorem ac_spin {w : WT} {s : Nat → Nat} {H I : Nat → Nat → Nat} {nx c m : Nat} {Ac : AH} {t0 : Int32} (hC : CI w s Ac) (hP : RepP H I nx c m Ac) (hH : (∀ i, i < c → okS (H i)) ∧ ∀ i, i < m → okS (I i)) : Ct yX11_spin mX11_spin 3 dC gC [.ref 0, .int t0] Ac (KCa Ac (tSpin w s t0) (.int (-1)) (.int (nI (s 1))) (fun A' => CI w (spS w s (cl t0)) A' ∧ RepP (pushH s H) I ((nx + 1) % 16) (kpC c) m A')) :=
  c_X11_spin hC hP (fun h A' hQ ht => Or.inl ⟨h, hQ, ht, rfl⟩) (fun h A' g1 g2 g3 ht => Or.inr ⟨h, ⟨g1, g2⟩, g3, ht, rfl⟩)
theorem an_spin {w : WT} {s : Nat → Nat} {c m : Nat} {t0 : Int32} (h : NW w s c m) : (tSpin w s t0) = 1 := by
  obtain ⟨rfl, e0, e1, rfl, rfl⟩ := h
  simp [tSpin, tX, okR_0, emptyW]
theorem am_spin {hw : Bool} {r : Value} {w : WT} {s : Nat → Nat} {H I : Nat → Nat → Nat} {c m : Nat} {Am : AH} {t0 : Int32} (h1 : hw = true → MC w s Am ∧ MH w s H I c m Am) (h0 : hw = false → NW w s c m) : Ct yX13_spin mX13_spin 1 (dW hw) (GW hw r) [.ref 100, .int t0] Am (KMa Am (tSpin w s t0) (.int (-1)) (.int (nI (s 1))) (fun A' => MC w (spS w s (cl t0)) A' ∧ MH w (spS w s (cl t0)) (pushH s H) I (kpC c) m A')) := by
  cases hw with
  | true => exact c_X13_spin (h1 rfl).1 (h1 rfl).2 (fun h A' hQ ht hv => Or.inl ⟨h, hQ, ht, hv, rfl⟩) (fun h A' g1 g2 g3 ht hv => Or.inr ⟨h, ⟨g1, g2⟩, g3, ht, hv, rfl⟩)
  | false =>
    have hT := an_spin (t0 := t0) (h0 rfl)
    exact n_X13_spin (fun A' hQ ht hv => Or.inl ⟨by rw [hT]; decide, hQ, by rw [hT]; exact ht, hv, rfl⟩)
theorem ac_undo {w : WT} {s : Nat → Nat} {H I : Nat → Nat → Nat} {nx c m : Nat} {Ac : AH} (hC : CI w s Ac) (hP : RepP H I nx c m Ac) (hH : (∀ i, i < c → okS (H i)) ∧ ∀ i, i < m → okS (I i)) : Ct yX11_undo mX11_undo 3 dC gC [.ref 0] Ac (KCa Ac (tUndo c) (.int (nI 0)) (.int (nI 1)) (fun A' => CI w (H 0) A' ∧ RepP (fun i => H (i + 1)) I ((nx + 15) % 16) (c - 1) m A')) :=
  c_X11_undo hC hP hH.1 (fun h A' hQ ht => Or.inl ⟨h, hQ, ht, rfl⟩) (fun h A' g1 g2 g3 ht => Or.inr ⟨h, ⟨g1, g2⟩, g3, ht, rfl⟩)
theorem an_undo {w : WT} {s : Nat → Nat} {c m : Nat} (h : NW w s c m) : (tUndo c) = 6 := by
  obtain ⟨rfl, e0, e1, rfl, rfl⟩ := h
  rfl
theorem am_undo {hw : Bool} {r : Value} {w : WT} {s : Nat → Nat} {H I : Nat → Nat → Nat} {c m : Nat} {Am : AH} (h1 : hw = true → MC w s Am ∧ MH w s H I c m Am) (h0 : hw = false → NW w s c m) : Ct yX13_undo mX13_undo 2 (dW hw) (GW hw r) [.ref 100] Am (KMa Am (tUndo c) (.int (nI 0)) (.int (nI 1)) (fun A' => MC w (H 0) A' ∧ MH w (H 0) (fun i => H (i + 1)) I (c - 1) m A')) := by
  cases hw with
  | true => exact c_X13_undo (h1 rfl).1 (h1 rfl).2 (fun h A' hQ ht hv => Or.inl ⟨h, hQ, ht, hv, rfl⟩) (fun h A' g1 g2 g3 ht hv => Or.inr ⟨h, ⟨g1, g2⟩, g3, ht, hv, rfl⟩)
  | false =>
    have hT := an_undo (h0 rfl)
    exact n_X13_undo (fun A' hQ ht hv => Or.inl ⟨by rw [hT]; decide, hQ, by rw [hT]; exact ht, hv, rfl⟩)
theorem ac_image {w : WT} {s : Nat → Nat} {H I : Nat → Nat → Nat} {nx c m : Nat} {Ac : AH} (hC : CI w s Ac) (hP : RepP H I nx c m Ac) (hH : (∀ i, i < c → okS (H i)) ∧ ∀ i, i < m → okS (I i)) : Ct yX11_image mX11_image 3 dC gC [.ref 0] Ac (KCa Ac (tImage w m) (.int (-1)) (.int (nI m)) (fun A' => CI w s A' ∧ RepP H (fun i => if i = m then s else I i) nx c (m + 1) A')) :=
  c_X11_image hC hP (fun h A' hQ ht => Or.inl ⟨h, hQ, ht, rfl⟩) (fun h A' g1 g2 g3 ht => Or.inr ⟨h, ⟨g1, g2⟩, g3, ht, rfl⟩)
theorem an_image {w : WT} {s : Nat → Nat} {c m : Nat} (h : NW w s c m) : (tImage w m) = 1 := by
  obtain ⟨rfl, e0, e1, rfl, rfl⟩ := h
  simp [tImage, tX, okW1, emptyW]
theorem am_image {hw : Bool} {r : Value} {w : WT} {s : Nat → Nat} {H I : Nat → Nat → Nat} {c m : Nat} {Am : AH} (h1 : hw = true → MC w s Am ∧ MH w s H I c m Am) (h0 : hw = false → NW w s c m) : Ct yX13_image mX13_image 1 (dW hw) (GW hw r) [.ref 100] Am (KMa Am (tImage w m) (.int (-1)) (.int (nI m)) (fun A' => MC w s A' ∧ MH w s H (fun i => if i = m then s else I i) c (m + 1) A')) := by
  cases hw with
  | true => exact c_X13_image (h1 rfl).1 (h1 rfl).2 (fun h A' hQ ht hv => Or.inl ⟨h, hQ, ht, hv, rfl⟩) (fun h A' g1 g2 g3 ht hv => Or.inr ⟨h, ⟨g1, g2⟩, g3, ht, hv, rfl⟩)
  | false =>
    have hT := an_image (h0 rfl)
    exact n_X13_image (fun A' hQ ht hv => Or.inl ⟨by rw [hT]; decide, hQ, by rw [hT]; exact ht, hv, rfl⟩)
theorem ac_back {w : WT} {s : Nat → Nat} {H I : Nat → Nat → Nat} {nx c m : Nat} {Ac : AH} {t0 : Int32} (hC : CI w s Ac) (hP : RepP H I nx c m Ac) (hH : (∀ i, i < c → okS (H i)) ∧ ∀ i, i < m → okS (I i)) : Ct yX11_back mX11_back 3 dC gC [.ref 0, .int t0] Ac (KCa Ac (tBack m t0) (.int (nI 0)) (.int (nI 1)) (fun A' => CI w (I (cl t0)) A' ∧ RepP H I nx 0 m A')) :=
  c_X11_back hC hP hH.2 (fun h A' hQ ht => Or.inl ⟨h, hQ, ht, rfl⟩) (fun h A' g1 g2 g3 ht => Or.inr ⟨h, ⟨g1, g2⟩, g3, ht, rfl⟩)
theorem an_back {w : WT} {s : Nat → Nat} {c m : Nat} {t0 : Int32} (h : NW w s c m) : (tBack m t0) = 1 := by
  obtain ⟨rfl, e0, e1, rfl, rfl⟩ := h
  simp [tBack, t1, okR_0]
theorem am_back {hw : Bool} {r : Value} {w : WT} {s : Nat → Nat} {H I : Nat → Nat → Nat} {c m : Nat} {Am : AH} {t0 : Int32} (h1 : hw = true → MC w s Am ∧ MH w s H I c m Am) (h0 : hw = false → NW w s c m) : Ct yX13_back mX13_back 2 (dW hw) (GW hw r) [.ref 100, .int t0] Am (KMa Am (tBack m t0) (.int (nI 0)) (.int (nI 1)) (fun A' => MC w (I (cl t0)) A' ∧ MH w (I (cl t0)) H I 0 m A')) := by
  cases hw with
  | true => exact c_X13_back (h1 rfl).1 (h1 rfl).2 (fun h A' hQ ht hv => Or.inl ⟨h, hQ, ht, hv, rfl⟩) (fun h A' g1 g2 g3 ht hv => Or.inr ⟨h, ⟨g1, g2⟩, g3, ht, hv, rfl⟩)
  | false =>
    have hT := an_back (t0 := t0) (h0 rfl)
    exact n_X13_back (fun A' hQ ht hv => Or.inl ⟨by rw [hT]; decide, hQ, by rw [hT]; exact ht, hv, rfl⟩)
theorem n4_act {b : Bool} {P : Prop} {dP : Decidable P} {k : Nat} (hk : k ≠ 4 ∧ k < 10) : tX b (@ite Nat P dP 0 k) ≠ 4 ∧ tX b (@ite Nat P dP 0 k) < 10 := n4_tX (by split; decide; exact hk)
/-- what only the reference's first field tells -/
theorem JT.m0 {w : WT} {s : Nat → Nat} {H I : Nat → Nat → Nat} {nx c m f : Nat} {pl : Int32} {n : Nat} {tp : Nat → Int32} {t : Nat} {hw : Bool} {Ac Am : AH} {x : Int32} (h : JT w s H I nx c m f pl n tp t hw Ac Am) : JT w s H I nx c m f pl n tp t hw Ac (upd2 Am.1 100 0 x, Am.2) := by
  obtain ⟨hC, hT, hB, h10, g1, g0⟩ := h
  have hQ : QM Am (upd2 Am.1 100 0 x, Am.2) := QM.rf.f (by decide) _
  refine ⟨hC, ⟨?_, ?_, ?_, ?_, ?_⟩, hB, h10, fun e => ⟨(g1 e).1.q hQ, (g1 e).2.q hQ⟩, g0⟩
  · dsimp only; rw [upd2_off (by decide)]; exact hT.1
  · intro i hi; dsimp only; rw [upd2_ne (by decide)]; exact hT.2.1 i hi
  · dsimp only; rw [upd2_off (by decide)]; exact hT.2.2.1
  · dsimp only; rw [upd2_off (by decide)]; exact hT.2.2.2.1
  · dsimp only; rw [upd2_off (by decide)]; exact hT.2.2.2.2
/-- the reference after a question that tells nothing new -/
theorem JT.ql {w : WT} {s : Nat → Nat} {H I : Nat → Nat → Nat} {nx c m f : Nat} {pl : Int32} {n : Nat} {tp : Nat → Int32} {t : Nat} {hw : Bool} {Ac Am Am' : AH} (h : JT w s H I nx c m f pl n tp t hw Ac Am) (hQ : QM Am Am') (h1 : Am'.1 100 1 = Am.1 100 1) (h2 : Am'.1 100 2 = Am.1 100 2) : JS hw Ac Am' := by
  obtain ⟨hC, hT, hB, h10, g1, g0⟩ := h
  refine ⟨w, s, H, I, nx, c, m, f, pl, n, tp, t, hC, ⟨?_, ?_, ?_, ?_, ?_⟩, hB, h10, fun e => ⟨(g1 e).1.q hQ, (g1 e).2.q hQ⟩, g0⟩
  · rw [hQ.2 6 (by decide)]; exact hT.1
  · intro i hi; rw [(hQ.1 101 (by decide)).1]; exact hT.2.1 i hi
  · rw [hQ.2 12 (by decide)]; exact hT.2.2.1
  · rw [h1]; exact hT.2.2.2.1
  · rw [h2]; exact hT.2.2.2.2
theorem sz_0 {s : Nat → Nat} (h0 : s 0 = 0) (h1 : s 1 = 0) (n : Nat) (x : Int32) : rSize emptyW s 0 0 n x = nSize n x := by
  rw [← qSize_r]
  unfold qSize nSize
  split
  · rfl
  · split
    · next hx =>
      obtain ⟨k, hk, rfl⟩ := nI_of (Int32.not_lt.mpr hx.1)
      have hk11 : k ≤ 11 := (nI_leI hk (by decide)).mp hx.2
      unfold rSize
      simp only [h0, h1, tbz, emptyW, Nat.lt_irrefl, if_false]
      rcases k with _ | _ | _ | _ | _ | _ | _ | _ | _ | _ | _ | _ | k
      all_goals first | rfl | omega
    · rfl
def KE (A : AH) (v : Value) : Option Value → AH → Prop := fun o A' => A' = A ∧ o = some v
def KZ (A : AH) (v : Value) : Option Value → AH → Prop := fun o A' => A' = (upd2 A.1 100 0 (nI 0), A.2) ∧ o = some v
theorem ec_size {w : WT} {s : Nat → Nat} {H I : Nat → Nat → Nat} {nx c m f : Nat} {pl : Int32} {n : Nat} {tp : Nat → Int32} {t : Nat} {hw : Bool} {Ac Am : AH} {x : Int32} (h : JT w s H I nx c m f pl n tp t hw Ac Am) : Ct yX11_size mX11_size 2 dC gC [.ref 0, .int x] Ac (KE Ac (.int (rSize w s c m n x))) := c_X11_size h.1.1 h.1.2.1 h.1.2.2.1 ⟨rfl, rfl⟩
theorem em_size {w : WT} {s : Nat → Nat} {H I : Nat → Nat → Nat} {nx c m f : Nat} {pl : Int32} {n : Nat} {tp : Nat → Int32} {t : Nat} {hw : Bool} {Ac Am : AH} {r : Value} {x : Int32} (h : JT w s H I nx c m f pl n tp t hw Ac Am) : Ct yX13_size mX13_size 1 (dW hw) (GW hw r) [.ref 100, .int x] Am (KZ Am (.int (rSize w s c m n x))) := by
  cases hw with
  | true => exact c_X13_size (h.2.2.2.2.1 rfl).1 (h.2.2.2.2.1 rfl).2 h.2.1.1 ⟨rfl, by rw [qSize_r]⟩
  | false =>
    obtain ⟨rfl, e0, e1, rfl, rfl⟩ := h.2.2.2.2.2 rfl
    exact n_X13_size h.2.1.1 ⟨rfl, by rw [sz_0 e0 e1]⟩
theorem ec_trouble {w : WT} {s : Nat → Nat} {H I : Nat → Nat → Nat} {nx c m f : Nat} {pl : Int32} {n : Nat} {tp : Nat → Int32} {t : Nat} {hw : Bool} {Ac Am : AH} (h : JT w s H I nx c m f pl n tp t hw Ac Am) : Ct yX11_trouble mX11_trouble 0 dC gC [.ref 0] Ac (KE Ac (.int (nI t))) := c_X11_trouble h.1.2.2.2.2 ⟨rfl, rfl⟩
theorem em_trouble {w : WT} {s : Nat → Nat} {H I : Nat → Nat → Nat} {nx c m f : Nat} {pl : Int32} {n : Nat} {tp : Nat → Int32} {t : Nat} {hw : Bool} {Ac Am : AH} {r : Value} (h : JT w s H I nx c m f pl n tp t hw Ac Am) : Ct yX13_trouble mX13_trouble 0 (dW hw) (GW hw r) [.ref 100] Am (KZ Am (.int (nI t))) := by
  cases hw with
  | true => exact c_X13_trouble h.2.1.2.2.2.1 ⟨rfl, rfl⟩
  | false =>
    exact c_X13_troubleN h.2.1.2.2.2.1 ⟨rfl, rfl⟩
theorem ec_fault {w : WT} {s : Nat → Nat} {H I : Nat → Nat → Nat} {nx c m f : Nat} {pl : Int32} {n : Nat} {tp : Nat → Int32} {t : Nat} {hw : Bool} {Ac Am : AH} (h : JT w s H I nx c m f pl n tp t hw Ac Am) : Ct yX11_fault mX11_fault 0 dC gC [.ref 0] Ac (KE Ac (.int (nI f))) := c_X11_fault h.1.2.2.1 ⟨rfl, rfl⟩
theorem em_fault {w : WT} {s : Nat → Nat} {H I : Nat → Nat → Nat} {nx c m f : Nat} {pl : Int32} {n : Nat} {tp : Nat → Int32} {t : Nat} {hw : Bool} {Ac Am : AH} {r : Value} (h : JT w s H I nx c m f pl n tp t hw Ac Am) : Ct yX13_fault mX13_fault 0 (dW hw) (GW hw r) [.ref 100] Am (KZ Am (.int (nI f))) := by
  cases hw with
  | true => exact c_X13_fault h.2.1.2.2.1 ⟨rfl, rfl⟩
  | false =>
    exact c_X13_faultN h.2.1.2.2.1 ⟨rfl, rfl⟩
theorem ec_where {w : WT} {s : Nat → Nat} {H I : Nat → Nat → Nat} {nx c m f : Nat} {pl : Int32} {n : Nat} {tp : Nat → Int32} {t : Nat} {hw : Bool} {Ac Am : AH} (h : JT w s H I nx c m f pl n tp t hw Ac Am) : Ct yX11_where mX11_where 0 dC gC [.ref 0] Ac (KE Ac (.int (if t = 4 then pl else -1))) := c_X11_where h.1.2.2.1 h.1.2.2.2.2 (by have := h.2.2.2.1; omega) ⟨rfl, rfl⟩
theorem em_where {w : WT} {s : Nat → Nat} {H I : Nat → Nat → Nat} {nx c m f : Nat} {pl : Int32} {n : Nat} {tp : Nat → Int32} {t : Nat} {hw : Bool} {Ac Am : AH} {r : Value} (h : JT w s H I nx c m f pl n tp t hw Ac Am) : Ct yX13_where mX13_where 0 (dW hw) (GW hw r) [.ref 100] Am (KZ Am (.int (if t = 4 then pl else -1))) := by
  cases hw with
  | true => exact c_X13_where h.2.1.2.2.2.2 ⟨rfl, rfl⟩
  | false =>
    exact c_X13_whereN h.2.1.2.2.2.2 ⟨rfl, rfl⟩
def KFc (A : AH) (f : Nat) (pl : Int32) (n : Nat) (tp : Nat → Int32) (a b c d e : Int32) : Option Value → AH → Prop := fun o A' => (¬ n + 20 ≤ 900 ∧ A' = A ∧ o = some (.int (-1))) ∨ (n + 20 ≤ 900 ∧ RdI f pl (n + 20) (fdT n tp a b c d e) A' ∧ OffL [7, 8] A A' ∧ o = some (.int (nI (n + 20))))
def KFm (A : AH) (n : Nat) (tp : Nat → Int32) (a b c d e : Int32) : Option Value → AH → Prop := fun o A' => (¬ n + 20 ≤ 900 ∧ A' = (upd2 A.1 100 0 (nI 0), A.2) ∧ o = some (.int (-1))) ∨ (n + 20 ≤ 900 ∧ (A'.1 100 6 = nI (n + 20) ∧ (∀ j, j < n + 20 → A'.1 101 j = fdT n tp a b c d e j)) ∧ (OffL [100, 101] A A' ∧ ∀ k, k ≠ 0 → k ≠ 6 → A'.1 100 k = A.1 100 k) ∧ o = some (.int (nI (n + 20))))
theorem ec_feed {w : WT} {s : Nat → Nat} {H I : Nat → Nat → Nat} {nx c m f : Nat} {pl : Int32} {n : Nat} {tp : Nat → Int32} {t : Nat} {hw : Bool} {Ac Am : AH} {a b c' d e : Int32} (h : JT w s H I nx c m f pl n tp t hw Ac Am) : Ct yX11_feed mX11_feed 1 dC gC [.ref 0, .int a, .int b, .int c', .int d, .int e] Ac (KFc Ac f pl n tp a b c' d e) :=
  c_X11_feed h.1.2.2.1 (fun h0 => Or.inl ⟨h0, rfl, rfl⟩) (fun h0 A' g1 g2 => Or.inr ⟨h0, g1, g2, rfl⟩)
theorem em_feed {w : WT} {s : Nat → Nat} {H I : Nat → Nat → Nat} {nx c m f : Nat} {pl : Int32} {n : Nat} {tp : Nat → Int32} {t : Nat} {hw : Bool} {Ac Am : AH} {r : Value} {a b c' d e : Int32} (h : JT w s H I nx c m f pl n tp t hw Ac Am) : Ct yX13_feed mX13_feed 0 (dW hw) (GW hw r) [.ref 100, .int a, .int b, .int c', .int d, .int e] Am (KFm Am n tp a b c' d e) := by
  have h9 := h.1.2.2.1.2.2.2.1
  cases hw with
  | true => exact c_X13_feed h.2.1.1 h9 h.2.1.2.1 (fun h0 => Or.inl ⟨h0, rfl, rfl⟩) (fun h0 A' g1 g2 g3 g4 => Or.inr ⟨h0, ⟨g1, g2⟩, ⟨g3, g4⟩, rfl⟩)
  | false => exact c_X13_feedN h.2.1.1 h9 h.2.1.2.1 (fun h0 => Or.inl ⟨h0, rfl, rfl⟩) (fun h0 A' g1 g2 g3 g4 => Or.inr ⟨h0, ⟨g1, g2⟩, ⟨g3, g4⟩, rfl⟩)
theorem JT.fd {w : WT} {s : Nat → Nat} {H I : Nat → Nat → Nat} {nx c m f : Nat} {pl : Int32} {n : Nat} {tp : Nat → Int32} {t : Nat} {hw : Bool} {Ac Am Ac' Am' : AH} {a b c' d e : Int32} {o1 o2 : Option Value} (h : JT w s H I nx c m f pl n tp t hw Ac Am) (h1 : KFc Ac f pl n tp a b c' d e o1 Ac') (h2 : KFm Am n tp a b c' d e o2 Am') : JS hw Ac' Am' ∧ ∃ u, o1 = some (.int u) ∧ o2 = some (.int u) := by
  rcases h1 with ⟨e1, rfl, rfl⟩ | ⟨e1, k1, k2, rfl⟩
  · rcases h2 with ⟨-, rfl, rfl⟩ | ⟨e2, -⟩
    · exact ⟨⟨w, s, H, I, nx, c, m, f, pl, n, tp, t, h.m0⟩, _, rfl, rfl⟩
    · exact absurd e2 e1
  · rcases h2 with ⟨e2, -⟩ | ⟨-, j1, j2, rfl⟩
    · exact absurd e1 e2
    · obtain ⟨hC, hT, hB, h10, g1, g0⟩ := h
      refine ⟨⟨w, s, H, I, nx, c, m, f, pl, n + 20, fdT n tp a b c' d e, t, ⟨?_, hC.2.1.of (k2 45 (by decide)).1 (k2 46 (by decide)).1 (k2 47 (by decide)).1, k1, RepL.cong hC.2.2.2.1 (k2 56 (by decide)).1 (k2 57 (by decide)).2, by rw [(k2 0 (by decide)).1]; exact hC.2.2.2.2⟩, ⟨j1.1, j1.2, ?_, ?_, ?_⟩, fun i _ => fdT_B hB a b c' d e i, h10, fun ew => ?_, g0⟩, _, rfl, rfl⟩
      · obtain ⟨i1, i2, i3, i4, i5⟩ := hC.1
        exact ⟨i1.cong (fun y p q => (k2 y (by simp; omega)).1), i2, i3.cong (k2 44 (by decide)).1, i4, by rw [Z0, (k2 52 (by decide)).1, (k2 53 (by decide)).1]; exact i5⟩
      · rw [j2.2 12 (by decide) (by decide)]; exact hT.2.2.1
      · rw [j2.2 1 (by decide) (by decide)]; exact hT.2.2.2.1
      · rw [j2.2 2 (by decide) (by decide)]; exact hT.2.2.2.2
      · obtain ⟨q1, q2⟩ := g1 ew
        refine ⟨⟨q1.1.cong (fun y p q => (j2.1 y (by simp; omega)).1), by rw [(j2.1 102 (by decide)).1]; exact q1.2.1, q1.2.2⟩, q2.1, q2.2.1, q2.2.2.1, ?_, ?_, fun i hi => ?_, fun i hi => ?_⟩
        · rw [j2.2 20 (by decide) (by decide)]; exact q2.2.2.2.1
        · rw [j2.2 21 (by decide) (by decide)]; exact q2.2.2.2.2.1
        · unfold RwM; rw [(j2.1 104 (by decide)).1]; exact q2.2.2.2.2.2.1 i hi
        · unfold RwM; rw [(j2.1 105 (by decide)).1]; exact q2.2.2.2.2.2.2 i hi
theorem JT.wf {w : WT} {s : Nat → Nat} {H I : Nat → Nat → Nat} {nx c m f : Nat} {pl : Int32} {n : Nat} {tp : Nat → Int32} {t : Nat} {hw : Bool} {Ac Am Ac' Am' : AH} {f' pl' : Nat} (h : JT w s H I nx c m f pl n tp t hw Ac Am) (hc : Ac'.1 0 8 = nI 4) (hF : FL f' pl' Ac') (h7 : Ac'.1 7 1 = nI 0) (hO : OffL (0 :: rdL) Ac Ac') (g6 : Am'.1 100 6 = nI 0) (g12 : Am'.1 100 12 = nI f') (g1 : Am'.1 100 1 = nI 4) (g2 : Am'.1 100 2 = nI pl') (g : hw = true → MC w s Am' ∧ MH w s H I c m Am') : JS hw Ac' Am' := by
  obtain ⟨hC, hT, hB, h10, -, g0⟩ := h
  refine ⟨w, s, H, I, nx, c, m, f', nI pl', 0, tp, 4, ⟨?_, hC.2.1.of (hO 45 (by decide)).1 (hO 46 (by decide)).1 (hO 47 (by decide)).1, ⟨hF.1, hF.2, h7, by decide, fun i hi => absurd hi (Nat.not_lt_zero i)⟩, RepL.cong hC.2.2.2.1 (hO 56 (by decide)).1 (hO 57 (by decide)).2, hc⟩, ⟨g6, fun i hi => absurd hi (Nat.not_lt_zero i), g12, g1, by rw [g2, if_pos rfl]⟩, fun i hi => absurd hi (Nat.not_lt_zero i), by decide, g, g0⟩
  obtain ⟨i1, i2, i3, i4, i5⟩ := hC.1
  exact ⟨i1.cong (fun y p q => (hO y (by simp; omega)).1), i2, i3.cong (hO 44 (by decide)).1, i4, by rw [Z0, (hO 52 (by decide)).1, (hO 53 (by decide)).1]; exact i5⟩
