def hasB (b t : Int32) : Bool := decide (((b >>> (t &&& 31)) &&& 1) = 1)
set_option maxRecDepth 4000 in
theorem c_X11_has {K : Option Value → AH → Prop} {dm : Nat × Nat} {G : Nat → Nat → Value} {A : AH} {b t : Int32} (h : K (some (.int (b2i (hasB b t)))) A) : Ct yX11_has mX11_has 0 dm G [.int b, .int t] A K := by
  refine Ct.of [some (.int b), some (.int t)] rfl rfl rfl (Nat.le_of_ble_eq_true rfl) ?_
  refine w_iload_n 1 dX11_has_0 rfl rfl ?_
  refine w_iload_n 2 dX11_has_1 rfl rfl ?_
  refine w_ishr 3 dX11_has_2 rfl ?_
  refine w_iconst 4 dX11_has_3 rfl (v := 1) rfl ?_
  refine w_iand 5 dX11_has_4 rfl ?_
  refine w_iconst 6 dX11_has_5 rfl (v := 1) rfl ?_
  refine w_icne 13 9 dX11_has_6 rfl rfl (fun c6 => ?_) (fun c6 => ?_)
  · skip
    refine w_iconst 14 dX11_has_13 rfl (v := 0) rfl ?_
    refine w_zret dX11_has_14 rfl (by first | rfl | exact nb_b2i _) ?_
    simpa [hasB, b2i, *] using h
  · skip
    refine w_iconst 10 dX11_has_9 rfl (v := 1) rfl ?_
    refine w_goto 14 dX11_has_10 rfl ?_
    refine w_zret dX11_has_14 rfl (by first | rfl | exact nb_b2i _) ?_
    simpa [hasB, b2i, *] using h

set_option maxRecDepth 4000 in
theorem c_X13_bit {K : Option Value → AH → Prop} {dm : Nat × Nat} {G : Nat → Nat → Value} {A : AH} {b t : Int32} (h : K (some (.int (b2i (hasB b t)))) A) : Ct yX13_bit mX13_bit 0 dm G [.int b, .int t] A K := by
  refine Ct.of [some (.int b), some (.int t)] rfl rfl rfl (Nat.le_of_ble_eq_true rfl) ?_
  refine w_iload_n 1 dX13_bit_0 rfl rfl ?_
  refine w_iload_n 2 dX13_bit_1 rfl rfl ?_
  refine w_ishr 3 dX13_bit_2 rfl ?_
  refine w_iconst 4 dX13_bit_3 rfl (v := 1) rfl ?_
  refine w_iand 5 dX13_bit_4 rfl ?_
  refine w_iconst 6 dX13_bit_5 rfl (v := 1) rfl ?_
  refine w_icne 13 9 dX13_bit_6 rfl rfl (fun c6 => ?_) (fun c6 => ?_)
  · skip
    refine w_iconst 14 dX13_bit_13 rfl (v := 0) rfl ?_
    refine w_zret dX13_bit_14 rfl (by first | rfl | exact nb_b2i _) ?_
    simpa [hasB, b2i, *] using h
  · skip
    refine w_iconst 10 dX13_bit_9 rfl (v := 1) rfl ?_
    refine w_goto 14 dX13_bit_10 rfl ?_
    refine w_zret dX13_bit_14 rfl (by first | rfl | exact nb_b2i _) ?_
    simpa [hasB, b2i, *] using h

set_option maxRecDepth 4000 in
theorem c_X11_firstOf {K : Option Value → AH → Prop} {dm : Nat × Nat} {G : Nat → Nat → Value} {A : AH} {a b : Int32} (h : K (some (.int (if a = 0 then b else a))) A) : Ct yX11_firstOf mX11_firstOf 0 dm G [.int a, .int b] A K := by
  refine Ct.of [some (.int a), some (.int b)] rfl rfl rfl (Nat.le_of_ble_eq_true rfl) ?_
  refine w_iload_n 1 dX11_firstOf_0 rfl rfl ?_
  refine w_ifeq 8 4 dX11_firstOf_1 rfl rfl (fun c1 => ?_) (fun c1 => ?_)
  · skip
    refine w_iload_n 9 dX11_firstOf_8 rfl rfl ?_
    refine w_iret dX11_firstOf_9 rfl ?_
    simpa [*] using h
  · skip
    refine w_iload_n 5 dX11_firstOf_4 rfl rfl ?_
    refine w_goto 9 dX11_firstOf_5 rfl ?_
    refine w_iret dX11_firstOf_9 rfl ?_
    simpa [*] using h

set_option maxRecDepth 4000 in
theorem c_X11_within {K : Option Value → AH → Prop} {dm : Nat × Nat} {G : Nat → Nat → Value} {A : AH} {v lo hi : Int32} (h : K (some (.int (if lo ≤ v ∧ v ≤ hi then 0 else 2))) A) : Ct yX11_within mX11_within 0 dm G [.int v, .int lo, .int hi] A K := by
  refine Ct.of [some (.int v), some (.int lo), some (.int hi)] rfl rfl rfl (Nat.le_of_ble_eq_true rfl) ?_
  refine w_iload_n 1 dX11_within_0 rfl rfl ?_
  refine w_iload_n 2 dX11_within_1 rfl rfl ?_
  refine w_iclt 14 5 dX11_within_2 rfl rfl (fun c2 => ?_) (fun c2 => ?_)
  · skip
    refine w_iconst 15 dX11_within_14 rfl (v := 2) rfl ?_
    refine w_iret dX11_within_15 rfl ?_
    simpa [Int32.not_lt, Int32.not_le, *] using h
  · skip
    refine w_iload_n 6 dX11_within_5 rfl rfl ?_
    refine w_iload_n 7 dX11_within_6 rfl rfl ?_
    refine w_icgt 14 10 dX11_within_7 rfl rfl (fun c7 => ?_) (fun c7 => ?_)
    · skip
      refine w_iconst 15 dX11_within_14 rfl (v := 2) rfl ?_
      refine w_iret dX11_within_15 rfl ?_
      simpa [Int32.not_lt, Int32.not_le, *] using h
    · skip
      refine w_iconst 11 dX11_within_10 rfl (v := 0) rfl ?_
      refine w_goto 15 dX11_within_11 rfl ?_
      refine w_iret dX11_within_15 rfl ?_
      simpa [Int32.not_lt, Int32.not_le, *] using h

set_option maxRecDepth 4000 in
theorem c_X13_in {K : Option Value → AH → Prop} {dm : Nat × Nat} {G : Nat → Nat → Value} {A : AH} {v lo hi : Int32} (h : K (some (.int (b2i (decide (lo ≤ v ∧ v ≤ hi))))) A) : Ct yX13_in mX13_in 0 dm G [.int v, .int lo, .int hi] A K := by
  refine Ct.of [some (.int v), some (.int lo), some (.int hi)] rfl rfl rfl (Nat.le_of_ble_eq_true rfl) ?_
  refine w_iload_n 1 dX13_in_0 rfl rfl ?_
  refine w_iload_n 2 dX13_in_1 rfl rfl ?_
  refine w_iclt 14 5 dX13_in_2 rfl rfl (fun c2 => ?_) (fun c2 => ?_)
  · skip
    refine w_iconst 15 dX13_in_14 rfl (v := 0) rfl ?_
    refine w_zret dX13_in_15 rfl (by first | rfl | exact nb_b2i _) ?_
    simpa [b2i, Int32.not_lt, Int32.not_le, *] using h
  · skip
    refine w_iload_n 6 dX13_in_5 rfl rfl ?_
    refine w_iload_n 7 dX13_in_6 rfl rfl ?_
    refine w_icgt 14 10 dX13_in_7 rfl rfl (fun c7 => ?_) (fun c7 => ?_)
    · skip
      refine w_iconst 15 dX13_in_14 rfl (v := 0) rfl ?_
      refine w_zret dX13_in_15 rfl (by first | rfl | exact nb_b2i _) ?_
      simpa [b2i, Int32.not_lt, Int32.not_le, *] using h
    · skip
      refine w_iconst 11 dX13_in_10 rfl (v := 1) rfl ?_
      refine w_goto 15 dX13_in_11 rfl ?_
      refine w_zret dX13_in_15 rfl (by first | rfl | exact nb_b2i _) ?_
      simpa [b2i, Int32.not_lt, Int32.not_le, *] using h

set_option maxRecDepth 4000 in
theorem c_X11_isWithin {K : Option Value → AH → Prop} {dm : Nat × Nat} {G : Nat → Nat → Value} {A : AH} {a b : Int32} (h : K (some (.int (b2i (decide (a &&& (b ^^^ -1) = 0))))) A) : Ct yX11_isWithin mX11_isWithin 0 dm G [.int a, .int b] A K := by
  refine Ct.of [some (.int a), some (.int b)] rfl rfl rfl (Nat.le_of_ble_eq_true rfl) ?_
  refine w_iload_n 1 dX11_isWithin_0 rfl rfl ?_
  refine w_iload_n 2 dX11_isWithin_1 rfl rfl ?_
  refine w_iconst 3 dX11_isWithin_2 rfl (v := (-1)) rfl ?_
  refine w_ixor 4 dX11_isWithin_3 rfl ?_
  refine w_iand 5 dX11_isWithin_4 rfl ?_
  refine w_ifne 12 8 dX11_isWithin_5 rfl rfl (fun c5 => ?_) (fun c5 => ?_)
  · skip
    refine w_iconst 13 dX11_isWithin_12 rfl (v := 0) rfl ?_
    refine w_zret dX11_isWithin_13 rfl (by first | rfl | exact nb_b2i _) ?_
    simpa [b2i, *] using h
  · skip
    refine w_iconst 9 dX11_isWithin_8 rfl (v := 1) rfl ?_
    refine w_goto 13 dX11_isWithin_9 rfl ?_
    refine w_zret dX11_isWithin_13 rfl (by first | rfl | exact nb_b2i _) ?_
    simpa [b2i, *] using h
