/-! ===== the words that every method carries ===== -/
def TW : List Cond := lw_tbl.filter goodWord
theorem TW_of {w : Cond} (h : w ∈ lw_tbl) (g : goodWord w = true) : w ∈ TW := List.mem_filter.mpr ⟨h, g⟩
theorem TW_at (i : Nat) {w : Cond} (h : lw_tbl[i]? = some w) (g : goodWord w = true) : w ∈ TW := TW_of (List.mem_of_getElem? h) g
theorem TW_good {big : List Cond} (hb : ∀ w ∈ TW, w ∈ big) : GoodIn big TW := fun w h => ⟨hb w h, good_of_word (List.mem_filter.mp h).2⟩
abbrev MI : Type := String × ByteArray × Nat × Option FieldType
abbrev AH : Type := (Nat → Nat → Int32) × (Nat → Nat → Int64)
abbrev classes : List vw_C := [(RX0, TX0, 9), (RX1, TX1, 2), (RX2, TX2, 3), (RX3, TX3, 4), (RX4, TX4, 5), (RX5, TX5, 7), (RX6, TX6, 2), (RX7, TX7, 1), (RX8, TX8, 2), (RX9, TX9, 8), (RX10, TX10, 8), (RX11, TX11, 9), (RX12, TX12, 32), (RX13, TX13, 32)]
def clTy : Nat → Nat → FieldType
  | 0 => tyX0
  | 1 => tyX1
  | 2 => tyX2
  | 3 => tyX3
  | 4 => tyX4
  | 5 => tyX5
  | 6 => tyX6
  | 7 => tyX7
  | 8 => tyX8
  | 9 => tyX9
  | 10 => tyX10
  | 11 => tyX11
  | 12 => tyX12
  | 13 => tyX13
  | _ => fun _ => .int
def clT : Nat → u_T
  | 0 => TX0
  | 1 => TX1
  | 2 => TX2
  | 3 => TX3
  | 4 => TX4
  | 5 => TX5
  | 6 => TX6
  | 7 => TX7
  | 8 => TX8
  | 9 => TX9
  | 10 => TX10
  | 11 => TX11
  | 12 => TX12
  | 13 => TX13
  | _ => fun _ => ("", "", "", false)
def clN : Nat → Nat
  | 0 => 9
  | 1 => 2
  | 2 => 3
  | 3 => 4
  | 4 => 5
  | 5 => 7
  | 6 => 2
  | 7 => 1
  | 8 => 2
  | 9 => 8
  | 10 => 8
  | 11 => 9
  | 12 => 32
  | 13 => 32
  | _ => 0
def clR : Nat → String
  | 0 => RX0
  | 1 => RX1
  | 2 => RX2
  | 3 => RX3
  | 4 => RX4
  | 5 => RX5
  | 6 => RX6
  | 7 => RX7
  | 8 => RX8
  | 9 => RX9
  | 10 => RX10
  | 11 => RX11
  | 12 => RX12
  | 13 => RX13
  | _ => ""
theorem cl_at {ci : Nat} (h : ci < 14) : classes[ci]? = some (clR ci, clT ci, clN ci) := by
  rcases ci with _ | _ | _ | _ | _ | _ | _ | _ | _ | _ | _ | _ | _ | _ | ci
  all_goals first | rfl | omega
theorem cl_ty {ci : Nat} (h : ci < 14) : ∀ k, k < clN ci → parseFieldDescriptor (clT ci k).2.2.1 = some (clTy ci k) := by
  rcases ci with _ | _ | _ | _ | _ | _ | _ | _ | _ | _ | _ | _ | _ | _ | ci
  · exact tyX0_ok
  · exact tyX1_ok
  · exact tyX2_ok
  · exact tyX3_ok
  · exact tyX4_ok
  · exact tyX5_ok
  · exact tyX6_ok
  · exact tyX7_ok
  · exact tyX8_ok
  · exact tyX9_ok
  · exact tyX10_ok
  · exact tyX11_ok
  · exact tyX12_ok
  · exact tyX13_ok
  · omega
theorem cl_nm {ci : Nat} (h : ci < 14) : ∀ a, a < clN ci → ∀ b, b < clN ci → a ≠ b → (clT ci a).2.1 ≠ (clT ci b).2.1 := by
  rcases ci with _ | _ | _ | _ | _ | _ | _ | _ | _ | _ | _ | _ | _ | _ | ci
  · exact nmX0
  · exact nmX1
  · exact nmX2
  · exact nmX3
  · exact nmX4
  · exact nmX5
  · exact nmX6
  · exact nmX7
  · exact nmX8
  · exact nmX9
  · exact nmX10
  · exact nmX11
  · exact nmX12
  · exact nmX13
  · omega
