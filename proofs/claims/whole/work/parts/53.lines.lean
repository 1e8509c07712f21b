/-! ===== the reader: lines ===== -/
theorem nNum_add {nm : NT} {c j k c' j' : Nat} (h : j ≠ j') : nNum (nAdd nm c j k) c' j' = nNum nm c' j' := by
  have h1 : fst1 (fun i => decide (updN nm.2.1 nm.1 c i = c') && decide (updN nm.2.2.1 nm.1 j i = j')) nm.1 = fst1 (fun i => decide (nm.2.1 i = c') && decide (nm.2.2.1 i = j')) nm.1 := fst1_cong (fun i hi => by rw [updN_ne (by omega), updN_ne (by omega)])
  show Option.map (updN nm.2.2.2 nm.1 k) (match fst1 (fun i => decide (updN nm.2.1 nm.1 c i = c') && decide (updN nm.2.2.1 nm.1 j i = j')) nm.1 with
    | some i => some i
    | none => if (decide (updN nm.2.1 nm.1 c nm.1 = c') && decide (updN nm.2.2.1 nm.1 j nm.1 = j')) = true then some nm.1 else none) = Option.map nm.2.2.2 (fst1 (fun i => decide (nm.2.1 i = c') && decide (nm.2.2.1 i = j')) nm.1)
  rw [h1]
  cases q : fst1 (fun i => decide (nm.2.1 i = c') && decide (nm.2.2.1 i = j')) nm.1 with
  | none => simp [updN_at, h]
  | some i =>
    have := (fst1_lt q).1
    simp [updN_ne (show i ≠ nm.1 by omega)]
theorem sNm_add {g : Nat → Nat} {e : Nat} {nm : NT} {c k : Nat} {x : Nat × List Nat} : sNm g e (nAdd nm c 2 k) 1 x = sNm g e nm 1 x := by
  unfold sNm
  rw [nNum_add (by decide)]
set_option maxRecDepth 4000 in
theorem c_X5_readBehind {K : Option Value → AH → Prop} {A0 A : AH} {tp : Nat → Int32} {e p st j : Nat} {w : WT} {nm : NT} (hO : OffL rdL A0 A) (hR : RS tp e p st [] w nm A) (hP : PI w nm) (hj : j < 8) (hm : w.1 j < roomN j) (hf : ∀ f pl, lineB (gB tp) e w nm j p = .inl (f, pl) → ∀ A', FL f pl A' → OffL rdL A0 A' → K (some (.int (b2i false))) A') (hs : ∀ p' row', lineB (gB tp) e w nm j p = .inr (p', row') → ∀ st' A', RS tp e p' st' row' w (addN (gB tp) e w nm j p) A' → OffL rdL A0 A' → K (some (.int (b2i true))) A') : Ct yX5_readBehind mX5_readBehind 7 dC gC [.ref 1, .int (nI j)] A K := by
  refine Ct.of [some (.ref 1), some (.int (nI j))] rfl rfl rfl (Nat.le_of_ble_eq_true rfl) ?_
  have hr := hP.rooms
  refine w_iload_n 1 dX5_readBehind_0 rfl rfl ?_
  rcases j with _ | _ | _ | _ | _ | _ | _ | _ | j
  rotate_left 8
  · omega
  · skip
    skip
    refine w_tabIn 44 dX5_readBehind_1 (by decide) (by decide) rfl rfl ?_
    refine w_aload_n 45 dX5_readBehind_44 rfl rfl ?_
    refine w_ldcS 47 dX5_readBehind_45 rfl srX5_112 ?_
    rw [show addN (gB tp) e w nm 0 p = nm from if_neg (by decide)] at hs
    refine w_inv1 50 dX5_readBehind_47 rfl mlX5_114 rfl rfl (d' := 5) (by decide) (Nat.le_of_ble_eq_true rfl) (c_X5_takeWord hO hR (by decide) (fun f47 l47 p47 A47 F47 O47 => ?_) (fun p47 A47 R47 O47 => ?_))
    · skip
      refine w_ifeqB 86 53 dX5_readBehind_50 rfl rfl (fun _ => ?_) (fun cc => by cases cc)
      refine w_iconst 87 dX5_readBehind_86 rfl (v := nI 0) rfl ?_
      refine wr_z dX5_readBehind_87 rfl (by first | rfl | exact nb_b2i _) ?_
      exact kq (hf f47 l47 (by simp only [lineB, bindP, sNmC, badC, Bool.false_eq_true, Bool.true_or, Bool.false_or, Bool.or_false, Bool.or_true, reduceIte, p47]) A47 F47 O47) rfl
    · skip
      refine w_ifeqB 86 53 dX5_readBehind_50 rfl rfl (fun cc => by cases cc) (fun _ => ?_)
      refine w_aload_n 54 dX5_readBehind_53 rfl rfl ?_
      refine w_iconst 55 dX5_readBehind_54 rfl (v := nI 0) rfl ?_
      refine w_bipush 57 dX5_readBehind_55 rfl (v := nI 100) rfl ?_
      refine w_inv2 60 dX5_readBehind_57 rfl mlX5_117 rfl rfl (d' := 2) (by decide) (Nat.le_of_ble_eq_true rfl) (c_X5_takeWhole O47 R47 (by decide) (by decide) (by simp) (fun f57 l57 p57 A57 F57 O57 => ?_) (fun v57 p57 b57 A57 R57 O57 => ?_))
      · skip
        refine w_ifeqB 86 63 dX5_readBehind_60 rfl rfl (fun _ => ?_) (fun cc => by cases cc)
        refine w_iconst 87 dX5_readBehind_86 rfl (v := nI 0) rfl ?_
        refine wr_z dX5_readBehind_87 rfl (by first | rfl | exact nb_b2i _) ?_
        exact kq (hf f57 l57 (by simp only [lineB, bindP, sNmC, badC, Bool.false_eq_true, Bool.true_or, Bool.false_or, Bool.or_false, Bool.or_true, reduceIte, p47, p57]) A57 F57 O57) rfl
      · skip
        refine w_ifeqB 86 63 dX5_readBehind_60 rfl rfl (fun cc => by cases cc) (fun _ => ?_)
        refine w_aload_n 64 dX5_readBehind_63 rfl rfl ?_
        refine w_ldcS 66 dX5_readBehind_64 rfl srX5_121 ?_
        refine w_inv1 69 dX5_readBehind_66 rfl mlX5_114 rfl rfl (d' := 5) (by decide) (Nat.le_of_ble_eq_true rfl) (c_X5_takeWord O57 R57 (by decide) (fun f66 l66 p66 A66 F66 O66 => ?_) (fun p66 A66 R66 O66 => ?_))
        · skip
          refine w_ifeqB 86 72 dX5_readBehind_69 rfl rfl (fun _ => ?_) (fun cc => by cases cc)
          refine w_iconst 87 dX5_readBehind_86 rfl (v := nI 0) rfl ?_
          refine wr_z dX5_readBehind_87 rfl (by first | rfl | exact nb_b2i _) ?_
          exact kq (hf f66 l66 (by simp only [lineB, bindP, sNmC, badC, Bool.false_eq_true, Bool.true_or, Bool.false_or, Bool.or_false, Bool.or_true, reduceIte, p47, p57, p66]) A66 F66 O66) rfl
        · skip
          refine w_ifeqB 86 72 dX5_readBehind_69 rfl rfl (fun cc => by cases cc) (fun _ => ?_)
          refine w_aload_n 73 dX5_readBehind_72 rfl rfl ?_
          refine w_iconst 74 dX5_readBehind_73 rfl (v := nI 0) rfl ?_
          refine w_bipush 76 dX5_readBehind_74 rfl (v := nI 100) rfl ?_
          refine w_inv2 79 dX5_readBehind_76 rfl mlX5_117 rfl rfl (d' := 2) (by decide) (Nat.le_of_ble_eq_true rfl) (c_X5_takeWhole O66 R66 (by decide) (by decide) (by simp) (fun f76 l76 p76 A76 F76 O76 => ?_) (fun v76 p76 b76 A76 R76 O76 => ?_))
          · skip
            refine w_ifeqB 86 82 dX5_readBehind_79 rfl rfl (fun _ => ?_) (fun cc => by cases cc)
            refine w_iconst 87 dX5_readBehind_86 rfl (v := nI 0) rfl ?_
            refine wr_z dX5_readBehind_87 rfl (by first | rfl | exact nb_b2i _) ?_
            exact kq (hf f76 l76 (by simp only [lineB, bindP, sNmC, badC, Bool.false_eq_true, Bool.true_or, Bool.false_or, Bool.or_false, Bool.or_true, reduceIte, p47, p57, p66, p76]) A76 F76 O76) rfl
          · skip
            refine w_ifeqB 86 82 dX5_readBehind_79 rfl rfl (fun cc => by cases cc) (fun _ => ?_)
            refine w_iconst 83 dX5_readBehind_82 rfl (v := nI 1) rfl ?_
            refine w_goto 87 dX5_readBehind_83 rfl ?_
            refine wr_z dX5_readBehind_87 rfl (by first | rfl | exact nb_b2i _) ?_
            exact kq (hs _ _ (by simp only [lineB, bindP, sNmC, badC, Bool.false_eq_true, Bool.true_or, Bool.false_or, Bool.or_false, Bool.or_true, reduceIte, p47, p57, p66, p76]) _ A76 R76 O76) rfl
  · skip
    skip
    refine w_tabIn 88 dX5_readBehind_1 (by decide) (by decide) rfl rfl ?_
    refine w_aload_n 89 dX5_readBehind_88 rfl rfl ?_
    refine w_iconst 90 dX5_readBehind_89 rfl (v := nI 1) rfl ?_
    rw [show addN (gB tp) e w nm 1 p = nAdd nm (tkC (gB tp) e p) 1 (w.1 1) from if_pos (by decide)] at hs
    have h14 : nm.1 < 14 := by have := hP.2.1; simp only [roomN] at hm; simp at hm; omega
    simp only [roomN] at hm
    simp at hm
    refine w_inv1 93 dX5_readBehind_90 rfl mlX5_123 rfl rfl (d' := 6) (by decide) (Nat.le_of_ble_eq_true rfl) (c_X5_takeNewName hO hR (by decide) h14 (by omega) (fun f90 l90 p90 A90 F90 O90 => ?_) (fun p90 A90 R90 O90 => ?_))
    · skip
      refine wr_z dX5_readBehind_93 rfl (by first | rfl | exact nb_b2i _) ?_
      exact kq (hf f90 l90 (by simp only [lineB, bindP, sNmC, badC, Bool.false_eq_true, Bool.true_or, Bool.false_or, Bool.or_false, Bool.or_true, reduceIte, p90]) A90 F90 O90) rfl
    · skip
      refine wr_z dX5_readBehind_93 rfl (by first | rfl | exact nb_b2i _) ?_
      exact kq (hs _ _ (by simp only [lineB, bindP, sNmC, badC, Bool.false_eq_true, Bool.true_or, Bool.false_or, Bool.or_false, Bool.or_true, reduceIte, p90]) _ A90 R90 O90) rfl
  · skip
    skip
    refine w_tabIn 94 dX5_readBehind_1 (by decide) (by decide) rfl rfl ?_
    refine w_aload_n 95 dX5_readBehind_94 rfl rfl ?_
    refine w_iconst 96 dX5_readBehind_95 rfl (v := nI 2) rfl ?_
    rw [show addN (gB tp) e w nm 2 p = nAdd nm (tkC (gB tp) e p) 2 (w.1 2) from if_pos (by decide)] at hs
    have h14 : nm.1 < 14 := by have := hP.2.1; simp only [roomN] at hm; simp at hm; omega
    simp only [roomN] at hm
    simp at hm
    refine w_inv1 99 dX5_readBehind_96 rfl mlX5_123 rfl rfl (d' := 6) (by decide) (Nat.le_of_ble_eq_true rfl) (c_X5_takeNewName hO hR (by decide) h14 (by omega) (fun f96 l96 p96 A96 F96 O96 => ?_) (fun p96 A96 R96 O96 => ?_))
    · skip
      refine w_ifeqB 174 102 dX5_readBehind_99 rfl rfl (fun _ => ?_) (fun cc => by cases cc)
      refine w_iconst 175 dX5_readBehind_174 rfl (v := nI 0) rfl ?_
      refine wr_z dX5_readBehind_175 rfl (by first | rfl | exact nb_b2i _) ?_
      exact kq (hf f96 l96 (by simp only [lineB, bindP, sNmC, badC, Bool.false_eq_true, Bool.true_or, Bool.false_or, Bool.or_false, Bool.or_true, reduceIte, p96]) A96 F96 O96) rfl
    · skip
      refine w_ifeqB 174 102 dX5_readBehind_99 rfl rfl (fun cc => by cases cc) (fun _ => ?_)
      refine w_aload_n 103 dX5_readBehind_102 rfl rfl ?_
      refine w_inv0 106 dX5_readBehind_103 rfl mlX5_126 rfl rfl (d' := 5) (by decide) (Nat.le_of_ble_eq_true rfl) (c_X5_takeKind O96 R96 (by simp) (fun f103 l103 p103 A103 F103 O103 => ?_) (fun v103 p103 b103 A103 R103 O103 => ?_))
      · skip
        refine w_ifeqB 174 109 dX5_readBehind_106 rfl rfl (fun _ => ?_) (fun cc => by cases cc)
        refine w_iconst 175 dX5_readBehind_174 rfl (v := nI 0) rfl ?_
        refine wr_z dX5_readBehind_175 rfl (by first | rfl | exact nb_b2i _) ?_
        exact kq (hf f103 l103 (by simp only [lineB, bindP, sNmC, badC, Bool.false_eq_true, Bool.true_or, Bool.false_or, Bool.or_false, Bool.or_true, reduceIte, p96, p103]) A103 F103 O103) rfl
      · skip
        refine w_ifeqB 174 109 dX5_readBehind_106 rfl rfl (fun cc => by cases cc) (fun _ => ?_)
        refine w_aload_n 110 dX5_readBehind_109 rfl rfl ?_
        refine w_iconst 111 dX5_readBehind_110 rfl (v := nI 1) rfl ?_
        refine w_inv1 114 dX5_readBehind_111 rfl mlX5_129 rfl rfl (d' := 6) (by decide) (Nat.le_of_ble_eq_true rfl) (c_X5_takeName O103 R103 (by decide) (by simp) (fun f111 l111 p111 A111 F111 O111 => ?_) (fun v111 p111 b111 q111 A111 R111 O111 => ?_))
        · skip
          rw [sNm_add] at p111
          refine w_ifeqB 174 117 dX5_readBehind_114 rfl rfl (fun _ => ?_) (fun cc => by cases cc)
          refine w_iconst 175 dX5_readBehind_174 rfl (v := nI 0) rfl ?_
          refine wr_z dX5_readBehind_175 rfl (by first | rfl | exact nb_b2i _) ?_
          exact kq (hf f111 l111 (by simp only [lineB, bindP, sNmC, badC, Bool.false_eq_true, Bool.true_or, Bool.false_or, Bool.or_false, Bool.or_true, reduceIte, p96, p103, p111]) A111 F111 O111) rfl
        · skip
          rw [sNm_add] at p111
          refine w_ifeqB 174 117 dX5_readBehind_114 rfl rfl (fun cc => by cases cc) (fun _ => ?_)
          refine w_aload_n 118 dX5_readBehind_117 rfl rfl ?_
          refine w_iconst 119 dX5_readBehind_118 rfl (v := nI 1) rfl ?_
          refine w_inv1 122 dX5_readBehind_119 rfl mlX5_129 rfl rfl (d' := 6) (by decide) (Nat.le_of_ble_eq_true rfl) (c_X5_takeName O111 R111 (by decide) (by simp) (fun f119 l119 p119 A119 F119 O119 => ?_) (fun v119 p119 b119 q119 A119 R119 O119 => ?_))
          · skip
            rw [sNm_add] at p119
            refine w_ifeqB 174 125 dX5_readBehind_122 rfl rfl (fun _ => ?_) (fun cc => by cases cc)
            refine w_iconst 175 dX5_readBehind_174 rfl (v := nI 0) rfl ?_
            refine wr_z dX5_readBehind_175 rfl (by first | rfl | exact nb_b2i _) ?_
            exact kq (hf f119 l119 (by simp only [lineB, bindP, sNmC, badC, Bool.false_eq_true, Bool.true_or, Bool.false_or, Bool.or_false, Bool.or_true, reduceIte, p96, p103, p111, p119]) A119 F119 O119) rfl
          · skip
            rw [sNm_add] at p119
            refine w_ifeqB 174 125 dX5_readBehind_122 rfl rfl (fun cc => by cases cc) (fun _ => ?_)
            refine w_aload_n 126 dX5_readBehind_125 rfl rfl ?_
            refine w_inv0 129 dX5_readBehind_126 rfl mlX5_132 rfl rfl (d' := 1) (by decide) (Nat.le_of_ble_eq_true rfl) (c_X5_areUnlike O119 R119 (by simp) (fun p126 A126 F126 O126 => ?_) (fun p126 => ?_))
            · skip
              refine w_ifeqB 174 132 dX5_readBehind_129 rfl rfl (fun _ => ?_) (fun cc => by cases cc)
              refine w_iconst 175 dX5_readBehind_174 rfl (v := nI 0) rfl ?_
              refine wr_z dX5_readBehind_175 rfl (by first | rfl | exact nb_b2i _) ?_
              exact kq (hf _ _ (by simp only [lineB, bindP, sNmC, badC, Bool.false_eq_true, Bool.true_or, Bool.false_or, Bool.or_false, Bool.or_true, reduceIte, p96, p103, p111, p119, p126]) A126 F126 O126) rfl
            · skip
              refine w_ifeqB 174 132 dX5_readBehind_129 rfl rfl (fun cc => by cases cc) (fun _ => ?_)
              refine w_aload_n 133 dX5_readBehind_132 rfl rfl ?_
              refine w_ldcS 135 dX5_readBehind_133 rfl srX5_135 ?_
              refine w_inv1 138 dX5_readBehind_135 rfl mlX5_114 rfl rfl (d' := 5) (by decide) (Nat.le_of_ble_eq_true rfl) (c_X5_takeWord O119 R119 (by decide) (fun f135 l135 p135 A135 F135 O135 => ?_) (fun p135 A135 R135 O135 => ?_))
              · skip
                refine w_ifeqB 174 141 dX5_readBehind_138 rfl rfl (fun _ => ?_) (fun cc => by cases cc)
                refine w_iconst 175 dX5_readBehind_174 rfl (v := nI 0) rfl ?_
                refine wr_z dX5_readBehind_175 rfl (by first | rfl | exact nb_b2i _) ?_
                exact kq (hf f135 l135 (by simp only [lineB, bindP, sNmC, badC, Bool.false_eq_true, Bool.true_or, Bool.false_or, Bool.or_false, Bool.or_true, reduceIte, p96, p103, p111, p119, p126, p135]) A135 F135 O135) rfl
              · skip
                refine w_ifeqB 174 141 dX5_readBehind_138 rfl rfl (fun cc => by cases cc) (fun _ => ?_)
                refine w_aload_n 142 dX5_readBehind_141 rfl rfl ?_
                refine w_iconst 143 dX5_readBehind_142 rfl (v := nI 1) rfl ?_
                refine w_bipush 145 dX5_readBehind_143 rfl (v := nI 99) rfl ?_
                refine w_inv2 148 dX5_readBehind_145 rfl mlX5_117 rfl rfl (d' := 2) (by decide) (Nat.le_of_ble_eq_true rfl) (c_X5_takeWhole O135 R135 (by decide) (by decide) (by simp) (fun f145 l145 p145 A145 F145 O145 => ?_) (fun v145 p145 b145 A145 R145 O145 => ?_))
                · skip
                  refine w_ifeqB 174 151 dX5_readBehind_148 rfl rfl (fun _ => ?_) (fun cc => by cases cc)
                  refine w_iconst 175 dX5_readBehind_174 rfl (v := nI 0) rfl ?_
                  refine wr_z dX5_readBehind_175 rfl (by first | rfl | exact nb_b2i _) ?_
                  exact kq (hf f145 l145 (by simp only [lineB, bindP, sNmC, badC, Bool.false_eq_true, Bool.true_or, Bool.false_or, Bool.or_false, Bool.or_true, reduceIte, p96, p103, p111, p119, p126, p135, p145]) A145 F145 O145) rfl
                · skip
                  refine w_ifeqB 174 151 dX5_readBehind_148 rfl rfl (fun cc => by cases cc) (fun _ => ?_)
                  refine w_aload_n 152 dX5_readBehind_151 rfl rfl ?_
                  refine w_ldcS 154 dX5_readBehind_152 rfl srX5_137 ?_
                  refine w_inv1 157 dX5_readBehind_154 rfl mlX5_114 rfl rfl (d' := 5) (by decide) (Nat.le_of_ble_eq_true rfl) (c_X5_takeWord O145 R145 (by decide) (fun f154 l154 p154 A154 F154 O154 => ?_) (fun p154 A154 R154 O154 => ?_))
                  · skip
                    refine w_ifeqB 174 160 dX5_readBehind_157 rfl rfl (fun _ => ?_) (fun cc => by cases cc)
                    refine w_iconst 175 dX5_readBehind_174 rfl (v := nI 0) rfl ?_
                    refine wr_z dX5_readBehind_175 rfl (by first | rfl | exact nb_b2i _) ?_
                    exact kq (hf f154 l154 (by simp only [lineB, bindP, sNmC, badC, Bool.false_eq_true, Bool.true_or, Bool.false_or, Bool.or_false, Bool.or_true, reduceIte, p96, p103, p111, p119, p126, p135, p145, p154]) A154 F154 O154) rfl
                  · skip
                    refine w_ifeqB 174 160 dX5_readBehind_157 rfl rfl (fun cc => by cases cc) (fun _ => ?_)
                    refine w_aload_n 161 dX5_readBehind_160 rfl rfl ?_
                    refine w_iconst 162 dX5_readBehind_161 rfl (v := nI 0) rfl ?_
                    refine w_bipush 164 dX5_readBehind_162 rfl (v := nI 20) rfl ?_
                    refine w_inv2 167 dX5_readBehind_164 rfl mlX5_117 rfl rfl (d' := 2) (by decide) (Nat.le_of_ble_eq_true rfl) (c_X5_takeWhole O154 R154 (by decide) (by decide) (by simp) (fun f164 l164 p164 A164 F164 O164 => ?_) (fun v164 p164 b164 A164 R164 O164 => ?_))
                    · skip
                      refine w_ifeqB 174 170 dX5_readBehind_167 rfl rfl (fun _ => ?_) (fun cc => by cases cc)
                      refine w_iconst 175 dX5_readBehind_174 rfl (v := nI 0) rfl ?_
                      refine wr_z dX5_readBehind_175 rfl (by first | rfl | exact nb_b2i _) ?_
                      exact kq (hf f164 l164 (by simp only [lineB, bindP, sNmC, badC, Bool.false_eq_true, Bool.true_or, Bool.false_or, Bool.or_false, Bool.or_true, reduceIte, p96, p103, p111, p119, p126, p135, p145, p154, p164]) A164 F164 O164) rfl
                    · skip
                      refine w_ifeqB 174 170 dX5_readBehind_167 rfl rfl (fun cc => by cases cc) (fun _ => ?_)
                      refine w_iconst 171 dX5_readBehind_170 rfl (v := nI 1) rfl ?_
                      refine w_goto 175 dX5_readBehind_171 rfl ?_
                      refine wr_z dX5_readBehind_175 rfl (by first | rfl | exact nb_b2i _) ?_
                      exact kq (hs _ _ (by simp only [lineB, bindP, sNmC, badC, Bool.false_eq_true, Bool.true_or, Bool.false_or, Bool.or_false, Bool.or_true, reduceIte, p96, p103, p111, p119, p126, p135, p145, p154, p164]) _ A164 R164 O164) rfl
  · skip
    skip
    refine w_tabIn 176 dX5_readBehind_1 (by decide) (by decide) rfl rfl ?_
    refine w_aload_n 177 dX5_readBehind_176 rfl rfl ?_
    refine w_iconst 178 dX5_readBehind_177 rfl (v := nI 2) rfl ?_
    rw [show addN (gB tp) e w nm 3 p = nm from if_neg (by decide)] at hs
    refine w_inv1 181 dX5_readBehind_178 rfl mlX5_129 rfl rfl (d' := 6) (by decide) (Nat.le_of_ble_eq_true rfl) (c_X5_takeName hO hR (by decide) (by simp) (fun f178 l178 p178 A178 F178 O178 => ?_) (fun v178 p178 b178 q178 A178 R178 O178 => ?_))
    · skip
      refine w_ifeqB 210 184 dX5_readBehind_181 rfl rfl (fun _ => ?_) (fun cc => by cases cc)
      refine w_iconst 211 dX5_readBehind_210 rfl (v := nI 0) rfl ?_
      refine wr_z dX5_readBehind_211 rfl (by first | rfl | exact nb_b2i _) ?_
      exact kq (hf f178 l178 (by simp only [lineB, bindP, sNmC, badC, Bool.false_eq_true, Bool.true_or, Bool.false_or, Bool.or_false, Bool.or_true, reduceIte, p178]) A178 F178 O178) rfl
    · skip
      refine w_ifeqB 210 184 dX5_readBehind_181 rfl rfl (fun cc => by cases cc) (fun _ => ?_)
      refine w_aload_n 185 dX5_readBehind_184 rfl rfl ?_
      refine w_iconst 186 dX5_readBehind_185 rfl (v := nI 2) rfl ?_
      refine w_inv1 189 dX5_readBehind_186 rfl mlX5_129 rfl rfl (d' := 6) (by decide) (Nat.le_of_ble_eq_true rfl) (c_X5_takeName O178 R178 (by decide) (by simp) (fun f186 l186 p186 A186 F186 O186 => ?_) (fun v186 p186 b186 q186 A186 R186 O186 => ?_))
      · skip
        refine w_ifeqB 210 192 dX5_readBehind_189 rfl rfl (fun _ => ?_) (fun cc => by cases cc)
        refine w_iconst 211 dX5_readBehind_210 rfl (v := nI 0) rfl ?_
        refine wr_z dX5_readBehind_211 rfl (by first | rfl | exact nb_b2i _) ?_
        exact kq (hf f186 l186 (by simp only [lineB, bindP, sNmC, badC, Bool.false_eq_true, Bool.true_or, Bool.false_or, Bool.or_false, Bool.or_true, reduceIte, p178, p186]) A186 F186 O186) rfl
      · skip
        refine w_ifeqB 210 192 dX5_readBehind_189 rfl rfl (fun cc => by cases cc) (fun _ => ?_)
        refine w_aload_n 193 dX5_readBehind_192 rfl rfl ?_
        refine w_inv0 196 dX5_readBehind_193 rfl mlX5_132 rfl rfl (d' := 1) (by decide) (Nat.le_of_ble_eq_true rfl) (c_X5_areUnlike O186 R186 (by simp) (fun p193 A193 F193 O193 => ?_) (fun p193 => ?_))
        · skip
          refine w_ifeqB 210 199 dX5_readBehind_196 rfl rfl (fun _ => ?_) (fun cc => by cases cc)
          refine w_iconst 211 dX5_readBehind_210 rfl (v := nI 0) rfl ?_
          refine wr_z dX5_readBehind_211 rfl (by first | rfl | exact nb_b2i _) ?_
          exact kq (hf _ _ (by simp only [lineB, bindP, sNmC, badC, Bool.false_eq_true, Bool.true_or, Bool.false_or, Bool.or_false, Bool.or_true, reduceIte, p178, p186, p193]) A193 F193 O193) rfl
        · skip
          refine w_ifeqB 210 199 dX5_readBehind_196 rfl rfl (fun cc => by cases cc) (fun _ => ?_)
          refine w_aload_n 200 dX5_readBehind_199 rfl rfl ?_
          refine w_inv0 203 dX5_readBehind_200 rfl mlX5_139 rfl rfl (d' := 2) (by decide) (Nat.le_of_ble_eq_true rfl) (c_X5_isNewClash O186 R186 hP.clOK (by simp; omega) (fun p200 A200 F200 O200 => ?_) (fun p200 => ?_))
          · skip
            refine w_ifeqB 210 206 dX5_readBehind_203 rfl rfl (fun _ => ?_) (fun cc => by cases cc)
            refine w_iconst 211 dX5_readBehind_210 rfl (v := nI 0) rfl ?_
            refine wr_z dX5_readBehind_211 rfl (by first | rfl | exact nb_b2i _) ?_
            exact kq (hf _ _ (by simp only [lineB, bindP, sNmC, badC, Bool.false_eq_true, Bool.true_or, Bool.false_or, Bool.or_false, Bool.or_true, reduceIte, p178, p186, p193, p200]) A200 F200 O200) rfl
          · skip
            refine w_ifeqB 210 206 dX5_readBehind_203 rfl rfl (fun cc => by cases cc) (fun _ => ?_)
            refine w_iconst 207 dX5_readBehind_206 rfl (v := nI 1) rfl ?_
            refine w_goto 211 dX5_readBehind_207 rfl ?_
            refine wr_z dX5_readBehind_211 rfl (by first | rfl | exact nb_b2i _) ?_
            exact kq (hs _ _ (by simp only [lineB, bindP, sNmC, badC, Bool.false_eq_true, Bool.true_or, Bool.false_or, Bool.or_false, Bool.or_true, reduceIte, p178, p186, p193, p200]) _ A186 R186 O186) rfl
  · skip
    skip
    refine w_tabIn 212 dX5_readBehind_1 (by decide) (by decide) rfl rfl ?_
    refine w_aload_n 213 dX5_readBehind_212 rfl rfl ?_
    refine w_iconst 214 dX5_readBehind_213 rfl (v := nI 1) rfl ?_
    rw [show addN (gB tp) e w nm 4 p = nm from if_neg (by decide)] at hs
    refine w_inv1 217 dX5_readBehind_214 rfl mlX5_129 rfl rfl (d' := 6) (by decide) (Nat.le_of_ble_eq_true rfl) (c_X5_takeName hO hR (by decide) (by simp) (fun f214 l214 p214 A214 F214 O214 => ?_) (fun v214 p214 b214 q214 A214 R214 O214 => ?_))
    · skip
      refine w_ifeqB 250 220 dX5_readBehind_217 rfl rfl (fun _ => ?_) (fun cc => by cases cc)
      refine w_iconst 251 dX5_readBehind_250 rfl (v := nI 0) rfl ?_
      refine wr_z dX5_readBehind_251 rfl (by first | rfl | exact nb_b2i _) ?_
      exact kq (hf f214 l214 (by simp only [lineB, bindP, sNmC, badC, Bool.false_eq_true, Bool.true_or, Bool.false_or, Bool.or_false, Bool.or_true, reduceIte, p214]) A214 F214 O214) rfl
    · skip
      refine w_ifeqB 250 220 dX5_readBehind_217 rfl rfl (fun cc => by cases cc) (fun _ => ?_)
      refine w_aload_n 221 dX5_readBehind_220 rfl rfl ?_
      refine w_iconst 222 dX5_readBehind_221 rfl (v := nI 1) rfl ?_
      refine w_inv1 225 dX5_readBehind_222 rfl mlX5_129 rfl rfl (d' := 6) (by decide) (Nat.le_of_ble_eq_true rfl) (c_X5_takeName O214 R214 (by decide) (by simp) (fun f222 l222 p222 A222 F222 O222 => ?_) (fun v222 p222 b222 q222 A222 R222 O222 => ?_))
      · skip
        refine w_ifeqB 250 228 dX5_readBehind_225 rfl rfl (fun _ => ?_) (fun cc => by cases cc)
        refine w_iconst 251 dX5_readBehind_250 rfl (v := nI 0) rfl ?_
        refine wr_z dX5_readBehind_251 rfl (by first | rfl | exact nb_b2i _) ?_
        exact kq (hf f222 l222 (by simp only [lineB, bindP, sNmC, badC, Bool.false_eq_true, Bool.true_or, Bool.false_or, Bool.or_false, Bool.or_true, reduceIte, p214, p222]) A222 F222 O222) rfl
      · skip
        refine w_ifeqB 250 228 dX5_readBehind_225 rfl rfl (fun cc => by cases cc) (fun _ => ?_)
        refine w_aload_n 229 dX5_readBehind_228 rfl rfl ?_
        refine w_inv0 232 dX5_readBehind_229 rfl mlX5_132 rfl rfl (d' := 1) (by decide) (Nat.le_of_ble_eq_true rfl) (c_X5_areUnlike O222 R222 (by simp) (fun p229 A229 F229 O229 => ?_) (fun p229 => ?_))
        · skip
          refine w_ifeqB 250 235 dX5_readBehind_232 rfl rfl (fun _ => ?_) (fun cc => by cases cc)
          refine w_iconst 251 dX5_readBehind_250 rfl (v := nI 0) rfl ?_
          refine wr_z dX5_readBehind_251 rfl (by first | rfl | exact nb_b2i _) ?_
          exact kq (hf _ _ (by simp only [lineB, bindP, sNmC, badC, Bool.false_eq_true, Bool.true_or, Bool.false_or, Bool.or_false, Bool.or_true, reduceIte, p214, p222, p229]) A229 F229 O229) rfl
        · skip
          refine w_ifeqB 250 235 dX5_readBehind_232 rfl rfl (fun cc => by cases cc) (fun _ => ?_)
          refine w_aload_n 236 dX5_readBehind_235 rfl rfl ?_
          refine w_iconst 237 dX5_readBehind_236 rfl (v := nI 1) rfl ?_
          refine w_sipush 240 dX5_readBehind_237 rfl (v := nI 300) rfl ?_
          refine w_inv2 243 dX5_readBehind_240 rfl mlX5_117 rfl rfl (d' := 2) (by decide) (Nat.le_of_ble_eq_true rfl) (c_X5_takeWhole O222 R222 (by decide) (by decide) (by simp) (fun f240 l240 p240 A240 F240 O240 => ?_) (fun v240 p240 b240 A240 R240 O240 => ?_))
          · skip
            refine w_ifeqB 250 246 dX5_readBehind_243 rfl rfl (fun _ => ?_) (fun cc => by cases cc)
            refine w_iconst 251 dX5_readBehind_250 rfl (v := nI 0) rfl ?_
            refine wr_z dX5_readBehind_251 rfl (by first | rfl | exact nb_b2i _) ?_
            exact kq (hf f240 l240 (by simp only [lineB, bindP, sNmC, badC, Bool.false_eq_true, Bool.true_or, Bool.false_or, Bool.or_false, Bool.or_true, reduceIte, p214, p222, p229, p240]) A240 F240 O240) rfl
          · skip
            refine w_ifeqB 250 246 dX5_readBehind_243 rfl rfl (fun cc => by cases cc) (fun _ => ?_)
            refine w_iconst 247 dX5_readBehind_246 rfl (v := nI 1) rfl ?_
            refine w_goto 251 dX5_readBehind_247 rfl ?_
            refine wr_z dX5_readBehind_251 rfl (by first | rfl | exact nb_b2i _) ?_
            exact kq (hs _ _ (by simp only [lineB, bindP, sNmC, badC, Bool.false_eq_true, Bool.true_or, Bool.false_or, Bool.or_false, Bool.or_true, reduceIte, p214, p222, p229, p240]) _ A240 R240 O240) rfl
  · skip
    skip
    refine w_tabIn 252 dX5_readBehind_1 (by decide) (by decide) rfl rfl ?_
    refine w_aload_n 253 dX5_readBehind_252 rfl rfl ?_
    refine w_iconst 254 dX5_readBehind_253 rfl (v := nI 1) rfl ?_
    rw [show addN (gB tp) e w nm 5 p = nm from if_neg (by decide)] at hs
    refine w_inv1 257 dX5_readBehind_254 rfl mlX5_129 rfl rfl (d' := 6) (by decide) (Nat.le_of_ble_eq_true rfl) (c_X5_takeName hO hR (by decide) (by simp) (fun f254 l254 p254 A254 F254 O254 => ?_) (fun v254 p254 b254 q254 A254 R254 O254 => ?_))
    · skip
      refine w_ifeqB 317 260 dX5_readBehind_257 rfl rfl (fun _ => ?_) (fun cc => by cases cc)
      refine w_iconst 318 dX5_readBehind_317 rfl (v := nI 0) rfl ?_
      refine wr_z dX5_readBehind_318 rfl (by first | rfl | exact nb_b2i _) ?_
      exact kq (hf f254 l254 (by simp only [lineB, bindP, sNmC, badC, Bool.false_eq_true, Bool.true_or, Bool.false_or, Bool.or_false, Bool.or_true, reduceIte, p254]) A254 F254 O254) rfl
    · skip
      refine w_ifeqB 317 260 dX5_readBehind_257 rfl rfl (fun cc => by cases cc) (fun _ => ?_)
      refine w_aload_n 261 dX5_readBehind_260 rfl rfl ?_
      refine w_iconst 262 dX5_readBehind_261 rfl (v := nI 1) rfl ?_
      refine w_inv1 265 dX5_readBehind_262 rfl mlX5_129 rfl rfl (d' := 6) (by decide) (Nat.le_of_ble_eq_true rfl) (c_X5_takeName O254 R254 (by decide) (by simp) (fun f262 l262 p262 A262 F262 O262 => ?_) (fun v262 p262 b262 q262 A262 R262 O262 => ?_))
      · skip
        refine w_ifeqB 317 268 dX5_readBehind_265 rfl rfl (fun _ => ?_) (fun cc => by cases cc)
        refine w_iconst 318 dX5_readBehind_317 rfl (v := nI 0) rfl ?_
        refine wr_z dX5_readBehind_318 rfl (by first | rfl | exact nb_b2i _) ?_
        exact kq (hf f262 l262 (by simp only [lineB, bindP, sNmC, badC, Bool.false_eq_true, Bool.true_or, Bool.false_or, Bool.or_false, Bool.or_true, reduceIte, p254, p262]) A262 F262 O262) rfl
      · skip
        refine w_ifeqB 317 268 dX5_readBehind_265 rfl rfl (fun cc => by cases cc) (fun _ => ?_)
        refine w_aload_n 269 dX5_readBehind_268 rfl rfl ?_
        refine w_inv0 272 dX5_readBehind_269 rfl mlX5_132 rfl rfl (d' := 1) (by decide) (Nat.le_of_ble_eq_true rfl) (c_X5_areUnlike O262 R262 (by simp) (fun p269 A269 F269 O269 => ?_) (fun p269 => ?_))
        · skip
          refine w_ifeqB 317 275 dX5_readBehind_272 rfl rfl (fun _ => ?_) (fun cc => by cases cc)
          refine w_iconst 318 dX5_readBehind_317 rfl (v := nI 0) rfl ?_
          refine wr_z dX5_readBehind_318 rfl (by first | rfl | exact nb_b2i _) ?_
          exact kq (hf _ _ (by simp only [lineB, bindP, sNmC, badC, Bool.false_eq_true, Bool.true_or, Bool.false_or, Bool.or_false, Bool.or_true, reduceIte, p254, p262, p269]) A269 F269 O269) rfl
        · skip
          refine w_ifeqB 317 275 dX5_readBehind_272 rfl rfl (fun cc => by cases cc) (fun _ => ?_)
          refine w_aload_n 276 dX5_readBehind_275 rfl rfl ?_
          refine w_ldcS 278 dX5_readBehind_276 rfl srX5_135 ?_
          refine w_inv1 281 dX5_readBehind_278 rfl mlX5_114 rfl rfl (d' := 5) (by decide) (Nat.le_of_ble_eq_true rfl) (c_X5_takeWord O262 R262 (by decide) (fun f278 l278 p278 A278 F278 O278 => ?_) (fun p278 A278 R278 O278 => ?_))
          · skip
            refine w_ifeqB 317 284 dX5_readBehind_281 rfl rfl (fun _ => ?_) (fun cc => by cases cc)
            refine w_iconst 318 dX5_readBehind_317 rfl (v := nI 0) rfl ?_
            refine wr_z dX5_readBehind_318 rfl (by first | rfl | exact nb_b2i _) ?_
            exact kq (hf f278 l278 (by simp only [lineB, bindP, sNmC, badC, Bool.false_eq_true, Bool.true_or, Bool.false_or, Bool.or_false, Bool.or_true, reduceIte, p254, p262, p269, p278]) A278 F278 O278) rfl
          · skip
            refine w_ifeqB 317 284 dX5_readBehind_281 rfl rfl (fun cc => by cases cc) (fun _ => ?_)
            refine w_aload_n 285 dX5_readBehind_284 rfl rfl ?_
            refine w_iconst 286 dX5_readBehind_285 rfl (v := nI 1) rfl ?_
            refine w_bipush 288 dX5_readBehind_286 rfl (v := nI 99) rfl ?_
            refine w_inv2 291 dX5_readBehind_288 rfl mlX5_117 rfl rfl (d' := 2) (by decide) (Nat.le_of_ble_eq_true rfl) (c_X5_takeWhole O278 R278 (by decide) (by decide) (by simp) (fun f288 l288 p288 A288 F288 O288 => ?_) (fun v288 p288 b288 A288 R288 O288 => ?_))
            · skip
              refine w_ifeqB 317 294 dX5_readBehind_291 rfl rfl (fun _ => ?_) (fun cc => by cases cc)
              refine w_iconst 318 dX5_readBehind_317 rfl (v := nI 0) rfl ?_
              refine wr_z dX5_readBehind_318 rfl (by first | rfl | exact nb_b2i _) ?_
              exact kq (hf f288 l288 (by simp only [lineB, bindP, sNmC, badC, Bool.false_eq_true, Bool.true_or, Bool.false_or, Bool.or_false, Bool.or_true, reduceIte, p254, p262, p269, p278, p288]) A288 F288 O288) rfl
            · skip
              refine w_ifeqB 317 294 dX5_readBehind_291 rfl rfl (fun cc => by cases cc) (fun _ => ?_)
              refine w_aload_n 295 dX5_readBehind_294 rfl rfl ?_
              refine w_ldcS 297 dX5_readBehind_295 rfl srX5_142 ?_
              refine w_inv1 300 dX5_readBehind_297 rfl mlX5_114 rfl rfl (d' := 5) (by decide) (Nat.le_of_ble_eq_true rfl) (c_X5_takeWord O288 R288 (by decide) (fun f297 l297 p297 A297 F297 O297 => ?_) (fun p297 A297 R297 O297 => ?_))
              · skip
                refine w_ifeqB 317 303 dX5_readBehind_300 rfl rfl (fun _ => ?_) (fun cc => by cases cc)
                refine w_iconst 318 dX5_readBehind_317 rfl (v := nI 0) rfl ?_
                refine wr_z dX5_readBehind_318 rfl (by first | rfl | exact nb_b2i _) ?_
                exact kq (hf f297 l297 (by simp only [lineB, bindP, sNmC, badC, Bool.false_eq_true, Bool.true_or, Bool.false_or, Bool.or_false, Bool.or_true, reduceIte, p254, p262, p269, p278, p288, p297]) A297 F297 O297) rfl
              · skip
                refine w_ifeqB 317 303 dX5_readBehind_300 rfl rfl (fun cc => by cases cc) (fun _ => ?_)
                refine w_aload_n 304 dX5_readBehind_303 rfl rfl ?_
                refine w_iconst 305 dX5_readBehind_304 rfl (v := nI 0) rfl ?_
                refine w_bipush 307 dX5_readBehind_305 rfl (v := nI 99) rfl ?_
                refine w_inv2 310 dX5_readBehind_307 rfl mlX5_117 rfl rfl (d' := 2) (by decide) (Nat.le_of_ble_eq_true rfl) (c_X5_takeWhole O297 R297 (by decide) (by decide) (by simp) (fun f307 l307 p307 A307 F307 O307 => ?_) (fun v307 p307 b307 A307 R307 O307 => ?_))
                · skip
                  refine w_ifeqB 317 313 dX5_readBehind_310 rfl rfl (fun _ => ?_) (fun cc => by cases cc)
                  refine w_iconst 318 dX5_readBehind_317 rfl (v := nI 0) rfl ?_
                  refine wr_z dX5_readBehind_318 rfl (by first | rfl | exact nb_b2i _) ?_
                  exact kq (hf f307 l307 (by simp only [lineB, bindP, sNmC, badC, Bool.false_eq_true, Bool.true_or, Bool.false_or, Bool.or_false, Bool.or_true, reduceIte, p254, p262, p269, p278, p288, p297, p307]) A307 F307 O307) rfl
                · skip
                  refine w_ifeqB 317 313 dX5_readBehind_310 rfl rfl (fun cc => by cases cc) (fun _ => ?_)
                  refine w_iconst 314 dX5_readBehind_313 rfl (v := nI 1) rfl ?_
                  refine w_goto 318 dX5_readBehind_314 rfl ?_
                  refine wr_z dX5_readBehind_318 rfl (by first | rfl | exact nb_b2i _) ?_
                  exact kq (hs _ _ (by simp only [lineB, bindP, sNmC, badC, Bool.false_eq_true, Bool.true_or, Bool.false_or, Bool.or_false, Bool.or_true, reduceIte, p254, p262, p269, p278, p288, p297, p307]) _ A307 R307 O307) rfl
  · skip
    skip
    refine w_tabIn 319 dX5_readBehind_1 (by decide) (by decide) rfl rfl ?_
    refine w_aload_n 320 dX5_readBehind_319 rfl rfl ?_
    refine w_iconst 321 dX5_readBehind_320 rfl (v := nI 2) rfl ?_
    rw [show addN (gB tp) e w nm 6 p = nm from if_neg (by decide)] at hs
    refine w_inv1 324 dX5_readBehind_321 rfl mlX5_129 rfl rfl (d' := 6) (by decide) (Nat.le_of_ble_eq_true rfl) (c_X5_takeName hO hR (by decide) (by simp) (fun f321 l321 p321 A321 F321 O321 => ?_) (fun v321 p321 b321 q321 A321 R321 O321 => ?_))
    · skip
      refine w_ifeqB 338 327 dX5_readBehind_324 rfl rfl (fun _ => ?_) (fun cc => by cases cc)
      refine w_iconst 339 dX5_readBehind_338 rfl (v := nI 0) rfl ?_
      refine wr_z dX5_readBehind_339 rfl (by first | rfl | exact nb_b2i _) ?_
      exact kq (hf f321 l321 (by simp only [lineB, bindP, sNmC, badC, Bool.false_eq_true, Bool.true_or, Bool.false_or, Bool.or_false, Bool.or_true, reduceIte, p321]) A321 F321 O321) rfl
    · skip
      refine w_ifeqB 338 327 dX5_readBehind_324 rfl rfl (fun cc => by cases cc) (fun _ => ?_)
      refine w_aload_n 328 dX5_readBehind_327 rfl rfl ?_
      refine w_inv0 331 dX5_readBehind_328 rfl mlX5_144 rfl rfl (d' := 2) (by decide) (Nat.le_of_ble_eq_true rfl) (c_X5_isNewUnsure O321 R321 hr.2.2.2.2.2.2.1 hP.smW (fun p328 A328 F328 O328 => ?_) (fun p328 => ?_))
      · skip
        refine w_ifeqB 338 334 dX5_readBehind_331 rfl rfl (fun _ => ?_) (fun cc => by cases cc)
        refine w_iconst 339 dX5_readBehind_338 rfl (v := nI 0) rfl ?_
        refine wr_z dX5_readBehind_339 rfl (by first | rfl | exact nb_b2i _) ?_
        exact kq (hf _ _ (by simp only [lineB, bindP, sNmC, badC, Bool.false_eq_true, Bool.true_or, Bool.false_or, Bool.or_false, Bool.or_true, reduceIte, p321, p328]) A328 F328 O328) rfl
      · skip
        refine w_ifeqB 338 334 dX5_readBehind_331 rfl rfl (fun cc => by cases cc) (fun _ => ?_)
        refine w_iconst 335 dX5_readBehind_334 rfl (v := nI 1) rfl ?_
        refine w_goto 339 dX5_readBehind_335 rfl ?_
        refine wr_z dX5_readBehind_339 rfl (by first | rfl | exact nb_b2i _) ?_
        exact kq (hs _ _ (by simp only [lineB, bindP, sNmC, badC, Bool.false_eq_true, Bool.true_or, Bool.false_or, Bool.or_false, Bool.or_true, reduceIte, p321, p328]) _ A321 R321 O321) rfl
  · skip
    skip
    refine w_tabOut 340 dX5_readBehind_1 (by decide) rfl ?_
    refine w_aload_n 341 dX5_readBehind_340 rfl rfl ?_
    refine w_iconst 342 dX5_readBehind_341 rfl (v := nI 2) rfl ?_
    rw [show addN (gB tp) e w nm 7 p = nm from if_neg (by decide)] at hs
    refine w_inv1 345 dX5_readBehind_342 rfl mlX5_129 rfl rfl (d' := 6) (by decide) (Nat.le_of_ble_eq_true rfl) (c_X5_takeName hO hR (by decide) (by simp) (fun f342 l342 p342 A342 F342 O342 => ?_) (fun v342 p342 b342 q342 A342 R342 O342 => ?_))
    · skip
      refine w_ifeqB 367 348 dX5_readBehind_345 rfl rfl (fun _ => ?_) (fun cc => by cases cc)
      refine w_iconst 368 dX5_readBehind_367 rfl (v := nI 0) rfl ?_
      refine wr_z dX5_readBehind_368 rfl (by first | rfl | exact nb_b2i _) ?_
      exact kq (hf f342 l342 (by simp only [lineB, bindP, sNmC, badC, Bool.false_eq_true, Bool.true_or, Bool.false_or, Bool.or_false, Bool.or_true, reduceIte, p342]) A342 F342 O342) rfl
    · skip
      refine w_ifeqB 367 348 dX5_readBehind_345 rfl rfl (fun cc => by cases cc) (fun _ => ?_)
      refine w_aload_n 349 dX5_readBehind_348 rfl rfl ?_
      refine w_iconst 350 dX5_readBehind_349 rfl (v := nI 2) rfl ?_
      refine w_inv1 353 dX5_readBehind_350 rfl mlX5_129 rfl rfl (d' := 6) (by decide) (Nat.le_of_ble_eq_true rfl) (c_X5_takeName O342 R342 (by decide) (by simp) (fun f350 l350 p350 A350 F350 O350 => ?_) (fun v350 p350 b350 q350 A350 R350 O350 => ?_))
      · skip
        refine w_ifeqB 367 356 dX5_readBehind_353 rfl rfl (fun _ => ?_) (fun cc => by cases cc)
        refine w_iconst 368 dX5_readBehind_367 rfl (v := nI 0) rfl ?_
        refine wr_z dX5_readBehind_368 rfl (by first | rfl | exact nb_b2i _) ?_
        exact kq (hf f350 l350 (by simp only [lineB, bindP, sNmC, badC, Bool.false_eq_true, Bool.true_or, Bool.false_or, Bool.or_false, Bool.or_true, reduceIte, p342, p350]) A350 F350 O350) rfl
      · skip
        refine w_ifeqB 367 356 dX5_readBehind_353 rfl rfl (fun cc => by cases cc) (fun _ => ?_)
        refine w_aload_n 357 dX5_readBehind_356 rfl rfl ?_
        refine w_inv0 360 dX5_readBehind_357 rfl mlX5_147 rfl rfl (d' := 5) (by decide) (Nat.le_of_ble_eq_true rfl) (c_X5_takeHow O350 R350 (by simp) (fun f357 l357 p357 A357 F357 O357 => ?_) (fun v357 p357 b357 A357 R357 O357 => ?_))
        · skip
          refine w_ifeqB 367 363 dX5_readBehind_360 rfl rfl (fun _ => ?_) (fun cc => by cases cc)
          refine w_iconst 368 dX5_readBehind_367 rfl (v := nI 0) rfl ?_
          refine wr_z dX5_readBehind_368 rfl (by first | rfl | exact nb_b2i _) ?_
          exact kq (hf f357 l357 (by simp only [lineB, bindP, sNmC, badC, Bool.false_eq_true, Bool.true_or, Bool.false_or, Bool.or_false, Bool.or_true, reduceIte, p342, p350, p357]) A357 F357 O357) rfl
        · skip
          refine w_ifeqB 367 363 dX5_readBehind_360 rfl rfl (fun cc => by cases cc) (fun _ => ?_)
          refine w_iconst 364 dX5_readBehind_363 rfl (v := nI 1) rfl ?_
          refine w_goto 368 dX5_readBehind_364 rfl ?_
          refine wr_z dX5_readBehind_368 rfl (by first | rfl | exact nb_b2i _) ?_
          exact kq (hs _ _ (by simp only [lineB, bindP, sNmC, badC, Bool.false_eq_true, Bool.true_or, Bool.false_or, Bool.or_false, Bool.or_true, reduceIte, p342, p350, p357]) _ A357 R357 O357) rfl

theorem c_X5_sortOfLine2 {K : Option Value → AH → Prop} {A : AH} {tp : Nat → Int32} {e p : Nat} (hK : TK tp e p A) (hn : lnS (gB tp) e p = none → K (some (.int (-1))) A) (hj : ∀ j, j < 8 → lnS (gB tp) e p = some j → K (some (.int (nI j))) A) : Ct yX5_sortOfLine mX5_sortOfLine 5 dC gC [.ref 1] A K := by
  refine c_X5_sortOfLine hK ?_
  cases q : lnS (gB tp) e p with
  | none => exact hn q
  | some j => exact hj j (fst1_lt q).1 q
theorem roomF_ok : ∀ j, j < 8 → roomF j = .int (nI (roomN j)) ∧ roomN j ≤ 8 := by decide +kernel
def RW (tp : Nat → Int32) (e p : Nat) (w : WT) (nm : NT) (A : AH) : Prop := (TB tp e A ∧ A.1 7 2 = nI e ∧ A.1 7 3 = nI p ∧ p ≤ e) ∧ RepT w 9 A ∧ RepN nm A ∧ R0 A
theorem RS.w {tp : Nat → Int32} {e p st : Nat} {row : List Nat} {w : WT} {nm : NT} {A : AH} (h : RS tp e p st row w nm A) : RW tp e p w nm A := ⟨⟨h.1.1, h.1.2.1, h.1.2.2.1, h.1.2.2.2.1⟩, h.2.2⟩
theorem RW.adv {tp : Nat → Int32} {e p : Nat} {w : WT} {nm : NT} {A A1 : AH} (h : RW tp e p w nm A) (k : TK tp e p A1) (o : OffT A A1) : RT7 tp e (tkE (gB tp) e p) (tkS (gB tp) e p) A1 ∧ True ∧ RepT w 9 A1 ∧ RepN nm A1 ∧ R0 A1 := by
  obtain ⟨⟨h1, h2, h3, h4⟩, hT, hN, h0⟩ := h
  exact ⟨⟨h1.cong (o.1 8 (by decide)).1, k.1, k.2.1, tkE_le h4, k.2.2.2.1⟩, trivial, hT.cong (fun x a b => (o.1 x (by simp; omega)).1), hN.cong (o.1 2 (by decide)).1 (o.1 3 (by decide)).2 (o.1 4 (by decide)).1 (o.1 5 (by decide)).1, by unfold R0; rw [(o.1 1 (by decide)).1]; exact h0⟩
theorem OffI.rd {A0 A A1 : AH} (o : OffL rdL A0 A) (h : OffI 10 26 A A1) : OffL rdL A0 A1 := o.tr (fun x hx => h x (by simp at hx; omega))
set_option maxRecDepth 4000 in
theorem c_X5_readLine {K : Option Value → AH → Prop} {A0 A : AH} {tp : Nat → Int32} {e p : Nat} {w : WT} {nm : NT} (hO : OffL rdL A0 A) (hR : RW tp e p w nm A) (hP : PI w nm) (hf : ∀ f pl, lineP (gB tp) e w nm p = .inl (f, pl) → ∀ A', FL f pl A' → OffL rdL A0 A' → K (some (.int (b2i false))) A') (hs : ∀ p' w' nm', lineP (gB tp) e w nm p = .inr (p', w', nm') → ∀ st' row' A', RS tp e p' st' row' w' nm' A' → OffL rdL A0 A' → K (some (.int (b2i true))) A') : Ct yX5_readLine mX5_readLine 8 dC gC [.ref 1] A K := by
  refine Ct.of [some (.ref 1), none, none] rfl rfl rfl (Nat.le_of_ble_eq_true rfl) ?_
  refine w_aload_n 1 dX5_readLine_0 rfl rfl ?_
  refine w_getr 4 dX5_readLine_1 rfl faX5_25 rfl rfl rfl (r := .ref 7) rfl ?_
  refine w_inv0 7 dX5_readLine_4 rfl mlX5_69 rfl rfl (d' := 1) (by decide) (Nat.le_of_ble_eq_true rfl) (c_X9_advance hR.1.1 hR.1.2.1 hR.1.2.2.1 hR.1.2.2.2 (fun A1 hK hT1 => ?_))
  have hR1 := hR.adv hK hT1
  have hO1 := OffT.r hO hT1
  have hr := hP.rooms
  refine w_aload_n 8 dX5_readLine_7 rfl rfl ?_
  refine w_inv0 11 dX5_readLine_8 rfl mlX5_75 rfl rfl (d' := 5) (by decide) (Nat.le_of_ble_eq_true rfl) (c_X5_sortOfLine2 hK (fun hq => ?_) (fun j hj hq => ?_))
  · skip
    refine w_ist1 12 dX5_readLine_11 rfl (by decide) rfl ?_
    refine w_iload_n 13 dX5_readLine_12 rfl rfl ?_
    refine w_iflt 24 16 dX5_readLine_13 rfl rfl (fun c13 => ?_) (fun c13 => (by exact absurd (by decide) c13))
    refine w_aload_n 25 dX5_readLine_24 rfl rfl ?_
    refine w_iconst 26 dX5_readLine_25 rfl (v := nI 1) rfl ?_
    refine w_inv1 29 dX5_readLine_26 rfl mlX5_62 rfl rfl (d' := 0) (by decide) (Nat.le_of_ble_eq_true rfl) (c_X5_failR hR1.1.2.2.2.2 hO1 (fun A2 hF hO2 => ?_))
    refine wr_z dX5_readLine_29 rfl (by first | rfl | exact nb_b2i _) ?_
    exact kq (hf 1 _ (by unfold lineP; rw [hq]) A2 hF hO2) rfl
  · skip
    obtain ⟨hrf, hr8⟩ := roomF_ok j hj
    have hwj := hP.1 j hj
    refine w_ist1 12 dX5_readLine_11 rfl (by decide) rfl ?_
    refine w_iload_n 13 dX5_readLine_12 rfl rfl ?_
    refine w_ifltN 24 16 dX5_readLine_13 rfl rfl (by omega) ?_
    refine w_iload_n 17 dX5_readLine_16 rfl rfl ?_
    refine w_getsN 20 dX5_readLine_17 rfl flX5_79 ex_room ?_
    refine w_tlen 21 dX5_readLine_20 rfl ex_roomT ?_
    refine w_icltN 30 24 dX5_readLine_21 rfl rfl (by omega) (by omega) (fun c21 => ?_) (fun c21 => (by omega))
    refine w_aload_n 31 dX5_readLine_30 rfl rfl ?_
    refine w_getr 34 dX5_readLine_31 rfl faX5_32 rfl rfl rfl (r := .ref 9) rfl ?_
    refine w_iconst 35 dX5_readLine_34 rfl (v := nI 0) rfl ?_
    refine w_inv1 38 dX5_readLine_35 rfl mlX5_58 rfl rfl (d' := 1) (by decide) (Nat.le_of_ble_eq_true rfl) (c_X10_howMany_9 hR1.2.2.1 (by decide) ?_)
    refine w_ifleN 45 41 dX5_readLine_38 rfl rfl (by omega) (fun c38 => ?_) (fun c38 => ?_)
    · skip
      refine w_iconst 46 dX5_readLine_45 rfl (v := nI 0) rfl ?_
      refine w_ist2 47 dX5_readLine_46 rfl (by decide) rfl ?_
      refine w_iload_n 48 dX5_readLine_47 rfl rfl ?_
      refine w_ifneN 61 51 dX5_readLine_48 rfl rfl (by omega) (fun c48 => ?_) (fun c48 => ?_)
      · skip
        refine w_aload_n 62 dX5_readLine_61 rfl rfl ?_
        refine w_getr 65 dX5_readLine_62 rfl faX5_32 rfl rfl rfl (r := .ref 9) rfl ?_
        refine w_iload_n 66 dX5_readLine_65 rfl rfl ?_
        refine w_inv1 69 dX5_readLine_66 rfl mlX5_58 rfl rfl (d' := 1) (by decide) (Nat.le_of_ble_eq_true rfl) (c_X10_howMany_9 hR1.2.2.1 hj ?_)
        refine w_getsN 72 dX5_readLine_69 rfl flX5_79 ex_room ?_
        refine w_iload_n 73 dX5_readLine_72 rfl rfl ?_
        refine w_ti 74 dX5_readLine_73 rfl ex_roomT hj (by decide) hrf ?_
        refine w_icltN 83 77 dX5_readLine_74 rfl rfl (by omega) (by omega) (fun c74 => ?_) (fun c74 => ?_)
        · skip
          refine w_iload_n 84 dX5_readLine_83 rfl rfl ?_
          refine w_ifeqN 98 87 dX5_readLine_84 rfl rfl (by omega) (fun c84 => (by exact absurd c84 c48)) (fun c84 => ?_)
          refine w_iload_n 88 dX5_readLine_87 rfl rfl ?_
          refine w_ifneN 98 91 dX5_readLine_88 rfl rfl (by decide) (fun cc => absurd cc (by decide)) (fun _ => ?_)
          refine w_aload_n 92 dX5_readLine_91 rfl rfl ?_
          refine w_bipush 94 dX5_readLine_92 rfl (v := nI 6) rfl ?_
          refine w_inv1 97 dX5_readLine_94 rfl mlX5_62 rfl rfl (d' := 0) (by decide) (Nat.le_of_ble_eq_true rfl) (c_X5_failR hR1.1.2.2.2.2 hO1 (fun A2 hF hO2 => ?_))
          refine wr_z dX5_readLine_97 rfl (by first | rfl | exact nb_b2i _) ?_
          exact kq (hf 6 _ (by simp only [lineP, hq]; rw [if_neg (by omega), if_neg (by omega), if_pos ⟨c48, by omega⟩]) A2 hF hO2) rfl
        · skip
          refine w_aload_n 78 dX5_readLine_77 rfl rfl ?_
          refine w_iconst 79 dX5_readLine_78 rfl (v := nI 5) rfl ?_
          refine w_inv1 82 dX5_readLine_79 rfl mlX5_62 rfl rfl (d' := 0) (by decide) (Nat.le_of_ble_eq_true rfl) (c_X5_failR hR1.1.2.2.2.2 hO1 (fun A2 hF hO2 => ?_))
          refine wr_z dX5_readLine_82 rfl (by first | rfl | exact nb_b2i _) ?_
          exact kq (hf 5 _ (by simp only [lineP, hq]; rw [if_neg (by omega), if_pos (by omega)]) A2 hF hO2) rfl
      · skip
        refine w_iload_n 52 dX5_readLine_51 rfl rfl ?_
        refine w_ifeqN 61 55 dX5_readLine_52 rfl rfl (by decide) (fun _ => ?_) (fun cc => absurd cc (by decide))
        refine w_aload_n 62 dX5_readLine_61 rfl rfl ?_
        refine w_getr 65 dX5_readLine_62 rfl faX5_32 rfl rfl rfl (r := .ref 9) rfl ?_
        refine w_iload_n 66 dX5_readLine_65 rfl rfl ?_
        refine w_inv1 69 dX5_readLine_66 rfl mlX5_58 rfl rfl (d' := 1) (by decide) (Nat.le_of_ble_eq_true rfl) (c_X10_howMany_9 hR1.2.2.1 hj ?_)
        refine w_getsN 72 dX5_readLine_69 rfl flX5_79 ex_room ?_
        refine w_iload_n 73 dX5_readLine_72 rfl rfl ?_
        refine w_ti 74 dX5_readLine_73 rfl ex_roomT hj (by decide) hrf ?_
        refine w_icltN 83 77 dX5_readLine_74 rfl rfl (by omega) (by omega) (fun c74 => ?_) (fun c74 => ?_)
        · skip
          refine w_iload_n 84 dX5_readLine_83 rfl rfl ?_
          refine w_ifeqN 98 87 dX5_readLine_84 rfl rfl (by omega) (fun c84 => ?_) (fun c84 => (by exact absurd c48 c84))
          have n1 : ¬ (j = 0 ∧ 0 < w.1 0) := by omega
          have n2 : ¬ roomN j ≤ w.1 j := by omega
          have n3 : ¬ (j ≠ 0 ∧ w.1 0 = 0) := by omega
          refine w_aload_n 99 dX5_readLine_98 rfl rfl ?_
          refine w_inv0 102 dX5_readLine_99 rfl mlX5_82 rfl rfl (d' := 0) (by decide) (Nat.le_of_ble_eq_true rfl) (c_X5_clearRow hO1 hR1.1 hR1.2.2.1 hR1.2.2.2.1 hR1.2.2.2.2 (fun A3 hR3 hO3 => ?_))
          refine w_aload_n 103 dX5_readLine_102 rfl rfl ?_
          refine w_iload_n 104 dX5_readLine_103 rfl rfl ?_
          refine w_inv1 107 dX5_readLine_104 rfl mlX5_85 rfl rfl (d' := 7) (by decide) (Nat.le_of_ble_eq_true rfl) (c_X5_readBehind hO3 hR3 hP hj (by omega) (fun f l hp A4 hF4 hO4 => ?_) (fun q r hp st4 A4 hR4 hO4 => ?_))
          · skip
            refine w_ifneB 112 110 dX5_readLine_107 rfl rfl (fun cc => by cases cc) (fun _ => ?_)
            refine w_iconst 111 dX5_readLine_110 rfl (v := nI 0) rfl ?_
            refine wr_z dX5_readLine_111 rfl (by first | rfl | exact nb_b2i _) ?_
            exact kq (hf f l (by simp only [lineP, hq]; rw [if_neg n1, if_neg n2, if_neg n3, hp]) A4 hF4 hO4) rfl
          · skip
            refine w_ifneB 112 110 dX5_readLine_107 rfl rfl (fun _ => ?_) (fun cc => by cases cc)
            refine w_aload_n 113 dX5_readLine_112 rfl rfl ?_
            refine w_getr 116 dX5_readLine_113 rfl faX5_32 rfl rfl rfl (r := .ref 9) rfl ?_
            refine w_iload_n 117 dX5_readLine_116 rfl rfl ?_
            refine w_aload_n 118 dX5_readLine_117 rfl rfl ?_
            refine w_getr 121 dX5_readLine_118 rfl faX5_18 rfl rfl rfl (r := .ref 6) rfl ?_
            refine w_inv2 124 dX5_readLine_121 rfl mlX5_88 rfl rfl (d' := 2) (by decide) (Nat.le_of_ble_eq_true rfl) (c_X10_add (g := fun c => r.getD c 0) hR4.2.2.1 hj (by omega) (fun c hc => hR4.2.1.2.2.1 c hc) (fun A5 hT5 hO5 => ?_))
            refine w_iconst 125 dX5_readLine_124 rfl (v := nI 1) rfl ?_
            refine wr_z dX5_readLine_125 rfl (by first | rfl | exact nb_b2i _) ?_
            refine kq (hs q _ _ (by simp only [lineP, hq]; rw [if_neg n1, if_neg n2, if_neg n3, hp]) st4 r A5 ?_ (OffI.rd hO4 hO5)) rfl
            obtain ⟨⟨h1, h2, h3, h4, h5⟩, ⟨r1, r2, r3, r4⟩, hT, hN, h0⟩ := hR4
            exact ⟨⟨h1.cong (hO5 8 (by omega)).1, by rw [(hO5 7 (by omega)).1]; exact h2, by rw [(hO5 7 (by omega)).1]; exact h3, h4, by rw [(hO5 7 (by omega)).1]; exact h5⟩, ⟨by rw [(hO5 1 (by omega)).1]; exact r1, r2, fun i hi => by rw [(hO5 6 (by omega)).1]; exact r3 i hi, r4⟩, hT5, hN.cong (hO5 2 (by omega)).1 (hO5 3 (by omega)).2 (hO5 4 (by omega)).1 (hO5 5 (by omega)).1, by unfold R0; rw [(hO5 1 (by omega)).1]; exact h0⟩
        · skip
          refine w_aload_n 78 dX5_readLine_77 rfl rfl ?_
          refine w_iconst 79 dX5_readLine_78 rfl (v := nI 5) rfl ?_
          refine w_inv1 82 dX5_readLine_79 rfl mlX5_62 rfl rfl (d' := 0) (by decide) (Nat.le_of_ble_eq_true rfl) (c_X5_failR hR1.1.2.2.2.2 hO1 (fun A2 hF hO2 => ?_))
          refine wr_z dX5_readLine_82 rfl (by first | rfl | exact nb_b2i _) ?_
          exact kq (hf 5 _ (by simp only [lineP, hq]; rw [if_neg (by omega), if_pos (by omega)]) A2 hF hO2) rfl
    · skip
      refine w_iconst 42 dX5_readLine_41 rfl (v := nI 1) rfl ?_
      refine w_goto 46 dX5_readLine_42 rfl ?_
      refine w_ist2 47 dX5_readLine_46 rfl (by decide) rfl ?_
      refine w_iload_n 48 dX5_readLine_47 rfl rfl ?_
      refine w_ifneN 61 51 dX5_readLine_48 rfl rfl (by omega) (fun c48 => ?_) (fun c48 => ?_)
      · skip
        refine w_aload_n 62 dX5_readLine_61 rfl rfl ?_
        refine w_getr 65 dX5_readLine_62 rfl faX5_32 rfl rfl rfl (r := .ref 9) rfl ?_
        refine w_iload_n 66 dX5_readLine_65 rfl rfl ?_
        refine w_inv1 69 dX5_readLine_66 rfl mlX5_58 rfl rfl (d' := 1) (by decide) (Nat.le_of_ble_eq_true rfl) (c_X10_howMany_9 hR1.2.2.1 hj ?_)
        refine w_getsN 72 dX5_readLine_69 rfl flX5_79 ex_room ?_
        refine w_iload_n 73 dX5_readLine_72 rfl rfl ?_
        refine w_ti 74 dX5_readLine_73 rfl ex_roomT hj (by decide) hrf ?_
        refine w_icltN 83 77 dX5_readLine_74 rfl rfl (by omega) (by omega) (fun c74 => ?_) (fun c74 => ?_)
        · skip
          refine w_iload_n 84 dX5_readLine_83 rfl rfl ?_
          refine w_ifeqN 98 87 dX5_readLine_84 rfl rfl (by omega) (fun c84 => (by exact absurd c84 c48)) (fun c84 => ?_)
          refine w_iload_n 88 dX5_readLine_87 rfl rfl ?_
          refine w_ifneN 98 91 dX5_readLine_88 rfl rfl (by decide) (fun _ => ?_) (fun cc => absurd cc (by decide))
          have n1 : ¬ (j = 0 ∧ 0 < w.1 0) := by omega
          have n2 : ¬ roomN j ≤ w.1 j := by omega
          have n3 : ¬ (j ≠ 0 ∧ w.1 0 = 0) := by omega
          refine w_aload_n 99 dX5_readLine_98 rfl rfl ?_
          refine w_inv0 102 dX5_readLine_99 rfl mlX5_82 rfl rfl (d' := 0) (by decide) (Nat.le_of_ble_eq_true rfl) (c_X5_clearRow hO1 hR1.1 hR1.2.2.1 hR1.2.2.2.1 hR1.2.2.2.2 (fun A3 hR3 hO3 => ?_))
          refine w_aload_n 103 dX5_readLine_102 rfl rfl ?_
          refine w_iload_n 104 dX5_readLine_103 rfl rfl ?_
          refine w_inv1 107 dX5_readLine_104 rfl mlX5_85 rfl rfl (d' := 7) (by decide) (Nat.le_of_ble_eq_true rfl) (c_X5_readBehind hO3 hR3 hP hj (by omega) (fun f l hp A4 hF4 hO4 => ?_) (fun q r hp st4 A4 hR4 hO4 => ?_))
          · skip
            refine w_ifneB 112 110 dX5_readLine_107 rfl rfl (fun cc => by cases cc) (fun _ => ?_)
            refine w_iconst 111 dX5_readLine_110 rfl (v := nI 0) rfl ?_
            refine wr_z dX5_readLine_111 rfl (by first | rfl | exact nb_b2i _) ?_
            exact kq (hf f l (by simp only [lineP, hq]; rw [if_neg n1, if_neg n2, if_neg n3, hp]) A4 hF4 hO4) rfl
          · skip
            refine w_ifneB 112 110 dX5_readLine_107 rfl rfl (fun _ => ?_) (fun cc => by cases cc)
            refine w_aload_n 113 dX5_readLine_112 rfl rfl ?_
            refine w_getr 116 dX5_readLine_113 rfl faX5_32 rfl rfl rfl (r := .ref 9) rfl ?_
            refine w_iload_n 117 dX5_readLine_116 rfl rfl ?_
            refine w_aload_n 118 dX5_readLine_117 rfl rfl ?_
            refine w_getr 121 dX5_readLine_118 rfl faX5_18 rfl rfl rfl (r := .ref 6) rfl ?_
            refine w_inv2 124 dX5_readLine_121 rfl mlX5_88 rfl rfl (d' := 2) (by decide) (Nat.le_of_ble_eq_true rfl) (c_X10_add (g := fun c => r.getD c 0) hR4.2.2.1 hj (by omega) (fun c hc => hR4.2.1.2.2.1 c hc) (fun A5 hT5 hO5 => ?_))
            refine w_iconst 125 dX5_readLine_124 rfl (v := nI 1) rfl ?_
            refine wr_z dX5_readLine_125 rfl (by first | rfl | exact nb_b2i _) ?_
            refine kq (hs q _ _ (by simp only [lineP, hq]; rw [if_neg n1, if_neg n2, if_neg n3, hp]) st4 r A5 ?_ (OffI.rd hO4 hO5)) rfl
            obtain ⟨⟨h1, h2, h3, h4, h5⟩, ⟨r1, r2, r3, r4⟩, hT, hN, h0⟩ := hR4
            exact ⟨⟨h1.cong (hO5 8 (by omega)).1, by rw [(hO5 7 (by omega)).1]; exact h2, by rw [(hO5 7 (by omega)).1]; exact h3, h4, by rw [(hO5 7 (by omega)).1]; exact h5⟩, ⟨by rw [(hO5 1 (by omega)).1]; exact r1, r2, fun i hi => by rw [(hO5 6 (by omega)).1]; exact r3 i hi, r4⟩, hT5, hN.cong (hO5 2 (by omega)).1 (hO5 3 (by omega)).2 (hO5 4 (by omega)).1 (hO5 5 (by omega)).1, by unfold R0; rw [(hO5 1 (by omega)).1]; exact h0⟩
        · skip
          refine w_aload_n 78 dX5_readLine_77 rfl rfl ?_
          refine w_iconst 79 dX5_readLine_78 rfl (v := nI 5) rfl ?_
          refine w_inv1 82 dX5_readLine_79 rfl mlX5_62 rfl rfl (d' := 0) (by decide) (Nat.le_of_ble_eq_true rfl) (c_X5_failR hR1.1.2.2.2.2 hO1 (fun A2 hF hO2 => ?_))
          refine wr_z dX5_readLine_82 rfl (by first | rfl | exact nb_b2i _) ?_
          exact kq (hf 5 _ (by simp only [lineP, hq]; rw [if_neg (by omega), if_pos (by omega)]) A2 hF hO2) rfl
      · skip
        refine w_iload_n 52 dX5_readLine_51 rfl rfl ?_
        refine w_ifeqN 61 55 dX5_readLine_52 rfl rfl (by decide) (fun cc => absurd cc (by decide)) (fun _ => ?_)
        refine w_aload_n 56 dX5_readLine_55 rfl rfl ?_
        refine w_iconst 57 dX5_readLine_56 rfl (v := nI 3) rfl ?_
        refine w_inv1 60 dX5_readLine_57 rfl mlX5_62 rfl rfl (d' := 0) (by decide) (Nat.le_of_ble_eq_true rfl) (c_X5_failR hR1.1.2.2.2.2 hO1 (fun A2 hF hO2 => ?_))
        refine wr_z dX5_readLine_60 rfl (by first | rfl | exact nb_b2i _) ?_
        exact kq (hf 3 _ (by simp only [lineP, hq]; rw [if_pos ⟨c48, by omega⟩]) A2 hF hO2) rfl

theorem a_X5_read36 {K : Option Value → AH → Prop} {A : AH} {n i : Nat} (hi : i < 2 ^ 31) (hn : n < 2 ^ 31) (h : WP mX5_read 9 dC gC 71 [some (.ref 1), some (.int (nI n)), some (.int (nI 0)), some (.int (nI i))] [] A K) : WP mX5_read 9 dC gC 36 [some (.ref 1), some (.int (nI n)), some (.int (nI 0)), some (.int (nI i))] [] A K := by
  refine w_iload_n 37 dX5_read_36 rfl rfl ?_
  refine w_iload_n 38 dX5_read_37 rfl rfl ?_
  refine w_icgtN 71 41 dX5_read_38 rfl rfl hi hn (fun _ => h) (fun _ => ?_)
  refine w_iload_n 42 dX5_read_41 rfl rfl ?_
  exact w_ifeqN 71 45 dX5_read_42 rfl rfl (by decide) (fun _ => h) (fun c => absurd rfl c)
set_option maxRecDepth 4000 in
theorem a_X5_readF {K : Option Value → AH → Prop} {A : AH} {f pl n i : Nat} (hF : FL f pl A) (hf : 1 ≤ f ∧ f ≤ 6) (h : K none A) : WP mX5_read 9 dC gC 71 [some (.ref 1), some (.int (nI n)), some (.int (nI 0)), some (.int (nI i))] [] A K := by
  refine w_aload_n 72 dX5_read_71 rfl rfl ?_
  refine w_getiv 75 dX5_read_72 rfl faX5_36 rfl rfl rfl hF.1 ?_
  refine w_ifneN 96 78 dX5_read_75 rfl rfl (by omega) (fun c75 => ?_) (fun c75 => (by omega))
  refine wr_v dX5_read_96 rfl ?_
  exact h

set_option maxRecDepth 4000 in
theorem a_X5_readE {K : Option Value → AH → Prop} {A0 A : AH} {tp : Nat → Int32} {e p st n i : Nat} {row : List Nat} {w : WT} {nm : NT} (hO : OffL rdL A0 A) (hR : RS tp e p st row w nm A) (h7 : w.1 1 ≤ 7) (hf : w.1 1 = 0 → ∀ A', FL 6 st A' → OffL rdL A0 A' → K none A') (h : w.1 1 ≠ 0 → K none A) : WP mX5_read 9 dC gC 71 [some (.ref 1), some (.int (nI n)), some (.int (nI 0)), some (.int (nI i))] [] A K := by
  refine w_aload_n 72 dX5_read_71 rfl rfl ?_
  refine w_getiv 75 dX5_read_72 rfl faX5_36 rfl rfl rfl (v := nI 0) hR.2.2.2.2.1 ?_
  refine w_ifneN 96 78 dX5_read_75 rfl rfl (by omega) (fun c75 => (by exact absurd rfl c75)) (fun c75 => ?_)
  refine w_aload_n 79 dX5_read_78 rfl rfl ?_
  refine w_getr 82 dX5_read_79 rfl faX5_32 rfl rfl rfl (r := .ref 9) rfl ?_
  refine w_iconst 83 dX5_read_82 rfl (v := nI 1) rfl ?_
  refine w_inv1 86 dX5_read_83 rfl mlX5_58 rfl rfl (d' := 1) (by decide) (Nat.le_of_ble_eq_true rfl) (c_X10_howMany_9 hR.2.2.1 (by decide) ?_)
  refine w_ifneN 96 89 dX5_read_86 rfl rfl (by omega) (fun c86 => ?_) (fun c86 => ?_)
  · skip
    refine wr_v dX5_read_96 rfl ?_
    exact h c86
  · skip
    refine w_aload_n 90 dX5_read_89 rfl rfl ?_
    refine w_bipush 92 dX5_read_90 rfl (v := nI 6) rfl ?_
    refine w_inv1 95 dX5_read_92 rfl mlX5_62 rfl rfl (d' := 0) (by decide) (Nat.le_of_ble_eq_true rfl) (c_X5_failR hR.1.2.2.2.2 hO (fun A2 hF hO2 => ?_))
    refine w_pop 96 dX5_read_95 rfl ?_
    refine wr_v dX5_read_96 rfl ?_
    exact hf c86 A2 hF hO2

set_option maxRecDepth 4000 in
theorem c_X5_read {K : Option Value → AH → Prop} {A : AH} {tp : Nat → Int32} {n c : Nat} (hc : A.1 7 1 = nI c) (hc9 : c ≤ 900) (hn : n ≤ c) (hb : ∀ i, i < c → A.1 8 i = tp i) (hB : ∀ i, i < c → isB (tp i)) (hf : ∀ f pl, allP (gB tp) n (n + 1) 0 emptyW noN = .inl (f, pl) → ∀ A', FL f pl A' → OffL rdL A A' → K none A') (hs : ∀ w, allP (gB tp) n (n + 1) 0 emptyW noN = .inr w → ∀ A', RepT w 9 A' → R0 A' → OffL rdL A A' → K none A') : Ct yX5_read mX5_read 9 dC gC [.ref 1, .int (nI n)] A K := by
  refine Ct.of [some (.ref 1), some (.int (nI n)), none, none] rfl rfl rfl (Nat.le_of_ble_eq_true rfl) ?_
  have lp36 : ∀ (nf : Nat) (i p : Nat) (w : WT) (nm : NT) (A' : AH), i ≤ p → OffL rdL A A' → RW tp n p w nm A' → PI w nm → allP (gB tp) n (n + 1 - i) p w nm = allP (gB tp) n (n + 1) 0 emptyW noN → n - i < nf → WP mX5_read 9 dC gC 36 [some (.ref 1), some (.int (nI n)), some (.int (b2i true)), some (.int (nI i))] [] A' K := by
    intro nf
    induction nf with
    | zero => intros; omega
    | succ nf ih =>
      intro i p w nm A' hi hO hR hP hA hms
      have hpn : p ≤ n := hR.1.2.2.2
      rw [show n + 1 - i = (n - i) + 1 by omega] at hA
      simp only [allP] at hA
      refine w_iload_n 37 dX5_read_36 rfl rfl ?_
      refine w_iload_n 38 dX5_read_37 rfl rfl ?_
      refine w_icgtN 71 41 dX5_read_38 rfl rfl (by omega) (by omega) (fun c38 => (by omega)) (fun c38 => ?_)
      refine w_iload_n 42 dX5_read_41 rfl rfl ?_
      refine w_ifeqB 71 45 dX5_read_42 rfl rfl (fun cc => by cases cc) (fun _ => ?_)
      refine w_aload_n 46 dX5_read_45 rfl rfl ?_
      refine w_inv0 49 dX5_read_46 rfl mlX5_51 rfl rfl (d' := 8) (by decide) (Nat.le_of_ble_eq_true rfl) (c_X5_readLine hO hR hP (fun f l hp A3 hF hO3 => ?_) (fun p' w' nm' hp st' row' A3 hR3 hO3 => ?_))
      · skip
        rw [hp] at hA
        dsimp only at hA
        refine w_ifeqB 63 52 dX5_read_49 rfl rfl (fun _ => ?_) (fun cc => by cases cc)
        refine w_iconst 64 dX5_read_63 rfl (v := nI 0) rfl ?_
        refine w_ist2 65 dX5_read_64 rfl (by decide) rfl ?_
        refine w_inc3 68 dX5_read_65 rfl (by decide) rfl (v := nI (_ + 1)) (nI_1 _) ?_
        refine w_goto 36 dX5_read_68 rfl ?_
        exact a_X5_read36 (by omega) (by omega) (a_X5_readF hF (fb_lp hp) (hf f l hA.symm A3 hF hO3))
      · skip
        rw [hp] at hA
        dsimp only at hA
        have hP3 := lineP_PI hP hp
        have hmn := mn_lp hp
        refine w_ifeqB 63 52 dX5_read_49 rfl rfl (fun cc => by cases cc) (fun _ => ?_)
        refine w_aload_n 53 dX5_read_52 rfl rfl ?_
        refine w_inv0 56 dX5_read_53 rfl mlX5_55 rfl rfl (d' := 2) (by decide) (Nat.le_of_ble_eq_true rfl) (c_X5_goesOn hO3 hR3 (fun q A4 hR4 hO4 => ?_) (fun q A4 hR4 hO4 => ?_) (fun q q2 A4 hF4 hO4 => ?_))
        · skip
          rw [if_pos q] at hA
          refine w_ifeqB 63 59 dX5_read_56 rfl rfl (fun _ => ?_) (fun cc => by cases cc)
          refine w_iconst 64 dX5_read_63 rfl (v := nI 0) rfl ?_
          refine w_ist2 65 dX5_read_64 rfl (by decide) rfl ?_
          refine w_inc3 68 dX5_read_65 rfl (by decide) rfl (v := nI (_ + 1)) (nI_1 _) ?_
          refine w_goto 36 dX5_read_68 rfl ?_
          refine a_X5_read36 (by omega) (by omega) (a_X5_readE hO4 hR4 hP3.rooms.2.1 (fun z A5 hF5 hO5 => ?_) (fun z => ?_))
          · rw [if_pos z] at hA
            exact hf _ _ hA.symm A5 hF5 hO5
          · rw [if_neg z] at hA
            exact hs w' hA.symm A4 hR4.2.2.1 hR4.2.2.2.2 hO4
        · skip
          rw [if_neg (by omega), if_pos q] at hA
          refine w_ifeqB 63 59 dX5_read_56 rfl rfl (fun cc => by cases cc) (fun _ => ?_)
          refine w_iconst 60 dX5_read_59 rfl (v := nI 1) rfl ?_
          refine w_goto 64 dX5_read_60 rfl ?_
          refine w_ist2 65 dX5_read_64 rfl (by decide) rfl ?_
          refine w_inc3 68 dX5_read_65 rfl (by decide) rfl (v := nI (_ + 1)) (nI_1 _) ?_
          refine w_goto 36 dX5_read_68 rfl ?_
          have h3 := tkE_3 q
          have h4 : tkE (gB tp) n p' ≤ n := hR4.1.2.2.2.1
          refine wp_eq rfl rfl rfl (ih (i + 1) _ w' nm' A4 (by omega) hO4 hR4.w hP3 ?_ (by omega))
          rw [show n + 1 - (i + 1) = n - i by omega]
          exact hA
        · skip
          rw [if_neg q, if_neg q2] at hA
          refine w_ifeqB 63 59 dX5_read_56 rfl rfl (fun _ => ?_) (fun cc => by cases cc)
          refine w_iconst 64 dX5_read_63 rfl (v := nI 0) rfl ?_
          refine w_ist2 65 dX5_read_64 rfl (by decide) rfl ?_
          refine w_inc3 68 dX5_read_65 rfl (by decide) rfl (v := nI (_ + 1)) (nI_1 _) ?_
          refine w_goto 36 dX5_read_68 rfl ?_
          exact a_X5_read36 (by omega) (by omega) (a_X5_readF hF4 (by decide) (hf _ _ hA.symm A4 hF4 hO4))
  refine w_aload_n 1 dX5_read_0 rfl rfl ?_
  refine w_iconst 2 dX5_read_1 rfl (v := nI 0) rfl ?_
  refine w_puti 5 dX5_read_2 rfl faX5_36 rfl rfl rfl rfl ?_
  refine w_aload_n 6 dX5_read_5 rfl rfl ?_
  refine w_iconst 7 dX5_read_6 rfl (v := (-1)) rfl ?_
  refine w_puti 10 dX5_read_7 rfl faX5_40 rfl rfl rfl rfl ?_
  refine w_aload_n 11 dX5_read_10 rfl rfl ?_
  refine w_getr 14 dX5_read_11 rfl faX5_32 rfl rfl rfl (r := .ref 9) rfl ?_
  refine w_inv0 17 dX5_read_14 rfl mlX5_43 rfl rfl (d' := 1) (by decide) (Nat.le_of_ble_eq_true rfl) (c_X10_clear (fun A1 hT1 hO1 => ?_))
  refine w_aload_n 18 dX5_read_17 rfl rfl ?_
  refine w_getr 21 dX5_read_18 rfl faX5_12 rfl rfl rfl (r := .ref 2) rfl ?_
  refine w_inv0 24 dX5_read_21 rfl mlX5_46 rfl rfl (d' := 0) (by decide) (Nat.le_of_ble_eq_true rfl) (c_X3_clear (fun A2 hN2 hO2 => ?_))
  refine w_aload_n 25 dX5_read_24 rfl rfl ?_
  refine w_getr 28 dX5_read_25 rfl faX5_25 rfl rfl rfl (r := .ref 7) rfl ?_
  refine w_iload_n 29 dX5_read_28 rfl rfl ?_
  refine w_inv1 32 dX5_read_29 rfl mlX5_47 rfl rfl (d' := 0) (by decide) (Nat.le_of_ble_eq_true rfl) (c_X9_rewind (c := c) (n := n) (by rw [(hO2 7 (by decide)).1, (hO1 7 (by omega)).1]; dsimp only; rw [upd2_ne (by decide), upd2_ne (by decide)]; exact hc) hc9 hn ?_)
  refine w_iconst 33 dX5_read_32 rfl (v := nI 1) rfl ?_
  refine w_ist2 34 dX5_read_33 rfl (by decide) rfl ?_
  refine w_iconst 35 dX5_read_34 rfl (v := nI 0) rfl ?_
  refine w_ist3 36 dX5_read_35 rfl (by decide) rfl ?_
  have o1 : OffL rdL A A1 := ((OffL.rf.upd (by decide) _ _).upd (by decide) _ _).tr (fun x hx => hO1 x (by simp at hx; omega))
  have o3 : OffL rdL A (upd2 (upd2 A2.1 7 2 (nI n)) 7 3 (nI 0), A2.2) := ((o1.tr (hO2.mono (by decide))).upd (by decide) _ _).upd (by decide) _ _
  have f2 : ∀ x, x ≠ 2 → A2.1 x = A1.1 x ∧ A2.2 x = A1.2 x := fun x hx => hO2 x (by simpa using hx)
  have u2 : ∀ x, x ≠ 7 → (upd2 (upd2 A2.1 7 2 (nI n)) 7 3 (nI 0)) x = A2.1 x := fun x hx => by rw [upd2_ne hx, upd2_ne hx]
  have g1 : ∀ x, x ≠ 1 → x < 10 → A1.1 x = A.1 x := fun x hx hl => by rw [(hO1 x (by omega)).1]; dsimp only; rw [upd2_ne hx, upd2_ne hx]
  have g11 : A1.1 1 = upd2 (upd2 A.1 1 5 (nI 0)) 1 6 (-1) 1 := (hO1 1 (by omega)).1
  refine lp36 _ 0 0 emptyW noN _ (Nat.le_refl 0) o3 ⟨⟨⟨by omega, fun i hi => ?_, fun i hi => hB i (by omega)⟩, ?_, ?_, Nat.zero_le _⟩, hT1.cong (fun x a b => ?_), hN2.cong ?_ rfl ?_ ?_, ?_, ?_⟩ PI.empty rfl (Nat.lt_succ_self _)
  · dsimp only; rw [u2 8 (by decide), (f2 8 (by decide)).1, g1 8 (by decide) (by decide)]; exact hb i (by omega)
  · dsimp only; rw [upd2_off (by decide), upd2_at]
  · dsimp only; rw [upd2_at]
  · dsimp only; rw [u2 x (by omega), (f2 x (by omega)).1]
  · dsimp only; rw [u2 2 (by decide)]
  · dsimp only; rw [u2 4 (by decide)]
  · dsimp only; rw [u2 5 (by decide)]
  · dsimp only; rw [u2 1 (by decide), (f2 1 (by decide)).1, g11, upd2_off (by decide), upd2_at]
  · dsimp only; rw [u2 1 (by decide), (f2 1 (by decide)).1, g11, upd2_at]

