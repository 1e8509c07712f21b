/-! ===== rules over long numbers lN n ===== -/
theorem lcE {x y : Nat} (hx : x < 2 ^ 63) (hy : y < 2 ^ 63) : lg_cmp (lN x) (lN y) = if y < x then 1 else if x = y then 0 else -1 := by
  unfold lg_cmp
  have e1 : (lN x > lN y) ↔ y < x := pk_lLT hy hx
  have e2 := pk_lEQ hx hy
  simp only [e1, e2]
theorem w_laddN {M : MI} {d : Nat} {dm : Nat × Nat} {G : Nat → Nat → Value} {pc : Nat} {L : List (Option Value)} {S : List Value} {A : AH} {K : Option Value → AH → Prop} {x y : Nat} (q : Nat) (hd : decode M.2.1 pc = .ok (.ladd, 1)) (hq : pc + 1 = q)  (k : WP M d dm G q L (.long (lN (x + y)) :: S) A K) : WP M d dm G pc L (.long (lN y) :: .long (lN x) :: S) A K := by
  refine w_ladd q hd hq ?_; rw [lN_add]; exact k
theorem w_lmulN {M : MI} {d : Nat} {dm : Nat × Nat} {G : Nat → Nat → Value} {pc : Nat} {L : List (Option Value)} {S : List Value} {A : AH} {K : Option Value → AH → Prop} {x y : Nat} (q : Nat) (hd : decode M.2.1 pc = .ok (.lmul, 1)) (hq : pc + 1 = q)  (k : WP M d dm G q L (.long (lN (x * y)) :: S) A K) : WP M d dm G pc L (.long (lN y) :: .long (lN x) :: S) A K := by
  refine w_lmul q hd hq ?_; rw [lN_mul]; exact k
theorem lN_ne0 {y : Nat} (h0 : 0 < y) (hy : y < 2 ^ 63) : ¬ lN y = 0 := by
  intro e
  have := (pk_lEQ hy (show 0 < 2 ^ 63 by decide)).mp (e.trans (show (0 : Int64) = lN 0 from rfl))
  omega
theorem w_ldivN {M : MI} {d : Nat} {dm : Nat × Nat} {G : Nat → Nat → Value} {pc : Nat} {L : List (Option Value)} {S : List Value} {A : AH} {K : Option Value → AH → Prop} {x y : Nat} (q : Nat) (hd : decode M.2.1 pc = .ok (.ldiv, 1)) (hq : pc + 1 = q) (hx : x < 2 ^ 63) (h0 : 0 < y) (hy : y < 2 ^ 63) (k : WP M d dm G q L (.long (lN (x / y)) :: S) A K) : WP M d dm G pc L (.long (lN y) :: .long (lN x) :: S) A K := by
  refine w_ldiv q hd hq (lN_ne0 h0 hy) ?_; rw [pk_lDiv hx h0 hy]; exact k
theorem w_lremN {M : MI} {d : Nat} {dm : Nat × Nat} {G : Nat → Nat → Value} {pc : Nat} {L : List (Option Value)} {S : List Value} {A : AH} {K : Option Value → AH → Prop} {x y : Nat} (q : Nat) (hd : decode M.2.1 pc = .ok (.lrem, 1)) (hq : pc + 1 = q) (hx : x < 2 ^ 63) (h0 : 0 < y) (hy : y < 2 ^ 63) (k : WP M d dm G q L (.long (lN (x % y)) :: S) A K) : WP M d dm G pc L (.long (lN y) :: .long (lN x) :: S) A K := by
  refine w_lrem q hd hq (lN_ne0 h0 hy) ?_; rw [pk_lRem hx h0 hy]; exact k
theorem w_i2lN {M : MI} {d : Nat} {dm : Nat × Nat} {G : Nat → Nat → Value} {pc : Nat} {L : List (Option Value)} {S : List Value} {A : AH} {K : Option Value → AH → Prop} {x : Nat} (q : Nat) (hd : decode M.2.1 pc = .ok (.i2l, 1)) (hq : pc + 1 = q) (hx : x < 2 ^ 31) (k : WP M d dm G q L (.long (lN x) :: S) A K) : WP M d dm G pc L (.int (nI x) :: S) A K := by
  refine w_i2l q hd hq ?_; rw [nI_l hx]; exact k
theorem w_l2iN {M : MI} {d : Nat} {dm : Nat × Nat} {G : Nat → Nat → Value} {pc : Nat} {L : List (Option Value)} {S : List Value} {A : AH} {K : Option Value → AH → Prop} {x : Nat} (q : Nat) (hd : decode M.2.1 pc = .ok (.l2i, 1)) (hq : pc + 1 = q)  (k : WP M d dm G q L (.int (nI x) :: S) A K) : WP M d dm G pc L (.long (lN x) :: S) A K := by
  refine w_l2i q hd hq ?_; rw [lN_i]; exact k
theorem w_laldv {M : MI} {d : Nat} {dm : Nat × Nat} {G : Nat → Nat → Value} {pc : Nat} {L : List (Option Value)} {S : List Value} {A : AH} {K : Option Value → AH → Prop} {o n i : Nat} {v : Int64} (q : Nat) (hd : decode M.2.1 pc = .ok (.laload, 1)) (hq : pc + 1 = q) (ho : inD dm o = true) (hs : shp o = .inr (3, n)) (hn : n < 2 ^ 31) (hi : i < n) (hx : A.2 o i = v) (k : WP M d dm G q L (.long v :: S) A K) : WP M d dm G pc L (.int (nI i) :: .ref o :: S) A K := by
  refine w_laldN q hd hq ho hs hn hi ?_; rw [hx]; exact k
theorem w_getjv {M : MI} {d : Nat} {dm : Nat × Nat} {G : Nat → Nat → Value} {pc : Nat} {L : List (Option Value)} {S : List Value} {A : AH} {K : Option Value → AH → Prop} {i ci f o : Nat} {v : Int64} (q : Nat) (hd : decode M.2.1 pc = .ok (.getfield i, 3)) (hq : pc + 3 = q) (hf0 : FA M.1 i ci f) (ho : inD dm o = true) (hs : shp o = .inl ci) (ht : clTy ci f = .long) (hx : A.2 o f = v) (k : WP M d dm G q L (.long v :: S) A K) : WP M d dm G pc L (.ref o :: S) A K := by
  refine w_getj q hd hq hf0 ho hs ht ?_; rw [hx]; exact k
theorem w_ifeqL {M : MI} {d : Nat} {dm : Nat × Nat} {G : Nat → Nat → Value} {pc : Nat} {L : List (Option Value)} {S : List Value} {A : AH} {K : Option Value → AH → Prop} {x y : Nat} {off : Int} (t q : Nat) (hd : decode M.2.1 pc = .ok (.ifCond .eq off, 3)) (ht : (pc : Int) + off = (t : Int)) (hq : pc + 3 = q) (hx : x < 2 ^ 63) (hy : y < 2 ^ 63) (kt : x = y → WP M d dm G t L S A K) (kf : x ≠ y → WP M d dm G q L S A K) : WP M d dm G pc L (.int (lg_cmp (lN x) (lN y)) :: S) A K := by
  rw [lcE hx hy]
  refine w_ifeq t q hd ht hq (fun h => kt ?_) (fun h => kf ?_)
  all_goals (rcases Nat.lt_trichotomy x y with q | q | q)
  all_goals first
    | omega
    | (exfalso; revert h; simp only [show ¬ y < x from by omega, show ¬ x = y from by omega, if_false]; decide)
    | (exfalso; revert h; simp only [show ¬ y < x from by omega, show x = y from q, if_false, if_true]; simp)
    | (exfalso; revert h; simp only [show y < x from q, if_true]; decide)
theorem w_ifneL {M : MI} {d : Nat} {dm : Nat × Nat} {G : Nat → Nat → Value} {pc : Nat} {L : List (Option Value)} {S : List Value} {A : AH} {K : Option Value → AH → Prop} {x y : Nat} {off : Int} (t q : Nat) (hd : decode M.2.1 pc = .ok (.ifCond .ne off, 3)) (ht : (pc : Int) + off = (t : Int)) (hq : pc + 3 = q) (hx : x < 2 ^ 63) (hy : y < 2 ^ 63) (kt : x ≠ y → WP M d dm G t L S A K) (kf : x = y → WP M d dm G q L S A K) : WP M d dm G pc L (.int (lg_cmp (lN x) (lN y)) :: S) A K := by
  rw [lcE hx hy]
  refine w_ifne t q hd ht hq (fun h => kt ?_) (fun h => kf ?_)
  all_goals (rcases Nat.lt_trichotomy x y with q | q | q)
  all_goals first
    | omega
    | (exfalso; revert h; simp only [show ¬ y < x from by omega, show ¬ x = y from by omega, if_false]; decide)
    | (exfalso; revert h; simp only [show ¬ y < x from by omega, show x = y from q, if_false, if_true]; simp)
    | (exfalso; revert h; simp only [show y < x from q, if_true]; decide)
theorem w_ifleL {M : MI} {d : Nat} {dm : Nat × Nat} {G : Nat → Nat → Value} {pc : Nat} {L : List (Option Value)} {S : List Value} {A : AH} {K : Option Value → AH → Prop} {x y : Nat} {off : Int} (t q : Nat) (hd : decode M.2.1 pc = .ok (.ifCond .le off, 3)) (ht : (pc : Int) + off = (t : Int)) (hq : pc + 3 = q) (hx : x < 2 ^ 63) (hy : y < 2 ^ 63) (kt : x ≤ y → WP M d dm G t L S A K) (kf : y < x → WP M d dm G q L S A K) : WP M d dm G pc L (.int (lg_cmp (lN x) (lN y)) :: S) A K := by
  rw [lcE hx hy]
  refine w_ifle t q hd ht hq (fun h => kt ?_) (fun h => kf ?_)
  all_goals (rcases Nat.lt_trichotomy x y with q | q | q)
  all_goals first
    | omega
    | (exfalso; revert h; simp only [show ¬ y < x from by omega, show ¬ x = y from by omega, if_false]; decide)
    | (exfalso; revert h; simp only [show ¬ y < x from by omega, show x = y from q, if_false, if_true]; simp)
    | (exfalso; revert h; simp only [show y < x from q, if_true]; decide)
theorem w_ifgtL {M : MI} {d : Nat} {dm : Nat × Nat} {G : Nat → Nat → Value} {pc : Nat} {L : List (Option Value)} {S : List Value} {A : AH} {K : Option Value → AH → Prop} {x y : Nat} {off : Int} (t q : Nat) (hd : decode M.2.1 pc = .ok (.ifCond .gt off, 3)) (ht : (pc : Int) + off = (t : Int)) (hq : pc + 3 = q) (hx : x < 2 ^ 63) (hy : y < 2 ^ 63) (kt : y < x → WP M d dm G t L S A K) (kf : x ≤ y → WP M d dm G q L S A K) : WP M d dm G pc L (.int (lg_cmp (lN x) (lN y)) :: S) A K := by
  rw [lcE hx hy]
  refine w_ifgt t q hd ht hq (fun h => kt ?_) (fun h => kf ?_)
  all_goals (rcases Nat.lt_trichotomy x y with q | q | q)
  all_goals first
    | omega
    | (exfalso; revert h; simp only [show ¬ y < x from by omega, show ¬ x = y from by omega, if_false]; decide)
    | (exfalso; revert h; simp only [show ¬ y < x from by omega, show x = y from q, if_false, if_true]; simp)
    | (exfalso; revert h; simp only [show y < x from q, if_true]; decide)
theorem w_ifltL {M : MI} {d : Nat} {dm : Nat × Nat} {G : Nat → Nat → Value} {pc : Nat} {L : List (Option Value)} {S : List Value} {A : AH} {K : Option Value → AH → Prop} {x y : Nat} {off : Int} (t q : Nat) (hd : decode M.2.1 pc = .ok (.ifCond .lt off, 3)) (ht : (pc : Int) + off = (t : Int)) (hq : pc + 3 = q) (hx : x < 2 ^ 63) (hy : y < 2 ^ 63) (kt : x < y → WP M d dm G t L S A K) (kf : y ≤ x → WP M d dm G q L S A K) : WP M d dm G pc L (.int (lg_cmp (lN x) (lN y)) :: S) A K := by
  rw [lcE hx hy]
  refine w_iflt t q hd ht hq (fun h => kt ?_) (fun h => kf ?_)
  all_goals (rcases Nat.lt_trichotomy x y with q | q | q)
  all_goals first
    | omega
    | (exfalso; revert h; simp only [show ¬ y < x from by omega, show ¬ x = y from by omega, if_false]; decide)
    | (exfalso; revert h; simp only [show ¬ y < x from by omega, show x = y from q, if_false, if_true]; simp)
    | (exfalso; revert h; simp only [show y < x from q, if_true]; decide)
theorem w_ifgeL {M : MI} {d : Nat} {dm : Nat × Nat} {G : Nat → Nat → Value} {pc : Nat} {L : List (Option Value)} {S : List Value} {A : AH} {K : Option Value → AH → Prop} {x y : Nat} {off : Int} (t q : Nat) (hd : decode M.2.1 pc = .ok (.ifCond .ge off, 3)) (ht : (pc : Int) + off = (t : Int)) (hq : pc + 3 = q) (hx : x < 2 ^ 63) (hy : y < 2 ^ 63) (kt : y ≤ x → WP M d dm G t L S A K) (kf : x < y → WP M d dm G q L S A K) : WP M d dm G pc L (.int (lg_cmp (lN x) (lN y)) :: S) A K := by
  rw [lcE hx hy]
  refine w_ifge t q hd ht hq (fun h => kt ?_) (fun h => kf ?_)
  all_goals (rcases Nat.lt_trichotomy x y with q | q | q)
  all_goals first
    | omega
    | (exfalso; revert h; simp only [show ¬ y < x from by omega, show ¬ x = y from by omega, if_false]; decide)
    | (exfalso; revert h; simp only [show ¬ y < x from by omega, show x = y from q, if_false, if_true]; simp)
    | (exfalso; revert h; simp only [show y < x from q, if_true]; decide)
