/-! THE CLAIM OUT OF ONE WALK OF THE LAW'S BODY. Your part is whole_start (and what it stands on); all else here is the same for every law, but numbers. -/
def R_law : String := "PromiseWebLaw"
def lw_P (b : Addr) (xs : List Int32) (args : Array Value) (s : State) : Prop := args = #[.ref b] ∧ s.IntsAt b xs ∧ xs.length ≤ 3072 ∧ (Jvm.Cond.and given_1 narrow_1).before args s = true
def lw_Q (_ : Array Value) (s : State) (o : Outcome) (t : State) : Prop := o = .returned (some (.int 1)) ∧ Framed s o t [] 601024 7293033
def lw_Z (below : List Frame) (a : Array Value) (s : State) : State → Prop := fun t => ∃ o, t.status = .running ∧ Ended t below o ∧ lw_Q a s o t
/-- the law's own end, with 1 on the stack, nothing written that was there before, its room as the claim has it -/
theorem lw_ret {p : Program} {l : Launch} {e : Env} {s : State} {m : MethodId} {below : List Frame} {meth : Method} {c : Code} {b : Nat} (hx : p.tables.exec = Jvm.exec) (hb : c.code = code) (hr : meth.sig.returnType = ret) (hlocks : meth.locks = false) {pc : Nat} {H : Heap} {ls : Array Slot} (hdg : decode code pc = .ok (.ireturn, 1)) : W p l e room_1 s m #[Value.ref b] below meth c H [] 601024 7293033 (lw_Z below #[Value.ref b] s) (F0 m pc ls [.int 1]) := by
  intro T hT X
  obtain ⟨fs, hret, hrun, hended, hW, hframe⟩ := X.leave (v := some (.int 1)) (hlocks := hlocks) (fun h => by rw [hr] at h; cases h)
  have hmeth' : T.vm.method? m = some meth := X.method'
  refine ⟨T.setFrames fs, ?_, .returned (some (.int 1)), hrun, hended, rfl, ⟨_, rfl⟩, hW, hframe⟩
  jvm_step X.here [X.here.top, hx, hb, hdg, hmeth', hr, ret, narrow_b1]
  (try refine ⟨rfl, ?_⟩); (try refine ⟨rfl, ?_⟩)
  first | (intro acts; rw [hret _ acts rfl rfl rfl]) | rw [hret _ _ rfl rfl rfl]
  exact Steps.refl _
/-- what holds at the law's entry: the machine, the code, the tables' words (any of lw_tbl by 'hts w (by decide +kernel)'), the script of L ints xs at the cell b, what the Statement gives of the start (any of its parts by flat_of_before) -/
def lw_At (p : Program) (s : State) (m : MethodId) (meth : Method) (c : Code) (b L : Nat) (xs : Nat → Int32) : Prop :=
  p.tables.exec = Jvm.exec ∧ c.code = code ∧ meth.sig.returnType = ret ∧ c.maxLocals = 7 ∧ s.vm.findClass R_law = some m.cls ∧ (∀ w ∈ lw_tbl, w.before #[Value.ref b] s = true) ∧ va_X b L xs s s.heap ∧ b < s.heap.size ∧ meth.locks = false ∧ (Jvm.Cond.and given_1 narrow_1).before #[Value.ref b] s = true
/-! ===== the law: its loop ===== -/
theorem and63 (x : Int32) : ∃ j, j < 64 ∧ x &&& 63 = nI j := by
  refine ⟨x.toBitVec.toNat % 64, Nat.mod_lt _ (by decide), ?_⟩
  apply Int32.toBitVec_inj.1
  show x.toBitVec &&& 63#32 = BitVec.ofNat 32 (x.toBitVec.toNat % 64)
  apply BitVec.eq_of_toNat_eq
  rw [BitVec.toNat_and, BitVec.toNat_ofNat]
  show x.toBitVec.toNat &&& 63 = x.toBitVec.toNat % 64 % 2 ^ 32
  rw [show (63 : Nat) = 2 ^ 6 - 1 from rfl, Nat.and_two_pow_sub_one_eq_mod]
  omega
theorem head_in {L k : Nat} (hL : L ≤ 3072) (hk : 6 * k ≤ L) (h : ¬ (Int32.ofNat L - 6 < nI (6 * k))) : 6 * k + 5 < L := by
  by_cases h6 : 6 ≤ L
  · have e : Int32.ofNat L - 6 = nI (L - 6) := nI_subN (a := L) (b := 6) h6
    rw [e, nI_ltI (by omega) (by omega)] at h
    omega
  · have hk0 : k = 0 := by omega
    subst hk0
    exfalso
    apply h
    rcases L with _ | _ | _ | _ | _ | _ | L
    all_goals first | decide | omega
set_option maxRecDepth 8000 in
theorem law_loop {p : Program} {l : Launch} {e : Env} {s : State} {m : MethodId} {below : List Frame} {meth : Method} {c : Code} {b L : Nat} {xs : Nat → Int32} {D : va_G} {aC : Nat → ClassId} {qo : Nat} (hl : l.stackTraces = false) (hZ : ZT (BL s) s s.heap) (hL : L ≤ 3072) (hF : CallFix p m c code 7 s #[Value.ref b] TW RL) (hX : va_X b L xs s s.heap) (hbl : b < s.heap.size) (hret : meth.sig.returnType = ret) (hlk : meth.locks = false) : ∀ (nf k : Nat), L + 6 - 6 * k < nf → 6 * k ≤ L → ∀ (ρ : Nat → Nat) (r : Value) (f : Nat → Int64) (hw : Bool) (Ac Am : AH) (H : Heap) (locs : List Loc) (ls : Array Slot), LI D aC s ρ r hw Ac Am qo f H → JS hw Ac Am → va_S (BL s) s.heap H locs → lv_has ls 7 (lvL b ρ qo (6 * k)) → W p l e room_1 s m #[Value.ref b] below meth c H locs (72 + 22 * k) (5260 + 181 * k) (lw_Z below #[Value.ref b] s) (F0 m 23 ls []) := by
  intro nf
  induction nf with
  | zero => intros; omega
  | succ nf ih =>
    intro k hms hk ρ r f hw Ac Am H locs ls hI hJS hS hv
    have hR : 72 + 22 * k + 22 ≤ room_1.cells ∧ 5260 + 181 * k + 181 ≤ room_1.slots := ⟨by show _ ≤ 601024; omega, by show _ ≤ 7293033; omega⟩
    refine lv_iload hF.1 hF.2.1 dL_law_23 (lv_at hv 0 rfl) ?_
    refine lv_aload_n hF.1 hF.2.1 dL_law_25 rfl (lv_at hv 4 rfl) ?_
    refine va_slen hF.1 hF.2.1 hX hbl (Nat.not_le.mpr hbl) hS dL_law_26 ?_
    refine lv_bipush (v := 6) hF.1 hF.2.1 dL_law_27 rfl ?_
    refine lv_isub hF.1 hF.2.1 dL_law_29 ?_
    refine lv_icmp_gt (tgt := 2013) hF.1 hF.2.1 dL_law_30 (by decide) (fun h => ?_) (fun h => ?_)
    · refine lv_iconst (v := 1) hF.1 hF.2.1 dL_law_2013 rfl ?_
      refine W.widen (k := 601024) (n := 7293033) (by omega) (by omega) ?_
      refine va_forget (fun q hq => hS.2.2 q hq) ?_
      exact lw_ret hF.1 hF.2.1 hret hlk dL_law_2014
    have hi := head_in hL hk h
    refine lv_aload_n hF.1 hF.2.1 dL_law_33 rfl (lv_at hv 4 rfl) ?_
    refine lv_iload hF.1 hF.2.1 dL_law_34 (lv_at hv 0 rfl) ?_
    refine va_sld hF.1 hF.2.1 hX hbl (Nat.not_le.mpr hbl) hS (vp_in_nI (show 6 * k < L by omega) (by omega)) dL_law_36 ?_
    refine lv_bipush (v := 63) hF.1 hF.2.1 dL_law_37 rfl ?_
    refine lv_iand hF.1 hF.2.1 dL_law_39 ?_
    obtain ⟨j, hj, ej⟩ := and63 (xs (nI (6 * k)).toNatClampNeg)
    rw [ej]
    have nxt : NX p l e s m below meth c b D aC qo (6 * k) (72 + 22 * k) (5260 + 181 * k) (lw_Z below #[Value.ref b] s) := by
      intro ρ r f hw Ac Am H locs ls ce' sl' hI hJS hS hv h1 h2
      refine lv_iinc (v := nI (6 * (k + 1))) (lv' := lvL b ρ qo (6 * (k + 1))) hF.1 hF.2.1 dL_law_2007 hv (k := 0) rfl (by show nI (6 * k) + nI 6 = _; rw [nI_add]; rfl) (by decide) rfl (fun ls2 hv2 => ?_)
      refine lv_goto (tgt := 23) hF.1 hF.2.1 dL_law_2010 (by decide) ?_
      refine W.widen (k := 72 + 22 * (k + 1)) (n := 5260 + 181 * (k + 1)) (by omega) (by omega) ?_
      exact ih (k + 1) (by omega) (by omega) ρ r f hw Ac Am H locs ls2 hI hJS hS hv2
    have hJS0 := hJS
    obtain ⟨w, sN, HH, II, nx, cN, mN, fN, pl, n0, tp, tN, hJ⟩ := hJS
    rcases j with _ | _ | _ | _ | _ | _ | _ | _ | _ | _ | _ | _ | _ | _ | _ | _ | _ | _ | _ | _ | _ | _ | _ | _ | _ | _ | _ | _ | _ | _ | _ | _ | _ | _ | _ | _ | _ | _ | _ | _ | _ | _ | _ | _ | _ | _ | _ | _ | _ | _ | _ | _ | _ | _ | _ | _ | _ | _ | _ | _ | _ | _ | _ | _ | j
    · exact lv_tableIn (off := 240) (tgt := 280) hF.1 hF.2.1 dL_law_40 (by decide) (by decide) rfl (by decide) (law_0 hF hX hbl hL hi hI hJ hS hv hR nxt)
    · exact lv_tableIn (off := 313) (tgt := 353) hF.1 hF.2.1 dL_law_40 (by decide) (by decide) rfl (by decide) (law_1 hF hX hbl hL hi hI hJ hS hv hR nxt)
    · exact lv_tableIn (off := 338) (tgt := 378) hF.1 hF.2.1 dL_law_40 (by decide) (by decide) rfl (by decide) (law_2 hF hX hbl hL hi hI hJ hS hv hR nxt)
    · exact lv_tableIn (off := 351) (tgt := 391) hF.1 hF.2.1 dL_law_40 (by decide) (by decide) rfl (by decide) (law_3 hF hX hbl hL hi hI hJ hS hv hR nxt)
    · exact lv_tableIn (off := 364) (tgt := 404) hF.1 hF.2.1 dL_law_40 (by decide) (by decide) rfl (by decide) (law_4 hF hX hbl hL hi hI hJ hS hv hR nxt)
    · exact lv_tableIn (off := 401) (tgt := 441) hF.1 hF.2.1 dL_law_40 (by decide) (by decide) rfl (by decide) (law_5 hF hX hbl hL hi hI hJ hS hv hR nxt)
    · exact lv_tableIn (off := 438) (tgt := 478) hF.1 hF.2.1 dL_law_40 (by decide) (by decide) rfl (by decide) (law_6 hF hX hbl hL hi hI hJ hS hv hR nxt)
    · exact lv_tableIn (off := 475) (tgt := 515) hF.1 hF.2.1 dL_law_40 (by decide) (by decide) rfl (by decide) (law_7 hF hX hbl hL hi hI hJ hS hv hR nxt)
    · exact lv_tableIn (off := 500) (tgt := 540) hF.1 hF.2.1 dL_law_40 (by decide) (by decide) rfl (by decide) (law_8 hF hX hbl hL hi hI hJ hS hv hR nxt)
    · exact lv_tableIn (off := 525) (tgt := 565) hF.1 hF.2.1 dL_law_40 (by decide) (by decide) rfl (by decide) (law_9 hF hX hbl hL hi hI hJ hS hv hR nxt)
    · exact lv_tableIn (off := 550) (tgt := 590) hF.1 hF.2.1 dL_law_40 (by decide) (by decide) rfl (by decide) (law_10 hF hX hbl hL hi hI hJ hS hv hR nxt)
    · exact lv_tableIn (off := 599) (tgt := 639) hF.1 hF.2.1 dL_law_40 (by decide) (by decide) rfl (by decide) (law_11 hF hX hbl hL hi hI hJ hS hv hR nxt)
    · exact lv_tableIn (off := 648) (tgt := 688) hF.1 hF.2.1 dL_law_40 (by decide) (by decide) rfl (by decide) (law_12 hF hX hbl hL hi hI hJ hS hv hR nxt)
    · exact lv_tableIn (off := 697) (tgt := 737) hF.1 hF.2.1 dL_law_40 (by decide) (by decide) rfl (by decide) (law_13 hF hX hbl hL hi hI hJ hS hv hR nxt)
    · exact lv_tableIn (off := 746) (tgt := 786) hF.1 hF.2.1 dL_law_40 (by decide) (by decide) rfl (by decide) (law_14 hF hX hbl hL hi hI hJ hS hv hR nxt)
    · exact lv_tableIn (off := 771) (tgt := 811) hF.1 hF.2.1 dL_law_40 (by decide) (by decide) rfl (by decide) (law_15 hF hX hbl hL hi hI hJ hS hv hR nxt)
    · exact lv_tableIn (off := 820) (tgt := 860) hF.1 hF.2.1 dL_law_40 (by decide) (by decide) rfl (by decide) (law_16 hF hX hbl hL hi hI hJ hS hv hR nxt)
    · exact lv_tableIn (off := 845) (tgt := 885) hF.1 hF.2.1 dL_law_40 (by decide) (by decide) rfl (by decide) (law_17 hF hX hbl hL hi hI hJ hS hv hR nxt)
    · exact lv_tableIn (off := 870) (tgt := 910) hF.1 hF.2.1 dL_law_40 (by decide) (by decide) rfl (by decide) (law_18 hF hX hbl hL hi hI hJ hS hv hR nxt)
    · exact lv_tableIn (off := 895) (tgt := 935) hF.1 hF.2.1 dL_law_40 (by decide) (by decide) rfl (by decide) (law_19 hF hX hbl hL hi hI hJ hS hv hR nxt)
    · exact lv_tableIn (off := 920) (tgt := 960) hF.1 hF.2.1 dL_law_40 (by decide) (by decide) rfl (by decide) (law_20 hF hX hbl hL hi hI hJ hS hv hR nxt)
    · exact lv_tableIn (off := 945) (tgt := 985) hF.1 hF.2.1 dL_law_40 (by decide) (by decide) rfl (by decide) (law_21 hF hX hbl hL hi hI hJ hS hv hR nxt)
    · exact lv_tableIn (off := 958) (tgt := 998) hF.1 hF.2.1 dL_law_40 (by decide) (by decide) rfl (by decide) (law_22 hF hX hbl hL hi hI hJ hS hv hR nxt)
    · exact lv_tableIn (off := 971) (tgt := 1011) hF.1 hF.2.1 dL_law_40 (by decide) (by decide) rfl (by decide) (law_23 hF hX hbl hL hi hI hJ hS hv hR nxt)
    · exact lv_tableIn (off := 984) (tgt := 1024) hF.1 hF.2.1 dL_law_40 (by decide) (by decide) rfl (by decide) (law_24 hF hX hbl hL hi hI hJ hS hv hR nxt)
    · exact lv_tableIn (off := 1009) (tgt := 1049) hF.1 hF.2.1 dL_law_40 (by decide) (by decide) rfl (by decide) (law_25 hF hX hbl hL hi hI hJ hS hv hR nxt)
    · exact lv_tableIn (off := 1022) (tgt := 1062) hF.1 hF.2.1 dL_law_40 (by decide) (by decide) rfl (by decide) (law_26 hF hX hbl hL hi hI hJ hS hv hR nxt)
    · exact lv_tableIn (off := 1035) (tgt := 1075) hF.1 hF.2.1 dL_law_40 (by decide) (by decide) rfl (by decide) (law_27 hF hX hbl hL hi hI hJ hS hv hR nxt)
    · exact lv_tableIn (off := 1048) (tgt := 1088) hF.1 hF.2.1 dL_law_40 (by decide) (by decide) rfl (by decide) (law_28 hF hX hbl hL hi hI hJ hS hv hR nxt)
    · exact lv_tableIn (off := 1061) (tgt := 1101) hF.1 hF.2.1 dL_law_40 (by decide) (by decide) rfl (by decide) (law_29 hF hX hbl hL hi hI hJ hS hv hR nxt)
    · exact lv_tableIn (off := 1074) (tgt := 1114) hF.1 hF.2.1 dL_law_40 (by decide) (by decide) rfl (by decide) (law_30 hF hX hbl hL hi hI hJ hS hv hR nxt)
    · exact lv_tableIn (off := 1099) (tgt := 1139) hF.1 hF.2.1 dL_law_40 (by decide) (by decide) rfl (by decide) (law_31 hF hX hbl hL hi hI hJ hS hv hR nxt)
    · exact lv_tableIn (off := 1153) (tgt := 1193) hF.1 hF.2.1 dL_law_40 (by decide) (by decide) rfl (by decide) (law_32 hF hX hbl hL hi hI hJ hS hv hR nxt)
    · exact lv_tableIn (off := 1166) (tgt := 1206) hF.1 hF.2.1 dL_law_40 (by decide) (by decide) rfl (by decide) (law_33 hF hX hbl hL hi hI hJ hS hv hR nxt)
    · exact lv_tableIn (off := 1179) (tgt := 1219) hF.1 hF.2.1 dL_law_40 (by decide) (by decide) rfl (by decide) (law_34 hF hX hbl hL hi hI hJ hS hv hR nxt)
    · exact lv_tableIn (off := 1192) (tgt := 1232) hF.1 hF.2.1 dL_law_40 (by decide) (by decide) rfl (by decide) (law_35 hF hX hbl hL hi hI hJ hS hv hR nxt)
    · exact lv_tableIn (off := 1258) (tgt := 1298) hF.1 hF.2.1 dL_law_40 (by decide) (by decide) rfl (by decide) (law_36 hF hX hbl hL hi hI hJ hS hv hR nxt)
    · exact lv_tableIn (off := 1271) (tgt := 1311) hF.1 hF.2.1 dL_law_40 (by decide) (by decide) rfl (by decide) (law_37 hF hX hbl hL hi hI hJ hS hv hR nxt)
    · exact lv_tableIn (off := 1308) (tgt := 1348) hF.1 hF.2.1 dL_law_40 (by decide) (by decide) rfl (by decide) (law_38 hF hX hbl hL hi hI hJ hS hv hR nxt)
    · exact lv_tableIn (off := 1345) (tgt := 1385) hF.1 hF.2.1 dL_law_40 (by decide) (by decide) rfl (by decide) (law_39 hF hX hbl hL hi hI hJ hS hv hR nxt)
    · exact lv_tableIn (off := 1454) (tgt := 1494) hF.1 hF.2.1 dL_law_40 (by decide) (by decide) rfl (by decide) (law_40 hF hX hbl hL hi hI hJ hS hv hR nxt)
    · exact lv_tableIn (off := 1479) (tgt := 1519) hF.1 hF.2.1 dL_law_40 (by decide) (by decide) rfl (by decide) (law_41 hF hX hbl hL hi hI hJ hS hv hR nxt)
    · exact lv_tableIn (off := 1504) (tgt := 1544) hF.1 hF.2.1 dL_law_40 (by decide) (by decide) rfl (by decide) (law_42 hF hX hbl hL hi hI hJ hS hv hR nxt)
    · exact lv_tableIn (off := 1582) (tgt := 1622) hF.1 hF.2.1 dL_law_40 (by decide) (by decide) rfl (by decide) (law_43 hF hX hbl hL hi hI hJ hS hv hR nxt)
    · exact lv_tableIn (off := 1648) (tgt := 1688) hF.1 hF.2.1 dL_law_40 (by decide) (by decide) rfl (by decide) (law_44 hF hX hbl hL hi hI hJ hS hv hR nxt)
    · exact lv_tableIn (off := 1685) (tgt := 1725) hF.1 hF.2.1 dL_law_40 (by decide) (by decide) rfl (by decide) (law_45 hF hX hbl hL hi hI hJ hS hv hR nxt)
    · exact lv_tableIn (off := 1734) (tgt := 1774) hF.1 hF.2.1 dL_law_40 (by decide) (by decide) rfl (by decide) (law_46 hF hX hbl hL hi hI hJ hS hv hR nxt)
    · exact lv_tableIn (off := 1747) (tgt := 1787) hF.1 hF.2.1 dL_law_40 (by decide) (by decide) rfl (by decide) (law_47 hF hX hbl hL hi hI hJ hS hv hR nxt)
    · exact lv_tableIn (off := 1772) (tgt := 1812) hF.1 hF.2.1 dL_law_40 (by decide) (by decide) rfl (by decide) (law_48 hF hX hbl hL hi hI hJ hS hv hR nxt)
    · exact lv_tableIn (off := 1797) (tgt := 1837) hF.1 hF.2.1 dL_law_40 (by decide) (by decide) rfl (by decide) (law_49 hF hX hbl hL hi hI hJ hS hv hR nxt)
    · exact lv_tableIn (off := 1822) (tgt := 1862) hF.1 hF.2.1 dL_law_40 (by decide) (by decide) rfl (by decide) (law_50 hF hX hbl hL hi hI hJ hS hv hR nxt)
    · exact lv_tableIn (off := 1835) (tgt := 1875) hF.1 hF.2.1 dL_law_40 (by decide) (by decide) rfl (by decide) (law_51 hF hX hbl hL hi hI hJ hS hv hR nxt)
    · exact lv_tableIn (off := 1848) (tgt := 1888) hF.1 hF.2.1 dL_law_40 (by decide) (by decide) rfl (by decide) (law_52 hF hX hbl hL hi hI hJ hS hv hR nxt)
    · exact lv_tableIn (off := 1873) (tgt := 1913) hF.1 hF.2.1 dL_law_40 (by decide) (by decide) rfl (by decide) (law_53 hl hZ hF hX hbl hL hi hI hJ hS hv hR nxt)
    · exact lv_tableIn (off := 1929) (tgt := 1969) hF.1 hF.2.1 dL_law_40 (by decide) (by decide) rfl (by decide) (law_54 hF hX hbl hL hi hI hJ hS hv hR nxt)
    · exact lv_tableIn (off := 1954) (tgt := 1994) hF.1 hF.2.1 dL_law_40 (by decide) (by decide) rfl (by decide) (law_55 hF hX hbl hL hi hI hJ hS hv hR nxt)
    · exact lv_tableOut (tgt := 2007) hF.1 hF.2.1 dL_law_40 (Or.inr (by decide)) (by decide) (nxt _ _ _ _ _ _ _ _ _ _ _ hI hJS0 hS hv (Nat.le_add_right _ _) (Nat.le_add_right _ _))
    · exact lv_tableOut (tgt := 2007) hF.1 hF.2.1 dL_law_40 (Or.inr (by decide)) (by decide) (nxt _ _ _ _ _ _ _ _ _ _ _ hI hJS0 hS hv (Nat.le_add_right _ _) (Nat.le_add_right _ _))
    · exact lv_tableOut (tgt := 2007) hF.1 hF.2.1 dL_law_40 (Or.inr (by decide)) (by decide) (nxt _ _ _ _ _ _ _ _ _ _ _ hI hJS0 hS hv (Nat.le_add_right _ _) (Nat.le_add_right _ _))
    · exact lv_tableOut (tgt := 2007) hF.1 hF.2.1 dL_law_40 (Or.inr (by decide)) (by decide) (nxt _ _ _ _ _ _ _ _ _ _ _ hI hJS0 hS hv (Nat.le_add_right _ _) (Nat.le_add_right _ _))
    · exact lv_tableOut (tgt := 2007) hF.1 hF.2.1 dL_law_40 (Or.inr (by decide)) (by decide) (nxt _ _ _ _ _ _ _ _ _ _ _ hI hJS0 hS hv (Nat.le_add_right _ _) (Nat.le_add_right _ _))
    · exact lv_tableOut (tgt := 2007) hF.1 hF.2.1 dL_law_40 (Or.inr (by decide)) (by decide) (nxt _ _ _ _ _ _ _ _ _ _ _ hI hJS0 hS hv (Nat.le_add_right _ _) (Nat.le_add_right _ _))
    · exact lv_tableOut (tgt := 2007) hF.1 hF.2.1 dL_law_40 (Or.inr (by decide)) (by decide) (nxt _ _ _ _ _ _ _ _ _ _ _ hI hJS0 hS hv (Nat.le_add_right _ _) (Nat.le_add_right _ _))
    · exact lv_tableOut (tgt := 2007) hF.1 hF.2.1 dL_law_40 (Or.inr (by decide)) (by decide) (nxt _ _ _ _ _ _ _ _ _ _ _ hI hJS0 hS hv (Nat.le_add_right _ _) (Nat.le_add_right _ _))
    · omega
