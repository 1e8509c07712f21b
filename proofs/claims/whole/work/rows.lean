section
/-- a private method of a class that the tables say can be made, by its rows of tables_1 -/
def lw_okq (q : MethodName × Nat) : Prop := (q.1.cls ≠ "java/lang/invoke/MethodHandle" ∧ q.1.cls ≠ "java/lang/invoke/VarHandle") ∧ Cond.instantiable q.1.cls q.2 ∈ tables_1 ∧ Cond.privateMethod q.1 ∈ tables_1 ∧ Cond.instanceMethod q.1 ∈ tables_1
theorem lw_p0 : lw_okq (⟨"PromiseWeb", "refused", "(I)Z"⟩, 9) := ⟨⟨by decide +kernel, by decide +kernel⟩, List.mem_of_getElem? (i := 27) (by decide +kernel), List.mem_of_getElem? (i := 331) (by decide +kernel), List.mem_of_getElem? (i := 332) (by decide +kernel)⟩
theorem lw_p1 : lw_okq (⟨"PromiseWeb$Told", "of", "(I)LPromiseWeb$Table;"⟩, 8) := ⟨⟨by decide +kernel, by decide +kernel⟩, List.mem_of_getElem? (i := 99) (by decide +kernel), List.mem_of_getElem? (i := 343) (by decide +kernel), List.mem_of_getElem? (i := 344) (by decide +kernel)⟩
theorem lw_p2 : lw_okq (⟨"PromiseWeb$Reader", "readLine", "()Z"⟩, 7) := ⟨⟨by decide +kernel, by decide +kernel⟩, List.mem_of_getElem? (i := 35) (by decide +kernel), List.mem_of_getElem? (i := 355) (by decide +kernel), List.mem_of_getElem? (i := 356) (by decide +kernel)⟩
theorem lw_p3 : lw_okq (⟨"PromiseWeb$Tape", "takeLetters", "()V"⟩, 8) := ⟨⟨by decide +kernel, by decide +kernel⟩, List.mem_of_getElem? (i := 62) (by decide +kernel), List.mem_of_getElem? (i := 363) (by decide +kernel), List.mem_of_getElem? (i := 364) (by decide +kernel)⟩
theorem lw_p4 : lw_okq (⟨"PromiseWeb$Tape", "takeDigits", "()V"⟩, 8) := ⟨⟨by decide +kernel, by decide +kernel⟩, List.mem_of_getElem? (i := 62) (by decide +kernel), List.mem_of_getElem? (i := 367) (by decide +kernel), List.mem_of_getElem? (i := 368) (by decide +kernel)⟩
theorem lw_p5 : lw_okq (⟨"PromiseWeb$Reader", "sortOfLine", "()I"⟩, 7) := ⟨⟨by decide +kernel, by decide +kernel⟩, List.mem_of_getElem? (i := 35) (by decide +kernel), List.mem_of_getElem? (i := 371) (by decide +kernel), List.mem_of_getElem? (i := 372) (by decide +kernel)⟩
theorem lw_p6 : lw_okq (⟨"PromiseWeb$Reader", "fail", "(I)Z"⟩, 7) := ⟨⟨by decide +kernel, by decide +kernel⟩, List.mem_of_getElem? (i := 35) (by decide +kernel), List.mem_of_getElem? (i := 437) (by decide +kernel), List.mem_of_getElem? (i := 438) (by decide +kernel)⟩
theorem lw_p7 : lw_okq (⟨"PromiseWeb$Reader", "clearRow", "()V"⟩, 7) := ⟨⟨by decide +kernel, by decide +kernel⟩, List.mem_of_getElem? (i := 35) (by decide +kernel), List.mem_of_getElem? (i := 445) (by decide +kernel), List.mem_of_getElem? (i := 446) (by decide +kernel)⟩
theorem lw_p8 : lw_okq (⟨"PromiseWeb$Reader", "readBehind", "(I)Z"⟩, 7) := ⟨⟨by decide +kernel, by decide +kernel⟩, List.mem_of_getElem? (i := 35) (by decide +kernel), List.mem_of_getElem? (i := 449) (by decide +kernel), List.mem_of_getElem? (i := 450) (by decide +kernel)⟩
theorem lw_p9 : lw_okq (⟨"PromiseWeb$Reader", "takeWord", "(Ljava/lang/String;)Z"⟩, 7) := ⟨⟨by decide +kernel, by decide +kernel⟩, List.mem_of_getElem? (i := 35) (by decide +kernel), List.mem_of_getElem? (i := 454) (by decide +kernel), List.mem_of_getElem? (i := 455) (by decide +kernel)⟩
theorem lw_p10 : lw_okq (⟨"PromiseWeb$Reader", "takeWhole", "(II)Z"⟩, 7) := ⟨⟨by decide +kernel, by decide +kernel⟩, List.mem_of_getElem? (i := 35) (by decide +kernel), List.mem_of_getElem? (i := 458) (by decide +kernel), List.mem_of_getElem? (i := 459) (by decide +kernel)⟩
theorem lw_p11 : lw_okq (⟨"PromiseWeb$Reader", "put", "(I)Z"⟩, 7) := ⟨⟨by decide +kernel, by decide +kernel⟩, List.mem_of_getElem? (i := 35) (by decide +kernel), List.mem_of_getElem? (i := 462) (by decide +kernel), List.mem_of_getElem? (i := 463) (by decide +kernel)⟩
theorem lw_p12 : lw_okq (⟨"PromiseWeb$Reader", "takeNewName", "(I)Z"⟩, 7) := ⟨⟨by decide +kernel, by decide +kernel⟩, List.mem_of_getElem? (i := 35) (by decide +kernel), List.mem_of_getElem? (i := 467) (by decide +kernel), List.mem_of_getElem? (i := 468) (by decide +kernel)⟩
theorem lw_p13 : lw_okq (⟨"PromiseWeb$Reader", "takeKind", "()Z"⟩, 7) := ⟨⟨by decide +kernel, by decide +kernel⟩, List.mem_of_getElem? (i := 35) (by decide +kernel), List.mem_of_getElem? (i := 479) (by decide +kernel), List.mem_of_getElem? (i := 480) (by decide +kernel)⟩
theorem lw_p14 : lw_okq (⟨"PromiseWeb$Reader", "takeName", "(I)Z"⟩, 7) := ⟨⟨by decide +kernel, by decide +kernel⟩, List.mem_of_getElem? (i := 35) (by decide +kernel), List.mem_of_getElem? (i := 487) (by decide +kernel), List.mem_of_getElem? (i := 488) (by decide +kernel)⟩
theorem lw_p15 : lw_okq (⟨"PromiseWeb$Reader", "areUnlike", "()Z"⟩, 7) := ⟨⟨by decide +kernel, by decide +kernel⟩, List.mem_of_getElem? (i := 35) (by decide +kernel), List.mem_of_getElem? (i := 495) (by decide +kernel), List.mem_of_getElem? (i := 496) (by decide +kernel)⟩
def lw_privs_1 : List (MethodName × Nat) := [(⟨"PromiseWeb", "refused", "(I)Z"⟩, 9), (⟨"PromiseWeb$Told", "of", "(I)LPromiseWeb$Table;"⟩, 8), (⟨"PromiseWeb$Reader", "readLine", "()Z"⟩, 7), (⟨"PromiseWeb$Tape", "takeLetters", "()V"⟩, 8), (⟨"PromiseWeb$Tape", "takeDigits", "()V"⟩, 8), (⟨"PromiseWeb$Reader", "sortOfLine", "()I"⟩, 7), (⟨"PromiseWeb$Reader", "fail", "(I)Z"⟩, 7), (⟨"PromiseWeb$Reader", "clearRow", "()V"⟩, 7), (⟨"PromiseWeb$Reader", "readBehind", "(I)Z"⟩, 7), (⟨"PromiseWeb$Reader", "takeWord", "(Ljava/lang/String;)Z"⟩, 7), (⟨"PromiseWeb$Reader", "takeWhole", "(II)Z"⟩, 7), (⟨"PromiseWeb$Reader", "put", "(I)Z"⟩, 7), (⟨"PromiseWeb$Reader", "takeNewName", "(I)Z"⟩, 7), (⟨"PromiseWeb$Reader", "takeKind", "()Z"⟩, 7), (⟨"PromiseWeb$Reader", "takeName", "(I)Z"⟩, 7), (⟨"PromiseWeb$Reader", "areUnlike", "()Z"⟩, 7)]
theorem lw_r1 : ∀ q ∈ lw_privs_1, lw_okq q := List.forall_mem_cons.mpr ⟨lw_p0, List.forall_mem_cons.mpr ⟨lw_p1, List.forall_mem_cons.mpr ⟨lw_p2, List.forall_mem_cons.mpr ⟨lw_p3, List.forall_mem_cons.mpr ⟨lw_p4, List.forall_mem_cons.mpr ⟨lw_p5, List.forall_mem_cons.mpr ⟨lw_p6, List.forall_mem_cons.mpr ⟨lw_p7, List.forall_mem_cons.mpr ⟨lw_p8, List.forall_mem_cons.mpr ⟨lw_p9, List.forall_mem_cons.mpr ⟨lw_p10, List.forall_mem_cons.mpr ⟨lw_p11, List.forall_mem_cons.mpr ⟨lw_p12, List.forall_mem_cons.mpr ⟨lw_p13, List.forall_mem_cons.mpr ⟨lw_p14, List.forall_mem_cons.mpr ⟨lw_p15, fun _ h => absurd h List.not_mem_nil⟩⟩⟩⟩⟩⟩⟩⟩⟩⟩⟩⟩⟩⟩⟩⟩
theorem lw_p16 : lw_okq (⟨"PromiseWeb$Reader", "isNewClash", "()Z"⟩, 7) := ⟨⟨by decide +kernel, by decide +kernel⟩, List.mem_of_getElem? (i := 35) (by decide +kernel), List.mem_of_getElem? (i := 501) (by decide +kernel), List.mem_of_getElem? (i := 502) (by decide +kernel)⟩
theorem lw_p17 : lw_okq (⟨"PromiseWeb$Reader", "isNewUnsure", "()Z"⟩, 7) := ⟨⟨by decide +kernel, by decide +kernel⟩, List.mem_of_getElem? (i := 35) (by decide +kernel), List.mem_of_getElem? (i := 517) (by decide +kernel), List.mem_of_getElem? (i := 518) (by decide +kernel)⟩
theorem lw_p18 : lw_okq (⟨"PromiseWeb$Reader", "takeHow", "()Z"⟩, 7) := ⟨⟨by decide +kernel, by decide +kernel⟩, List.mem_of_getElem? (i := 35) (by decide +kernel), List.mem_of_getElem? (i := 525) (by decide +kernel), List.mem_of_getElem? (i := 526) (by decide +kernel)⟩
theorem lw_p19 : lw_okq (⟨"PromiseWeb$Reader", "goesOn", "()Z"⟩, 7) := ⟨⟨by decide +kernel, by decide +kernel⟩, List.mem_of_getElem? (i := 35) (by decide +kernel), List.mem_of_getElem? (i := 542) (by decide +kernel), List.mem_of_getElem? (i := 543) (by decide +kernel)⟩
theorem lw_p20 : lw_okq (⟨"PromiseWeb$State", "setCell", "(III)V"⟩, 1) := ⟨⟨by decide +kernel, by decide +kernel⟩, List.mem_of_getElem? (i := 172) (by decide +kernel), List.mem_of_getElem? (i := 564) (by decide +kernel), List.mem_of_getElem? (i := 565) (by decide +kernel)⟩
theorem lw_p21 : lw_okq (⟨"PromiseWeb$State", "isThere", "(II)Z"⟩, 1) := ⟨⟨by decide +kernel, by decide +kernel⟩, List.mem_of_getElem? (i := 172) (by decide +kernel), List.mem_of_getElem? (i := 568) (by decide +kernel), List.mem_of_getElem? (i := 569) (by decide +kernel)⟩
theorem lw_p22 : lw_okq (⟨"PromiseWeb", "needThread", "(I)I"⟩, 9) := ⟨⟨by decide +kernel, by decide +kernel⟩, List.mem_of_getElem? (i := 27) (by decide +kernel), List.mem_of_getElem? (i := 620) (by decide +kernel), List.mem_of_getElem? (i := 621) (by decide +kernel)⟩
theorem lw_p23 : lw_okq (⟨"PromiseWeb", "needNail", "(I)I"⟩, 9) := ⟨⟨by decide +kernel, by decide +kernel⟩, List.mem_of_getElem? (i := 27) (by decide +kernel), List.mem_of_getElem? (i := 655) (by decide +kernel), List.mem_of_getElem? (i := 656) (by decide +kernel)⟩
theorem lw_p24 : lw_okq (⟨"PromiseWeb", "needRow", "(II)I"⟩, 9) := ⟨⟨by decide +kernel, by decide +kernel⟩, List.mem_of_getElem? (i := 27) (by decide +kernel), List.mem_of_getElem? (i := 659) (by decide +kernel), List.mem_of_getElem? (i := 660) (by decide +kernel)⟩
theorem lw_p25 : lw_okq (⟨"PromiseWeb", "goBehind", "(I)V"⟩, 9) := ⟨⟨by decide +kernel, by decide +kernel⟩, List.mem_of_getElem? (i := 27) (by decide +kernel), List.mem_of_getElem? (i := 663) (by decide +kernel), List.mem_of_getElem? (i := 664) (by decide +kernel)⟩
theorem lw_p26 : lw_okq (⟨"PromiseWeb$Bearing", "fillSums", "([III)V"⟩, 9) := ⟨⟨by decide +kernel, by decide +kernel⟩, List.mem_of_getElem? (i := 206) (by decide +kernel), List.mem_of_getElem? (i := 675) (by decide +kernel), List.mem_of_getElem? (i := 676) (by decide +kernel)⟩
theorem lw_p27 : lw_okq (⟨"PromiseWeb", "needWeb", "()I"⟩, 9) := ⟨⟨by decide +kernel, by decide +kernel⟩, List.mem_of_getElem? (i := 27) (by decide +kernel), List.mem_of_getElem? (i := 708) (by decide +kernel), List.mem_of_getElem? (i := 709) (by decide +kernel)⟩
theorem lw_p28 : lw_okq (⟨"PromiseWeb", "needTwoNails", "(II)I"⟩, 9) := ⟨⟨by decide +kernel, by decide +kernel⟩, List.mem_of_getElem? (i := 27) (by decide +kernel), List.mem_of_getElem? (i := 724) (by decide +kernel), List.mem_of_getElem? (i := 725) (by decide +kernel)⟩
theorem lw_p29 : lw_okq (⟨"PromiseWeb$Bearing", "across", "(I)I"⟩, 9) := ⟨⟨by decide +kernel, by decide +kernel⟩, List.mem_of_getElem? (i := 206) (by decide +kernel), List.mem_of_getElem? (i := 737) (by decide +kernel), List.mem_of_getElem? (i := 738) (by decide +kernel)⟩
theorem lw_p30 : lw_okq (⟨"PromiseWeb$Bearing", "reachedFrom", "(II)I"⟩, 9) := ⟨⟨by decide +kernel, by decide +kernel⟩, List.mem_of_getElem? (i := 206) (by decide +kernel), List.mem_of_getElem? (i := 788) (by decide +kernel), List.mem_of_getElem? (i := 789) (by decide +kernel)⟩
theorem lw_p31 : lw_okq (⟨"PromiseWeb$Bearing", "pieceOf", "(II)I"⟩, 9) := ⟨⟨by decide +kernel, by decide +kernel⟩, List.mem_of_getElem? (i := 206) (by decide +kernel), List.mem_of_getElem? (i := 800) (by decide +kernel), List.mem_of_getElem? (i := 801) (by decide +kernel)⟩
def lw_privs_2 : List (MethodName × Nat) := [(⟨"PromiseWeb$Reader", "isNewClash", "()Z"⟩, 7), (⟨"PromiseWeb$Reader", "isNewUnsure", "()Z"⟩, 7), (⟨"PromiseWeb$Reader", "takeHow", "()Z"⟩, 7), (⟨"PromiseWeb$Reader", "goesOn", "()Z"⟩, 7), (⟨"PromiseWeb$State", "setCell", "(III)V"⟩, 1), (⟨"PromiseWeb$State", "isThere", "(II)Z"⟩, 1), (⟨"PromiseWeb", "needThread", "(I)I"⟩, 9), (⟨"PromiseWeb", "needNail", "(I)I"⟩, 9), (⟨"PromiseWeb", "needRow", "(II)I"⟩, 9), (⟨"PromiseWeb", "goBehind", "(I)V"⟩, 9), (⟨"PromiseWeb$Bearing", "fillSums", "([III)V"⟩, 9), (⟨"PromiseWeb", "needWeb", "()I"⟩, 9), (⟨"PromiseWeb", "needTwoNails", "(II)I"⟩, 9), (⟨"PromiseWeb$Bearing", "across", "(I)I"⟩, 9), (⟨"PromiseWeb$Bearing", "reachedFrom", "(II)I"⟩, 9), (⟨"PromiseWeb$Bearing", "pieceOf", "(II)I"⟩, 9)]
theorem lw_r2 : ∀ q ∈ lw_privs_2, lw_okq q := List.forall_mem_cons.mpr ⟨lw_p16, List.forall_mem_cons.mpr ⟨lw_p17, List.forall_mem_cons.mpr ⟨lw_p18, List.forall_mem_cons.mpr ⟨lw_p19, List.forall_mem_cons.mpr ⟨lw_p20, List.forall_mem_cons.mpr ⟨lw_p21, List.forall_mem_cons.mpr ⟨lw_p22, List.forall_mem_cons.mpr ⟨lw_p23, List.forall_mem_cons.mpr ⟨lw_p24, List.forall_mem_cons.mpr ⟨lw_p25, List.forall_mem_cons.mpr ⟨lw_p26, List.forall_mem_cons.mpr ⟨lw_p27, List.forall_mem_cons.mpr ⟨lw_p28, List.forall_mem_cons.mpr ⟨lw_p29, List.forall_mem_cons.mpr ⟨lw_p30, List.forall_mem_cons.mpr ⟨lw_p31, fun _ h => absurd h List.not_mem_nil⟩⟩⟩⟩⟩⟩⟩⟩⟩⟩⟩⟩⟩⟩⟩⟩
theorem lw_p32 : lw_okq (⟨"PromiseWeb", "loadsBorneBy", "(I)I"⟩, 9) := ⟨⟨by decide +kernel, by decide +kernel⟩, List.mem_of_getElem? (i := 27) (by decide +kernel), List.mem_of_getElem? (i := 812) (by decide +kernel), List.mem_of_getElem? (i := 813) (by decide +kernel)⟩
theorem lw_p33 : lw_okq (⟨"PromiseWeb", "partForLoad", "(I)V"⟩, 9) := ⟨⟨by decide +kernel, by decide +kernel⟩, List.mem_of_getElem? (i := 27) (by decide +kernel), List.mem_of_getElem? (i := 816) (by decide +kernel), List.mem_of_getElem? (i := 817) (by decide +kernel)⟩
theorem lw_p34 : lw_okq (⟨"PromiseWeb", "needLoad", "(I)I"⟩, 9) := ⟨⟨by decide +kernel, by decide +kernel⟩, List.mem_of_getElem? (i := 27) (by decide +kernel), List.mem_of_getElem? (i := 825) (by decide +kernel), List.mem_of_getElem? (i := 826) (by decide +kernel)⟩
theorem lw_p35 : lw_okq (⟨"PromiseWeb", "cheapestMend", "()I"⟩, 9) := ⟨⟨by decide +kernel, by decide +kernel⟩, List.mem_of_getElem? (i := 27) (by decide +kernel), List.mem_of_getElem? (i := 837) (by decide +kernel), List.mem_of_getElem? (i := 838) (by decide +kernel)⟩
theorem lw_p36 : lw_okq (⟨"PromiseWeb", "costOf", "(I)I"⟩, 9) := ⟨⟨by decide +kernel, by decide +kernel⟩, List.mem_of_getElem? (i := 27) (by decide +kernel), List.mem_of_getElem? (i := 841) (by decide +kernel), List.mem_of_getElem? (i := 842) (by decide +kernel)⟩
theorem lw_p37 : lw_okq (⟨"PromiseWeb", "leastBreak", "(Z)I"⟩, 9) := ⟨⟨by decide +kernel, by decide +kernel⟩, List.mem_of_getElem? (i := 27) (by decide +kernel), List.mem_of_getElem? (i := 870) (by decide +kernel), List.mem_of_getElem? (i := 871) (by decide +kernel)⟩
theorem lw_p38 : lw_okq (⟨"PromiseWeb", "chanceOf", "(II)J"⟩, 9) := ⟨⟨by decide +kernel, by decide +kernel⟩, List.mem_of_getElem? (i := 27) (by decide +kernel), List.mem_of_getElem? (i := 1015) (by decide +kernel), List.mem_of_getElem? (i := 1016) (by decide +kernel)⟩
theorem lw_p39 : lw_okq (⟨"PromiseWeb$Clerks", "draw", "()I"⟩, 2) := ⟨⟨by decide +kernel, by decide +kernel⟩, List.mem_of_getElem? (i := 257) (by decide +kernel), List.mem_of_getElem? (i := 1047) (by decide +kernel), List.mem_of_getElem? (i := 1048) (by decide +kernel)⟩
theorem lw_p40 : lw_okq (⟨"java/lang/Throwable", "fillInStackTrace", "(I)Ljava/lang/Throwable;"⟩, 6) := ⟨⟨by decide +kernel, by decide +kernel⟩, List.mem_of_getElem? (i := 1184) (by decide +kernel), List.mem_of_getElem? (i := 1182) (by decide +kernel), List.mem_of_getElem? (i := 1183) (by decide +kernel)⟩
theorem lw_p41 : lw_okq (⟨"PromiseWebModel", "refused", "(I)I"⟩, 32) := ⟨⟨by decide +kernel, by decide +kernel⟩, List.mem_of_getElem? (i := 1209) (by decide +kernel), List.mem_of_getElem? (i := 1324) (by decide +kernel), List.mem_of_getElem? (i := 1325) (by decide +kernel)⟩
theorem lw_p42 : lw_okq (⟨"PromiseWebModel", "goesOn", "()V"⟩, 32) := ⟨⟨by decide +kernel, by decide +kernel⟩, List.mem_of_getElem? (i := 1209) (by decide +kernel), List.mem_of_getElem? (i := 1455) (by decide +kernel), List.mem_of_getElem? (i := 1456) (by decide +kernel)⟩
theorem lw_p43 : lw_okq (⟨"PromiseWebModel", "byteAt", "(I)I"⟩, 32) := ⟨⟨by decide +kernel, by decide +kernel⟩, List.mem_of_getElem? (i := 1209) (by decide +kernel), List.mem_of_getElem? (i := 1459) (by decide +kernel), List.mem_of_getElem? (i := 1460) (by decide +kernel)⟩
theorem lw_p44 : lw_okq (⟨"PromiseWebModel", "readAll", "()V"⟩, 32) := ⟨⟨by decide +kernel, by decide +kernel⟩, List.mem_of_getElem? (i := 1209) (by decide +kernel), List.mem_of_getElem? (i := 1470) (by decide +kernel), List.mem_of_getElem? (i := 1471) (by decide +kernel)⟩
theorem lw_p45 : lw_okq (⟨"PromiseWebModel", "readLine", "()V"⟩, 32) := ⟨⟨by decide +kernel, by decide +kernel⟩, List.mem_of_getElem? (i := 1209) (by decide +kernel), List.mem_of_getElem? (i := 1474) (by decide +kernel), List.mem_of_getElem? (i := 1475) (by decide +kernel)⟩
theorem lw_p46 : lw_okq (⟨"PromiseWebModel", "isWord", "(Ljava/lang/String;)Z"⟩, 32) := ⟨⟨by decide +kernel, by decide +kernel⟩, List.mem_of_getElem? (i := 1209) (by decide +kernel), List.mem_of_getElem? (i := 1479) (by decide +kernel), List.mem_of_getElem? (i := 1480) (by decide +kernel)⟩
theorem lw_p47 : lw_okq (⟨"PromiseWebModel", "readWeb", "()V"⟩, 32) := ⟨⟨by decide +kernel, by decide +kernel⟩, List.mem_of_getElem? (i := 1209) (by decide +kernel), List.mem_of_getElem? (i := 1488) (by decide +kernel), List.mem_of_getElem? (i := 1489) (by decide +kernel)⟩
def lw_privs_3 : List (MethodName × Nat) := [(⟨"PromiseWeb", "loadsBorneBy", "(I)I"⟩, 9), (⟨"PromiseWeb", "partForLoad", "(I)V"⟩, 9), (⟨"PromiseWeb", "needLoad", "(I)I"⟩, 9), (⟨"PromiseWeb", "cheapestMend", "()I"⟩, 9), (⟨"PromiseWeb", "costOf", "(I)I"⟩, 9), (⟨"PromiseWeb", "leastBreak", "(Z)I"⟩, 9), (⟨"PromiseWeb", "chanceOf", "(II)J"⟩, 9), (⟨"PromiseWeb$Clerks", "draw", "()I"⟩, 2), (⟨"java/lang/Throwable", "fillInStackTrace", "(I)Ljava/lang/Throwable;"⟩, 6), (⟨"PromiseWebModel", "refused", "(I)I"⟩, 32), (⟨"PromiseWebModel", "goesOn", "()V"⟩, 32), (⟨"PromiseWebModel", "byteAt", "(I)I"⟩, 32), (⟨"PromiseWebModel", "readAll", "()V"⟩, 32), (⟨"PromiseWebModel", "readLine", "()V"⟩, 32), (⟨"PromiseWebModel", "isWord", "(Ljava/lang/String;)Z"⟩, 32), (⟨"PromiseWebModel", "readWeb", "()V"⟩, 32)]
theorem lw_r3 : ∀ q ∈ lw_privs_3, lw_okq q := List.forall_mem_cons.mpr ⟨lw_p32, List.forall_mem_cons.mpr ⟨lw_p33, List.forall_mem_cons.mpr ⟨lw_p34, List.forall_mem_cons.mpr ⟨lw_p35, List.forall_mem_cons.mpr ⟨lw_p36, List.forall_mem_cons.mpr ⟨lw_p37, List.forall_mem_cons.mpr ⟨lw_p38, List.forall_mem_cons.mpr ⟨lw_p39, List.forall_mem_cons.mpr ⟨lw_p40, List.forall_mem_cons.mpr ⟨lw_p41, List.forall_mem_cons.mpr ⟨lw_p42, List.forall_mem_cons.mpr ⟨lw_p43, List.forall_mem_cons.mpr ⟨lw_p44, List.forall_mem_cons.mpr ⟨lw_p45, List.forall_mem_cons.mpr ⟨lw_p46, List.forall_mem_cons.mpr ⟨lw_p47, fun _ h => absurd h List.not_mem_nil⟩⟩⟩⟩⟩⟩⟩⟩⟩⟩⟩⟩⟩⟩⟩⟩
theorem lw_p48 : lw_okq (⟨"PromiseWebModel", "flaw", "(I)V"⟩, 32) := ⟨⟨by decide +kernel, by decide +kernel⟩, List.mem_of_getElem? (i := 1209) (by decide +kernel), List.mem_of_getElem? (i := 1492) (by decide +kernel), List.mem_of_getElem? (i := 1493) (by decide +kernel)⟩
theorem lw_p49 : lw_okq (⟨"PromiseWebModel", "readPart", "(Ljava/lang/String;II)I"⟩, 32) := ⟨⟨by decide +kernel, by decide +kernel⟩, List.mem_of_getElem? (i := 1209) (by decide +kernel), List.mem_of_getElem? (i := 1497) (by decide +kernel), List.mem_of_getElem? (i := 1498) (by decide +kernel)⟩
theorem lw_p50 : lw_okq (⟨"PromiseWebModel", "readWhole", "(II)I"⟩, 32) := ⟨⟨by decide +kernel, by decide +kernel⟩, List.mem_of_getElem? (i := 1209) (by decide +kernel), List.mem_of_getElem? (i := 1501) (by decide +kernel), List.mem_of_getElem? (i := 1502) (by decide +kernel)⟩
theorem lw_p51 : lw_okq (⟨"PromiseWebModel", "readNail", "()V"⟩, 32) := ⟨⟨by decide +kernel, by decide +kernel⟩, List.mem_of_getElem? (i := 1209) (by decide +kernel), List.mem_of_getElem? (i := 1510) (by decide +kernel), List.mem_of_getElem? (i := 1511) (by decide +kernel)⟩
theorem lw_p52 : lw_okq (⟨"PromiseWebModel", "lineBegins", "(II)V"⟩, 32) := ⟨⟨by decide +kernel, by decide +kernel⟩, List.mem_of_getElem? (i := 1209) (by decide +kernel), List.mem_of_getElem? (i := 1514) (by decide +kernel), List.mem_of_getElem? (i := 1515) (by decide +kernel)⟩
theorem lw_p53 : lw_okq (⟨"PromiseWebModel", "readFresh", "()J"⟩, 32) := ⟨⟨by decide +kernel, by decide +kernel⟩, List.mem_of_getElem? (i := 1209) (by decide +kernel), List.mem_of_getElem? (i := 1518) (by decide +kernel), List.mem_of_getElem? (i := 1519) (by decide +kernel)⟩
theorem lw_p54 : lw_okq (⟨"PromiseWebModel", "isName", "()Z"⟩, 32) := ⟨⟨by decide +kernel, by decide +kernel⟩, List.mem_of_getElem? (i := 1209) (by decide +kernel), List.mem_of_getElem? (i := 1522) (by decide +kernel), List.mem_of_getElem? (i := 1523) (by decide +kernel)⟩
theorem lw_p55 : lw_okq (⟨"PromiseWebModel", "names", "(JII)V"⟩, 32) := ⟨⟨by decide +kernel, by decide +kernel⟩, List.mem_of_getElem? (i := 1209) (by decide +kernel), List.mem_of_getElem? (i := 1536) (by decide +kernel), List.mem_of_getElem? (i := 1537) (by decide +kernel)⟩
theorem lw_p56 : lw_okq (⟨"PromiseWebModel", "readThread", "()V"⟩, 32) := ⟨⟨by decide +kernel, by decide +kernel⟩, List.mem_of_getElem? (i := 1209) (by decide +kernel), List.mem_of_getElem? (i := 1540) (by decide +kernel), List.mem_of_getElem? (i := 1541) (by decide +kernel)⟩
theorem lw_p57 : lw_okq (⟨"PromiseWebModel", "readNails", "()I"⟩, 32) := ⟨⟨by decide +kernel, by decide +kernel⟩, List.mem_of_getElem? (i := 1209) (by decide +kernel), List.mem_of_getElem? (i := 1548) (by decide +kernel), List.mem_of_getElem? (i := 1549) (by decide +kernel)⟩
theorem lw_p58 : lw_okq (⟨"PromiseWebModel", "readKnown", "(I)I"⟩, 32) := ⟨⟨by decide +kernel, by decide +kernel⟩, List.mem_of_getElem? (i := 1209) (by decide +kernel), List.mem_of_getElem? (i := 1552) (by decide +kernel), List.mem_of_getElem? (i := 1553) (by decide +kernel)⟩
theorem lw_p59 : lw_okq (⟨"PromiseWebModel", "knownOne", "(I)I"⟩, 32) := ⟨⟨by decide +kernel, by decide +kernel⟩, List.mem_of_getElem? (i := 1209) (by decide +kernel), List.mem_of_getElem? (i := 1556) (by decide +kernel), List.mem_of_getElem? (i := 1557) (by decide +kernel)⟩
theorem lw_p60 : lw_okq (⟨"PromiseWebModel", "readClash", "()V"⟩, 32) := ⟨⟨by decide +kernel, by decide +kernel⟩, List.mem_of_getElem? (i := 1209) (by decide +kernel), List.mem_of_getElem? (i := 1562) (by decide +kernel), List.mem_of_getElem? (i := 1563) (by decide +kernel)⟩
theorem lw_p61 : lw_okq (⟨"PromiseWebModel", "readLoad", "()V"⟩, 32) := ⟨⟨by decide +kernel, by decide +kernel⟩, List.mem_of_getElem? (i := 1209) (by decide +kernel), List.mem_of_getElem? (i := 1569) (by decide +kernel), List.mem_of_getElem? (i := 1570) (by decide +kernel)⟩
theorem lw_p62 : lw_okq (⟨"PromiseWebModel", "readOffer", "()V"⟩, 32) := ⟨⟨by decide +kernel, by decide +kernel⟩, List.mem_of_getElem? (i := 1209) (by decide +kernel), List.mem_of_getElem? (i := 1573) (by decide +kernel), List.mem_of_getElem? (i := 1574) (by decide +kernel)⟩
theorem lw_p63 : lw_okq (⟨"PromiseWebModel", "readUnsure", "()V"⟩, 32) := ⟨⟨by decide +kernel, by decide +kernel⟩, List.mem_of_getElem? (i := 1209) (by decide +kernel), List.mem_of_getElem? (i := 1578) (by decide +kernel), List.mem_of_getElem? (i := 1579) (by decide +kernel)⟩
def lw_privs_4 : List (MethodName × Nat) := [(⟨"PromiseWebModel", "flaw", "(I)V"⟩, 32), (⟨"PromiseWebModel", "readPart", "(Ljava/lang/String;II)I"⟩, 32), (⟨"PromiseWebModel", "readWhole", "(II)I"⟩, 32), (⟨"PromiseWebModel", "readNail", "()V"⟩, 32), (⟨"PromiseWebModel", "lineBegins", "(II)V"⟩, 32), (⟨"PromiseWebModel", "readFresh", "()J"⟩, 32), (⟨"PromiseWebModel", "isName", "()Z"⟩, 32), (⟨"PromiseWebModel", "names", "(JII)V"⟩, 32), (⟨"PromiseWebModel", "readThread", "()V"⟩, 32), (⟨"PromiseWebModel", "readNails", "()I"⟩, 32), (⟨"PromiseWebModel", "readKnown", "(I)I"⟩, 32), (⟨"PromiseWebModel", "knownOne", "(I)I"⟩, 32), (⟨"PromiseWebModel", "readClash", "()V"⟩, 32), (⟨"PromiseWebModel", "readLoad", "()V"⟩, 32), (⟨"PromiseWebModel", "readOffer", "()V"⟩, 32), (⟨"PromiseWebModel", "readUnsure", "()V"⟩, 32)]
theorem lw_r4 : ∀ q ∈ lw_privs_4, lw_okq q := List.forall_mem_cons.mpr ⟨lw_p48, List.forall_mem_cons.mpr ⟨lw_p49, List.forall_mem_cons.mpr ⟨lw_p50, List.forall_mem_cons.mpr ⟨lw_p51, List.forall_mem_cons.mpr ⟨lw_p52, List.forall_mem_cons.mpr ⟨lw_p53, List.forall_mem_cons.mpr ⟨lw_p54, List.forall_mem_cons.mpr ⟨lw_p55, List.forall_mem_cons.mpr ⟨lw_p56, List.forall_mem_cons.mpr ⟨lw_p57, List.forall_mem_cons.mpr ⟨lw_p58, List.forall_mem_cons.mpr ⟨lw_p59, List.forall_mem_cons.mpr ⟨lw_p60, List.forall_mem_cons.mpr ⟨lw_p61, List.forall_mem_cons.mpr ⟨lw_p62, List.forall_mem_cons.mpr ⟨lw_p63, fun _ h => absurd h List.not_mem_nil⟩⟩⟩⟩⟩⟩⟩⟩⟩⟩⟩⟩⟩⟩⟩⟩
theorem lw_p64 : lw_okq (⟨"PromiseWebModel", "readHair", "()V"⟩, 32) := ⟨⟨by decide +kernel, by decide +kernel⟩, List.mem_of_getElem? (i := 1209) (by decide +kernel), List.mem_of_getElem? (i := 1586) (by decide +kernel), List.mem_of_getElem? (i := 1587) (by decide +kernel)⟩
theorem lw_p65 : lw_okq (⟨"PromiseWebModel", "eatsSemicolon", "()Z"⟩, 32) := ⟨⟨by decide +kernel, by decide +kernel⟩, List.mem_of_getElem? (i := 1209) (by decide +kernel), List.mem_of_getElem? (i := 1592) (by decide +kernel), List.mem_of_getElem? (i := 1593) (by decide +kernel)⟩
theorem lw_p66 : lw_okq (⟨"PromiseWebModel", "good", "(I)I"⟩, 32) := ⟨⟨by decide +kernel, by decide +kernel⟩, List.mem_of_getElem? (i := 1209) (by decide +kernel), List.mem_of_getElem? (i := 1596) (by decide +kernel), List.mem_of_getElem? (i := 1597) (by decide +kernel)⟩
theorem lw_p67 : lw_okq (⟨"PromiseWebModel", "isThread", "(I)Z"⟩, 32) := ⟨⟨by decide +kernel, by decide +kernel⟩, List.mem_of_getElem? (i := 1209) (by decide +kernel), List.mem_of_getElem? (i := 1612) (by decide +kernel), List.mem_of_getElem? (i := 1613) (by decide +kernel)⟩
theorem lw_p68 : lw_okq (⟨"PromiseWebModel", "works", "()V"⟩, 32) := ⟨⟨by decide +kernel, by decide +kernel⟩, List.mem_of_getElem? (i := 1209) (by decide +kernel), List.mem_of_getElem? (i := 1616) (by decide +kernel), List.mem_of_getElem? (i := 1617) (by decide +kernel)⟩
theorem lw_p69 : lw_okq (⟨"PromiseWebModel", "kindOf", "(I)I"⟩, 32) := ⟨⟨by decide +kernel, by decide +kernel⟩, List.mem_of_getElem? (i := 1209) (by decide +kernel), List.mem_of_getElem? (i := 1620) (by decide +kernel), List.mem_of_getElem? (i := 1621) (by decide +kernel)⟩
theorem lw_p70 : lw_okq (⟨"PromiseWebModel", "oneOf", "(I)I"⟩, 32) := ⟨⟨by decide +kernel, by decide +kernel⟩, List.mem_of_getElem? (i := 1209) (by decide +kernel), List.mem_of_getElem? (i := 1624) (by decide +kernel), List.mem_of_getElem? (i := 1625) (by decide +kernel)⟩
theorem lw_p71 : lw_okq (⟨"PromiseWebModel", "twoOf", "(I)I"⟩, 32) := ⟨⟨by decide +kernel, by decide +kernel⟩, List.mem_of_getElem? (i := 1209) (by decide +kernel), List.mem_of_getElem? (i := 1628) (by decide +kernel), List.mem_of_getElem? (i := 1629) (by decide +kernel)⟩
theorem lw_p72 : lw_okq (⟨"PromiseWebModel", "strongOf", "(II)I"⟩, 32) := ⟨⟨by decide +kernel, by decide +kernel⟩, List.mem_of_getElem? (i := 1209) (by decide +kernel), List.mem_of_getElem? (i := 1632) (by decide +kernel), List.mem_of_getElem? (i := 1633) (by decide +kernel)⟩
theorem lw_p73 : lw_okq (⟨"PromiseWebModel", "stepOf", "(I)I"⟩, 32) := ⟨⟨by decide +kernel, by decide +kernel⟩, List.mem_of_getElem? (i := 1209) (by decide +kernel), List.mem_of_getElem? (i := 1636) (by decide +kernel), List.mem_of_getElem? (i := 1637) (by decide +kernel)⟩
theorem lw_p74 : lw_okq (⟨"PromiseWebModel", "foesOf", "(I)I"⟩, 32) := ⟨⟨by decide +kernel, by decide +kernel⟩, List.mem_of_getElem? (i := 1209) (by decide +kernel), List.mem_of_getElem? (i := 1640) (by decide +kernel), List.mem_of_getElem? (i := 1641) (by decide +kernel)⟩
theorem lw_p75 : lw_okq (⟨"PromiseWebModel", "isNail", "(I)Z"⟩, 32) := ⟨⟨by decide +kernel, by decide +kernel⟩, List.mem_of_getElem? (i := 1209) (by decide +kernel), List.mem_of_getElem? (i := 1648) (by decide +kernel), List.mem_of_getElem? (i := 1649) (by decide +kernel)⟩
theorem lw_p76 : lw_okq (⟨"PromiseWebModel", "lays", "(I)V"⟩, 32) := ⟨⟨by decide +kernel, by decide +kernel⟩, List.mem_of_getElem? (i := 1209) (by decide +kernel), List.mem_of_getElem? (i := 1652) (by decide +kernel), List.mem_of_getElem? (i := 1653) (by decide +kernel)⟩
theorem lw_p77 : lw_okq (⟨"PromiseWebModel", "laysWorked", "(I)V"⟩, 32) := ⟨⟨by decide +kernel, by decide +kernel⟩, List.mem_of_getElem? (i := 1209) (by decide +kernel), List.mem_of_getElem? (i := 1656) (by decide +kernel), List.mem_of_getElem? (i := 1657) (by decide +kernel)⟩
theorem lw_p78 : lw_okq (⟨"PromiseWebModel", "edge", "(III)V"⟩, 32) := ⟨⟨by decide +kernel, by decide +kernel⟩, List.mem_of_getElem? (i := 1209) (by decide +kernel), List.mem_of_getElem? (i := 1660) (by decide +kernel), List.mem_of_getElem? (i := 1661) (by decide +kernel)⟩
theorem lw_p79 : lw_okq (⟨"PromiseWebModel", "refusesYears", "(ZI)I"⟩, 32) := ⟨⟨by decide +kernel, by decide +kernel⟩, List.mem_of_getElem? (i := 1209) (by decide +kernel), List.mem_of_getElem? (i := 1668) (by decide +kernel), List.mem_of_getElem? (i := 1669) (by decide +kernel)⟩
def lw_privs_5 : List (MethodName × Nat) := [(⟨"PromiseWebModel", "readHair", "()V"⟩, 32), (⟨"PromiseWebModel", "eatsSemicolon", "()Z"⟩, 32), (⟨"PromiseWebModel", "good", "(I)I"⟩, 32), (⟨"PromiseWebModel", "isThread", "(I)Z"⟩, 32), (⟨"PromiseWebModel", "works", "()V"⟩, 32), (⟨"PromiseWebModel", "kindOf", "(I)I"⟩, 32), (⟨"PromiseWebModel", "oneOf", "(I)I"⟩, 32), (⟨"PromiseWebModel", "twoOf", "(I)I"⟩, 32), (⟨"PromiseWebModel", "strongOf", "(II)I"⟩, 32), (⟨"PromiseWebModel", "stepOf", "(I)I"⟩, 32), (⟨"PromiseWebModel", "foesOf", "(I)I"⟩, 32), (⟨"PromiseWebModel", "isNail", "(I)Z"⟩, 32), (⟨"PromiseWebModel", "lays", "(I)V"⟩, 32), (⟨"PromiseWebModel", "laysWorked", "(I)V"⟩, 32), (⟨"PromiseWebModel", "edge", "(III)V"⟩, 32), (⟨"PromiseWebModel", "refusesYears", "(ZI)I"⟩, 32)]
theorem lw_r5 : ∀ q ∈ lw_privs_5, lw_okq q := List.forall_mem_cons.mpr ⟨lw_p64, List.forall_mem_cons.mpr ⟨lw_p65, List.forall_mem_cons.mpr ⟨lw_p66, List.forall_mem_cons.mpr ⟨lw_p67, List.forall_mem_cons.mpr ⟨lw_p68, List.forall_mem_cons.mpr ⟨lw_p69, List.forall_mem_cons.mpr ⟨lw_p70, List.forall_mem_cons.mpr ⟨lw_p71, List.forall_mem_cons.mpr ⟨lw_p72, List.forall_mem_cons.mpr ⟨lw_p73, List.forall_mem_cons.mpr ⟨lw_p74, List.forall_mem_cons.mpr ⟨lw_p75, List.forall_mem_cons.mpr ⟨lw_p76, List.forall_mem_cons.mpr ⟨lw_p77, List.forall_mem_cons.mpr ⟨lw_p78, List.forall_mem_cons.mpr ⟨lw_p79, fun _ h => absurd h List.not_mem_nil⟩⟩⟩⟩⟩⟩⟩⟩⟩⟩⟩⟩⟩⟩⟩⟩
theorem lw_p80 : lw_okq (⟨"PromiseWebModel", "held", "()I"⟩, 32) := ⟨⟨by decide +kernel, by decide +kernel⟩, List.mem_of_getElem? (i := 1209) (by decide +kernel), List.mem_of_getElem? (i := 1680) (by decide +kernel), List.mem_of_getElem? (i := 1681) (by decide +kernel)⟩
theorem lw_p81 : lw_okq (⟨"PromiseWebModel", "areTwo", "(II)Z"⟩, 32) := ⟨⟨by decide +kernel, by decide +kernel⟩, List.mem_of_getElem? (i := 1209) (by decide +kernel), List.mem_of_getElem? (i := 1692) (by decide +kernel), List.mem_of_getElem? (i := 1693) (by decide +kernel)⟩
theorem lw_p82 : lw_okq (⟨"PromiseWebModel", "borneBetween", "(III)I"⟩, 32) := ⟨⟨by decide +kernel, by decide +kernel⟩, List.mem_of_getElem? (i := 1209) (by decide +kernel), List.mem_of_getElem? (i := 1696) (by decide +kernel), List.mem_of_getElem? (i := 1697) (by decide +kernel)⟩
theorem lw_p83 : lw_okq (⟨"PromiseWebModel", "crossing", "(II)I"⟩, 32) := ⟨⟨by decide +kernel, by decide +kernel⟩, List.mem_of_getElem? (i := 1209) (by decide +kernel), List.mem_of_getElem? (i := 1701) (by decide +kernel), List.mem_of_getElem? (i := 1702) (by decide +kernel)⟩
theorem lw_p84 : lw_okq (⟨"PromiseWebModel", "isCrossing", "(II)Z"⟩, 32) := ⟨⟨by decide +kernel, by decide +kernel⟩, List.mem_of_getElem? (i := 1209) (by decide +kernel), List.mem_of_getElem? (i := 1705) (by decide +kernel), List.mem_of_getElem? (i := 1706) (by decide +kernel)⟩
theorem lw_p85 : lw_okq (⟨"PromiseWebModel", "partsBut", "(I)I"⟩, 32) := ⟨⟨by decide +kernel, by decide +kernel⟩, List.mem_of_getElem? (i := 1209) (by decide +kernel), List.mem_of_getElem? (i := 1736) (by decide +kernel), List.mem_of_getElem? (i := 1737) (by decide +kernel)⟩
theorem lw_p86 : lw_okq (⟨"PromiseWebModel", "together", "(II)I"⟩, 32) := ⟨⟨by decide +kernel, by decide +kernel⟩, List.mem_of_getElem? (i := 1209) (by decide +kernel), List.mem_of_getElem? (i := 1740) (by decide +kernel), List.mem_of_getElem? (i := 1741) (by decide +kernel)⟩
theorem lw_p87 : lw_okq (⟨"PromiseWebModel", "borneAll", "()I"⟩, 32) := ⟨⟨by decide +kernel, by decide +kernel⟩, List.mem_of_getElem? (i := 1209) (by decide +kernel), List.mem_of_getElem? (i := 1752) (by decide +kernel), List.mem_of_getElem? (i := 1753) (by decide +kernel)⟩
theorem lw_p88 : lw_okq (⟨"PromiseWebModel", "isLoad", "(I)Z"⟩, 32) := ⟨⟨by decide +kernel, by decide +kernel⟩, List.mem_of_getElem? (i := 1209) (by decide +kernel), List.mem_of_getElem? (i := 1760) (by decide +kernel), List.mem_of_getElem? (i := 1761) (by decide +kernel)⟩
theorem lw_p89 : lw_okq (⟨"PromiseWebModel", "lost", "(II)I"⟩, 32) := ⟨⟨by decide +kernel, by decide +kernel⟩, List.mem_of_getElem? (i := 1209) (by decide +kernel), List.mem_of_getElem? (i := 1768) (by decide +kernel), List.mem_of_getElem? (i := 1769) (by decide +kernel)⟩
theorem lw_p90 : lw_okq (⟨"PromiseWebModel", "mending", "()I"⟩, 32) := ⟨⟨by decide +kernel, by decide +kernel⟩, List.mem_of_getElem? (i := 1209) (by decide +kernel), List.mem_of_getElem? (i := 1776) (by decide +kernel), List.mem_of_getElem? (i := 1777) (by decide +kernel)⟩
theorem lw_p91 : lw_okq (⟨"PromiseWebModel", "costOf", "(I)I"⟩, 32) := ⟨⟨by decide +kernel, by decide +kernel⟩, List.mem_of_getElem? (i := 1209) (by decide +kernel), List.mem_of_getElem? (i := 1780) (by decide +kernel), List.mem_of_getElem? (i := 1781) (by decide +kernel)⟩
theorem lw_p92 : lw_okq (⟨"PromiseWebModel", "laysOffers", "(I)V"⟩, 32) := ⟨⟨by decide +kernel, by decide +kernel⟩, List.mem_of_getElem? (i := 1209) (by decide +kernel), List.mem_of_getElem? (i := 1784) (by decide +kernel), List.mem_of_getElem? (i := 1785) (by decide +kernel)⟩
theorem lw_p93 : lw_okq (⟨"PromiseWebModel", "clashing", "(I)I"⟩, 32) := ⟨⟨by decide +kernel, by decide +kernel⟩, List.mem_of_getElem? (i := 1209) (by decide +kernel), List.mem_of_getElem? (i := 1800) (by decide +kernel), List.mem_of_getElem? (i := 1801) (by decide +kernel)⟩
theorem lw_p94 : lw_okq (⟨"PromiseWebModel", "breaking", "(Z)I"⟩, 32) := ⟨⟨by decide +kernel, by decide +kernel⟩, List.mem_of_getElem? (i := 1209) (by decide +kernel), List.mem_of_getElem? (i := 1808) (by decide +kernel), List.mem_of_getElem? (i := 1809) (by decide +kernel)⟩
theorem lw_p95 : lw_okq (⟨"PromiseWebModel", "strengthOf", "(I)I"⟩, 32) := ⟨⟨by decide +kernel, by decide +kernel⟩, List.mem_of_getElem? (i := 1209) (by decide +kernel), List.mem_of_getElem? (i := 1812) (by decide +kernel), List.mem_of_getElem? (i := 1813) (by decide +kernel)⟩
def lw_privs_6 : List (MethodName × Nat) := [(⟨"PromiseWebModel", "held", "()I"⟩, 32), (⟨"PromiseWebModel", "areTwo", "(II)Z"⟩, 32), (⟨"PromiseWebModel", "borneBetween", "(III)I"⟩, 32), (⟨"PromiseWebModel", "crossing", "(II)I"⟩, 32), (⟨"PromiseWebModel", "isCrossing", "(II)Z"⟩, 32), (⟨"PromiseWebModel", "partsBut", "(I)I"⟩, 32), (⟨"PromiseWebModel", "together", "(II)I"⟩, 32), (⟨"PromiseWebModel", "borneAll", "()I"⟩, 32), (⟨"PromiseWebModel", "isLoad", "(I)Z"⟩, 32), (⟨"PromiseWebModel", "lost", "(II)I"⟩, 32), (⟨"PromiseWebModel", "mending", "()I"⟩, 32), (⟨"PromiseWebModel", "costOf", "(I)I"⟩, 32), (⟨"PromiseWebModel", "laysOffers", "(I)V"⟩, 32), (⟨"PromiseWebModel", "clashing", "(I)I"⟩, 32), (⟨"PromiseWebModel", "breaking", "(Z)I"⟩, 32), (⟨"PromiseWebModel", "strengthOf", "(I)I"⟩, 32)]
theorem lw_r6 : ∀ q ∈ lw_privs_6, lw_okq q := List.forall_mem_cons.mpr ⟨lw_p80, List.forall_mem_cons.mpr ⟨lw_p81, List.forall_mem_cons.mpr ⟨lw_p82, List.forall_mem_cons.mpr ⟨lw_p83, List.forall_mem_cons.mpr ⟨lw_p84, List.forall_mem_cons.mpr ⟨lw_p85, List.forall_mem_cons.mpr ⟨lw_p86, List.forall_mem_cons.mpr ⟨lw_p87, List.forall_mem_cons.mpr ⟨lw_p88, List.forall_mem_cons.mpr ⟨lw_p89, List.forall_mem_cons.mpr ⟨lw_p90, List.forall_mem_cons.mpr ⟨lw_p91, List.forall_mem_cons.mpr ⟨lw_p92, List.forall_mem_cons.mpr ⟨lw_p93, List.forall_mem_cons.mpr ⟨lw_p94, List.forall_mem_cons.mpr ⟨lw_p95, fun _ h => absurd h List.not_mem_nil⟩⟩⟩⟩⟩⟩⟩⟩⟩⟩⟩⟩⟩⟩⟩⟩
theorem lw_p96 : lw_okq (⟨"PromiseWebModel", "fitting", "(I)I"⟩, 32) := ⟨⟨by decide +kernel, by decide +kernel⟩, List.mem_of_getElem? (i := 1209) (by decide +kernel), List.mem_of_getElem? (i := 1832) (by decide +kernel), List.mem_of_getElem? (i := 1833) (by decide +kernel)⟩
theorem lw_p97 : lw_okq (⟨"PromiseWebModel", "sets", "()I"⟩, 32) := ⟨⟨by decide +kernel, by decide +kernel⟩, List.mem_of_getElem? (i := 1209) (by decide +kernel), List.mem_of_getElem? (i := 1836) (by decide +kernel), List.mem_of_getElem? (i := 1837) (by decide +kernel)⟩
theorem lw_p98 : lw_okq (⟨"PromiseWebModel", "weightOf", "(I)J"⟩, 32) := ⟨⟨by decide +kernel, by decide +kernel⟩, List.mem_of_getElem? (i := 1209) (by decide +kernel), List.mem_of_getElem? (i := 1840) (by decide +kernel), List.mem_of_getElem? (i := 1841) (by decide +kernel)⟩
theorem lw_p99 : lw_okq (⟨"PromiseWebModel", "isRight", "(II)Z"⟩, 32) := ⟨⟨by decide +kernel, by decide +kernel⟩, List.mem_of_getElem? (i := 1209) (by decide +kernel), List.mem_of_getElem? (i := 1844) (by decide +kernel), List.mem_of_getElem? (i := 1845) (by decide +kernel)⟩
theorem lw_p100 : lw_okq (⟨"PromiseWebModel", "isLied", "(II)Z"⟩, 32) := ⟨⟨by decide +kernel, by decide +kernel⟩, List.mem_of_getElem? (i := 1209) (by decide +kernel), List.mem_of_getElem? (i := 1848) (by decide +kernel), List.mem_of_getElem? (i := 1849) (by decide +kernel)⟩
theorem lw_p101 : lw_okq (⟨"PromiseWebModel", "fraction", "(JJZ)J"⟩, 32) := ⟨⟨by decide +kernel, by decide +kernel⟩, List.mem_of_getElem? (i := 1209) (by decide +kernel), List.mem_of_getElem? (i := 1860) (by decide +kernel), List.mem_of_getElem? (i := 1861) (by decide +kernel)⟩
theorem lw_p102 : lw_okq (⟨"PromiseWebModel", "tests", "()I"⟩, 32) := ⟨⟨by decide +kernel, by decide +kernel⟩, List.mem_of_getElem? (i := 1209) (by decide +kernel), List.mem_of_getElem? (i := 1875) (by decide +kernel), List.mem_of_getElem? (i := 1876) (by decide +kernel)⟩
theorem lw_p103 : lw_okq (⟨"PromiseWebModel", "isLiedNow", "(II)Z"⟩, 32) := ⟨⟨by decide +kernel, by decide +kernel⟩, List.mem_of_getElem? (i := 1209) (by decide +kernel), List.mem_of_getElem? (i := 1887) (by decide +kernel), List.mem_of_getElem? (i := 1888) (by decide +kernel)⟩
theorem lw_p104 : lw_okq (⟨"PromiseWebModel", "snapping", "(II)V"⟩, 32) := ⟨⟨by decide +kernel, by decide +kernel⟩, List.mem_of_getElem? (i := 1209) (by decide +kernel), List.mem_of_getElem? (i := 1899) (by decide +kernel), List.mem_of_getElem? (i := 1900) (by decide +kernel)⟩
theorem lw_p105 : lw_okq (⟨"PromiseWebModel", "refusesWeb", "(I)I"⟩, 32) := ⟨⟨by decide +kernel, by decide +kernel⟩, List.mem_of_getElem? (i := 1209) (by decide +kernel), List.mem_of_getElem? (i := 1911) (by decide +kernel), List.mem_of_getElem? (i := 1912) (by decide +kernel)⟩
theorem lw_p106 : lw_okq (⟨"PromiseWebModel", "partOf", "(II)J"⟩, 32) := ⟨⟨by decide +kernel, by decide +kernel⟩, List.mem_of_getElem? (i := 1209) (by decide +kernel), List.mem_of_getElem? (i := 1933) (by decide +kernel), List.mem_of_getElem? (i := 1934) (by decide +kernel)⟩
theorem lw_p107 : lw_okq (⟨"PromiseWebModel", "refusesSeed", "(ZII)I"⟩, 32) := ⟨⟨by decide +kernel, by decide +kernel⟩, List.mem_of_getElem? (i := 1209) (by decide +kernel), List.mem_of_getElem? (i := 1946) (by decide +kernel), List.mem_of_getElem? (i := 1947) (by decide +kernel)⟩
theorem lw_p108 : lw_okq (⟨"PromiseWebModel", "clerksYear", "()V"⟩, 32) := ⟨⟨by decide +kernel, by decide +kernel⟩, List.mem_of_getElem? (i := 1209) (by decide +kernel), List.mem_of_getElem? (i := 1951) (by decide +kernel), List.mem_of_getElem? (i := 1952) (by decide +kernel)⟩
theorem lw_p109 : lw_okq (⟨"PromiseWebModel", "remembers", "()V"⟩, 32) := ⟨⟨by decide +kernel, by decide +kernel⟩, List.mem_of_getElem? (i := 1209) (by decide +kernel), List.mem_of_getElem? (i := 1966) (by decide +kernel), List.mem_of_getElem? (i := 1967) (by decide +kernel)⟩
theorem lw_p110 : lw_okq (⟨"PromiseWebModel", "denied", "(I)Z"⟩, 32) := ⟨⟨by decide +kernel, by decide +kernel⟩, List.mem_of_getElem? (i := 1209) (by decide +kernel), List.mem_of_getElem? (i := 1974) (by decide +kernel), List.mem_of_getElem? (i := 1975) (by decide +kernel)⟩
theorem lw_p111 : lw_okq (⟨"PromiseWebModel", "granted", "()Z"⟩, 32) := ⟨⟨by decide +kernel, by decide +kernel⟩, List.mem_of_getElem? (i := 1209) (by decide +kernel), List.mem_of_getElem? (i := 1978) (by decide +kernel), List.mem_of_getElem? (i := 1979) (by decide +kernel)⟩
def lw_privs_7 : List (MethodName × Nat) := [(⟨"PromiseWebModel", "fitting", "(I)I"⟩, 32), (⟨"PromiseWebModel", "sets", "()I"⟩, 32), (⟨"PromiseWebModel", "weightOf", "(I)J"⟩, 32), (⟨"PromiseWebModel", "isRight", "(II)Z"⟩, 32), (⟨"PromiseWebModel", "isLied", "(II)Z"⟩, 32), (⟨"PromiseWebModel", "fraction", "(JJZ)J"⟩, 32), (⟨"PromiseWebModel", "tests", "()I"⟩, 32), (⟨"PromiseWebModel", "isLiedNow", "(II)Z"⟩, 32), (⟨"PromiseWebModel", "snapping", "(II)V"⟩, 32), (⟨"PromiseWebModel", "refusesWeb", "(I)I"⟩, 32), (⟨"PromiseWebModel", "partOf", "(II)J"⟩, 32), (⟨"PromiseWebModel", "refusesSeed", "(ZII)I"⟩, 32), (⟨"PromiseWebModel", "clerksYear", "()V"⟩, 32), (⟨"PromiseWebModel", "remembers", "()V"⟩, 32), (⟨"PromiseWebModel", "denied", "(I)Z"⟩, 32), (⟨"PromiseWebModel", "granted", "()Z"⟩, 32)]
theorem lw_r7 : ∀ q ∈ lw_privs_7, lw_okq q := List.forall_mem_cons.mpr ⟨lw_p96, List.forall_mem_cons.mpr ⟨lw_p97, List.forall_mem_cons.mpr ⟨lw_p98, List.forall_mem_cons.mpr ⟨lw_p99, List.forall_mem_cons.mpr ⟨lw_p100, List.forall_mem_cons.mpr ⟨lw_p101, List.forall_mem_cons.mpr ⟨lw_p102, List.forall_mem_cons.mpr ⟨lw_p103, List.forall_mem_cons.mpr ⟨lw_p104, List.forall_mem_cons.mpr ⟨lw_p105, List.forall_mem_cons.mpr ⟨lw_p106, List.forall_mem_cons.mpr ⟨lw_p107, List.forall_mem_cons.mpr ⟨lw_p108, List.forall_mem_cons.mpr ⟨lw_p109, List.forall_mem_cons.mpr ⟨lw_p110, List.forall_mem_cons.mpr ⟨lw_p111, fun _ h => absurd h List.not_mem_nil⟩⟩⟩⟩⟩⟩⟩⟩⟩⟩⟩⟩⟩⟩⟩⟩
def lw_privs : List (MethodName × Nat) := lw_privs_1 ++ (lw_privs_2 ++ (lw_privs_3 ++ (lw_privs_4 ++ (lw_privs_5 ++ (lw_privs_6 ++ (lw_privs_7))))))
def lw_tbl : List Cond := k2_sels lw_privs ++ tables_1
theorem lw_privs_ok : ∀ q ∈ lw_privs, lw_okq q := by
  show ∀ q ∈ lw_privs_1 ++ (lw_privs_2 ++ (lw_privs_3 ++ (lw_privs_4 ++ (lw_privs_5 ++ (lw_privs_6 ++ (lw_privs_7)))))), lw_okq q
  exact List.forall_mem_append.mpr ⟨lw_r1, List.forall_mem_append.mpr ⟨lw_r2, List.forall_mem_append.mpr ⟨lw_r3, List.forall_mem_append.mpr ⟨lw_r4, List.forall_mem_append.mpr ⟨lw_r5, List.forall_mem_append.mpr ⟨lw_r6, lw_r7⟩⟩⟩⟩⟩⟩
end
section
def RX0 : String := "PromiseWeb$Bearing"
def TX0 : u_T := fun k => match k with
  | 0 => ("PromiseWeb$Bearing", "one", "[I", true)
  | 1 => ("PromiseWeb$Bearing", "other", "[I", true)
  | 2 => ("PromiseWeb$Bearing", "strength", "[I", true)
  | 3 => ("PromiseWeb$Bearing", "threadSums", "[I", true)
  | 4 => ("PromiseWeb$Bearing", "offerSums", "[I", true)
  | 5 => ("PromiseWeb$Bearing", "partings", "[I", true)
  | 6 => ("PromiseWeb$Bearing", "won", "[Z", true)
  | 7 => ("PromiseWeb$Bearing", "nails", "I", false)
  | _ => ("PromiseWeb$Bearing", "parted", "I", false)
def tyX0 : Nat → FieldType := fun k => match k with
  | 0 => .array .int
  | 1 => .array .int
  | 2 => .array .int
  | 3 => .array .int
  | 4 => .array .int
  | 5 => .array .int
  | 6 => .array .boolean
  | 7 => .int
  | _ => .int
abbrev wsX00 : List Cond := u_ws RX0 TX0 9
theorem nmX0 : ∀ a, a < 9 → ∀ b, b < 9 → a ≠ b → (TX0 a).2.1 ≠ (TX0 b).2.1 := by decide +kernel
theorem tyX0_ok : ∀ k, k < 9 → parseFieldDescriptor (TX0 k).2.2.1 = some (tyX0 k) := by decide +kernel
abbrev cX0_init : ByteArray := prog_2_method_1_code
def yX0_init : MethodName := ⟨RX0, "<init>", "()V"⟩
abbrev cX0_ofOffers : ByteArray := prog_2_method_2_code
def yX0_ofOffers : MethodName := ⟨RX0, "ofOffers", "(I)I"⟩
abbrev cX0_arrange : ByteArray := prog_2_method_3_code
def yX0_arrange : MethodName := ⟨RX0, "arrange", "(LPromiseWeb$State;LPromiseWeb$Told;)V"⟩
abbrev cX0_strengthen : ByteArray := prog_2_method_4_code
def yX0_strengthen : MethodName := ⟨RX0, "strengthen", "(LPromiseWeb$State;I)V"⟩
abbrev cX0_fillSums : ByteArray := prog_2_method_5_code
def yX0_fillSums : MethodName := ⟨RX0, "fillSums", "([III)V"⟩
abbrev cX0_sumOf : ByteArray := prog_2_method_6_code
def yX0_sumOf : MethodName := ⟨RX0, "sumOf", "(I)I"⟩
abbrev cX0_held : ByteArray := prog_2_method_7_code
def yX0_held : MethodName := ⟨RX0, "held", "()I"⟩
abbrev cX0_heldAt : ByteArray := prog_2_method_8_code
def yX0_heldAt : MethodName := ⟨RX0, "heldAt", "(I)I"⟩
abbrev cX0_part : ByteArray := prog_2_method_9_code
def yX0_part : MethodName := ⟨RX0, "part", "(II)V"⟩
abbrev cX0_across : ByteArray := prog_2_method_10_code
def yX0_across : MethodName := ⟨RX0, "across", "(I)I"⟩
abbrev cX0_borneBy : ByteArray := prog_2_method_11_code
def yX0_borneBy : MethodName := ⟨RX0, "borneBy", "(I)I"⟩
abbrev cX0_between : ByteArray := prog_2_method_12_code
def yX0_between : MethodName := ⟨RX0, "between", "(II)I"⟩
abbrev cX0_fewestCut : ByteArray := prog_2_method_13_code
def yX0_fewestCut : MethodName := ⟨RX0, "fewestCut", "()I"⟩
abbrev cX0_isLess : ByteArray := prog_2_method_14_code
def yX0_isLess : MethodName := ⟨RX0, "isLess", "(II)Z"⟩
abbrev cX0_reachedFrom : ByteArray := prog_2_method_15_code
def yX0_reachedFrom : MethodName := ⟨RX0, "reachedFrom", "(II)I"⟩
abbrev cX0_steps : ByteArray := prog_2_method_16_code
def yX0_steps : MethodName := ⟨RX0, "steps", "(II)I"⟩
abbrev cX0_pieces : ByteArray := prog_2_method_17_code
def yX0_pieces : MethodName := ⟨RX0, "pieces", "(I)I"⟩
abbrev cX0_pieceOf : ByteArray := prog_2_method_18_code
def yX0_pieceOf : MethodName := ⟨RX0, "pieceOf", "(II)I"⟩
abbrev cX0_playTurns : ByteArray := prog_2_method_19_code
def yX0_playTurns : MethodName := ⟨RX0, "playTurns", "(II)V"⟩
abbrev cX0_wins : ByteArray := prog_2_method_20_code
def yX0_wins : MethodName := ⟨RX0, "wins", "(I)Z"⟩
abbrev cX0_winningSnap : ByteArray := prog_2_method_21_code
def yX0_winningSnap : MethodName := ⟨RX0, "winningSnap", "(I)I"⟩
def RX1 : String := "PromiseWeb$Clerks"
def TX1 : u_T := fun k => match k with
  | 0 => ("PromiseWeb$Clerks", "seed", "I", false)
  | _ => ("PromiseWeb$Clerks", "snapped", "I", false)
def tyX1 : Nat → FieldType := fun k => match k with
  | 0 => .int
  | _ => .int
abbrev wsX10 : List Cond := u_ws RX1 TX1 2
theorem nmX1 : ∀ a, a < 2 → ∀ b, b < 2 → a ≠ b → (TX1 a).2.1 ≠ (TX1 b).2.1 := by decide +kernel
theorem tyX1_ok : ∀ k, k < 2 → parseFieldDescriptor (TX1 k).2.2.1 = some (tyX1 k) := by decide +kernel
abbrev cX1_init : ByteArray := prog_3_method_1_code
def yX1_init : MethodName := ⟨RX1, "<init>", "()V"⟩
abbrev cX1_begin : ByteArray := prog_3_method_2_code
def yX1_begin : MethodName := ⟨RX1, "begin", "(I)V"⟩
abbrev cX1_passYear : ByteArray := prog_3_method_3_code
def yX1_passYear : MethodName := ⟨RX1, "passYear", "(LPromiseWeb$State;II)V"⟩
abbrev cX1_draw : ByteArray := prog_3_method_4_code
def yX1_draw : MethodName := ⟨RX1, "draw", "()I"⟩
def RX2 : String := "PromiseWeb$Liars"
def TX2 : u_T := fun k => match k with
  | 0 => ("PromiseWeb$Liars", "weights", "[J", true)
  | 1 => ("PromiseWeb$Liars", "unsure", "I", false)
  | _ => ("PromiseWeb$Liars", "sets", "I", false)
def tyX2 : Nat → FieldType := fun k => match k with
  | 0 => .array .long
  | 1 => .int
  | _ => .int
abbrev wsX20 : List Cond := u_ws RX2 TX2 3
theorem nmX2 : ∀ a, a < 3 → ∀ b, b < 3 → a ≠ b → (TX2 a).2.1 ≠ (TX2 b).2.1 := by decide +kernel
theorem tyX2_ok : ∀ k, k < 3 → parseFieldDescriptor (TX2 k).2.2.1 = some (tyX2 k) := by decide +kernel
abbrev cX2_init : ByteArray := prog_4_method_1_code
def yX2_init : MethodName := ⟨RX2, "<init>", "()V"⟩
abbrev cX2_weigh : ByteArray := prog_4_method_2_code
def yX2_weigh : MethodName := ⟨RX2, "weigh", "(LPromiseWeb$Told;)V"⟩
abbrev cX2_weightOf : ByteArray := prog_4_method_3_code
def yX2_weightOf : MethodName := ⟨RX2, "weightOf", "(LPromiseWeb$Told;I)J"⟩
abbrev cX2_isBrown : ByteArray := prog_4_method_4_code
def yX2_isBrown : MethodName := ⟨RX2, "isBrown", "(LPromiseWeb$Told;III)Z"⟩
abbrev cX2_isLiedOn : ByteArray := prog_4_method_5_code
def yX2_isLiedOn : MethodName := ⟨RX2, "isLiedOn", "(LPromiseWeb$Told;II)Z"⟩
abbrev cX2_fitting : ByteArray := prog_4_method_6_code
def yX2_fitting : MethodName := ⟨RX2, "fitting", "()I"⟩
abbrev cX2_fittingAt : ByteArray := prog_4_method_7_code
def yX2_fittingAt : MethodName := ⟨RX2, "fittingAt", "(I)I"⟩
abbrev cX2_whole : ByteArray := prog_4_method_8_code
def yX2_whole : MethodName := ⟨RX2, "whole", "()J"⟩
abbrev cX2_weightWith : ByteArray := prog_4_method_9_code
def yX2_weightWith : MethodName := ⟨RX2, "weightWith", "(I)J"⟩
abbrev cX2_weightOfBrown : ByteArray := prog_4_method_10_code
def yX2_weightOfBrown : MethodName := ⟨RX2, "weightOfBrown", "(LPromiseWeb$Told;II)J"⟩
abbrev cX2_heaviest : ByteArray := prog_4_method_11_code
def yX2_heaviest : MethodName := ⟨RX2, "heaviest", "()I"⟩
abbrev cX2_leftAtMost : ByteArray := prog_4_method_12_code
def yX2_leftAtMost : MethodName := ⟨RX2, "leftAtMost", "(I)I"⟩
abbrev cX2_bestAsked : ByteArray := prog_4_method_13_code
def yX2_bestAsked : MethodName := ⟨RX2, "bestAsked", "()I"⟩
def RX3 : String := "PromiseWeb$Names"
def TX3 : u_T := fun k => match k with
  | 0 => ("PromiseWeb$Names", "codes", "[J", true)
  | 1 => ("PromiseWeb$Names", "sorts", "[I", true)
  | 2 => ("PromiseWeb$Names", "numbers", "[I", true)
  | _ => ("PromiseWeb$Names", "count", "I", false)
def tyX3 : Nat → FieldType := fun k => match k with
  | 0 => .array .long
  | 1 => .array .int
  | 2 => .array .int
  | _ => .int
abbrev wsX30 : List Cond := u_ws RX3 TX3 4
theorem nmX3 : ∀ a, a < 4 → ∀ b, b < 4 → a ≠ b → (TX3 a).2.1 ≠ (TX3 b).2.1 := by decide +kernel
theorem tyX3_ok : ∀ k, k < 4 → parseFieldDescriptor (TX3 k).2.2.1 = some (tyX3 k) := by decide +kernel
abbrev cX3_init : ByteArray := prog_5_method_1_code
def yX3_init : MethodName := ⟨RX3, "<init>", "()V"⟩
abbrev cX3_clear : ByteArray := prog_5_method_2_code
def yX3_clear : MethodName := ⟨RX3, "clear", "()V"⟩
abbrev cX3_add : ByteArray := prog_5_method_3_code
def yX3_add : MethodName := ⟨RX3, "add", "(JII)V"⟩
abbrev cX3_isTold : ByteArray := prog_5_method_4_code
def yX3_isTold : MethodName := ⟨RX3, "isTold", "(J)Z"⟩
abbrev cX3_numberOf : ByteArray := prog_5_method_5_code
def yX3_numberOf : MethodName := ⟨RX3, "numberOf", "(JI)I"⟩
def RX4 : String := "PromiseWeb$Past"
def TX4 : u_T := fun k => match k with
  | 0 => ("PromiseWeb$Past", "acts", "[I", true)
  | 1 => ("PromiseWeb$Past", "images", "[I", true)
  | 2 => ("PromiseWeb$Past", "next", "I", false)
  | 3 => ("PromiseWeb$Past", "count", "I", false)
  | _ => ("PromiseWeb$Past", "imaged", "I", false)
def tyX4 : Nat → FieldType := fun k => match k with
  | 0 => .array .int
  | 1 => .array .int
  | 2 => .int
  | 3 => .int
  | _ => .int
abbrev wsX40 : List Cond := u_ws RX4 TX4 5
theorem nmX4 : ∀ a, a < 5 → ∀ b, b < 5 → a ≠ b → (TX4 a).2.1 ≠ (TX4 b).2.1 := by decide +kernel
theorem tyX4_ok : ∀ k, k < 5 → parseFieldDescriptor (TX4 k).2.2.1 = some (tyX4 k) := by decide +kernel
abbrev cX4_init : ByteArray := prog_6_method_1_code
def yX4_init : MethodName := ⟨RX4, "<init>", "()V"⟩
abbrev cX4_forget : ByteArray := prog_6_method_2_code
def yX4_forget : MethodName := ⟨RX4, "forget", "()V"⟩
abbrev cX4_keep : ByteArray := prog_6_method_3_code
def yX4_keep : MethodName := ⟨RX4, "keep", "(LPromiseWeb$State;)V"⟩
abbrev cX4_takeBack : ByteArray := prog_6_method_4_code
def yX4_takeBack : MethodName := ⟨RX4, "takeBack", "(LPromiseWeb$State;)V"⟩
abbrev cX4_takeImage : ByteArray := prog_6_method_5_code
def yX4_takeImage : MethodName := ⟨RX4, "takeImage", "(LPromiseWeb$State;)V"⟩
abbrev cX4_goBack : ByteArray := prog_6_method_6_code
def yX4_goBack : MethodName := ⟨RX4, "goBack", "(LPromiseWeb$State;I)V"⟩
def RX5 : String := "PromiseWeb$Reader"
def TX5 : u_T := fun k => match k with
  | 0 => ("PromiseWeb$Reader", "names", "LPromiseWeb$Names;", true)
  | 1 => ("PromiseWeb$Reader", "row", "[I", true)
  | 2 => ("PromiseWeb$Reader", "filled", "I", false)
  | 3 => ("PromiseWeb$Reader", "tape", "LPromiseWeb$Tape;", true)
  | 4 => ("PromiseWeb$Reader", "draft", "LPromiseWeb$Told;", true)
  | 5 => ("PromiseWeb$Reader", "fault", "I", false)
  | _ => ("PromiseWeb$Reader", "place", "I", false)
def tyX5 : Nat → FieldType := fun k => match k with
  | 0 => .object "PromiseWeb$Names"
  | 1 => .array .int
  | 2 => .int
  | 3 => .object "PromiseWeb$Tape"
  | 4 => .object "PromiseWeb$Told"
  | 5 => .int
  | _ => .int
abbrev wsX50 : List Cond := u_ws RX5 TX5 7
theorem nmX5 : ∀ a, a < 7 → ∀ b, b < 7 → a ≠ b → (TX5 a).2.1 ≠ (TX5 b).2.1 := by decide +kernel
theorem tyX5_ok : ∀ k, k < 7 → parseFieldDescriptor (TX5 k).2.2.1 = some (tyX5 k) := by decide +kernel
abbrev cX5_init : ByteArray := prog_7_method_1_code
def yX5_init : MethodName := ⟨RX5, "<init>", "()V"⟩
abbrev cX5_read : ByteArray := prog_7_method_2_code
def yX5_read : MethodName := ⟨RX5, "read", "(I)V"⟩
abbrev cX5_fail : ByteArray := prog_7_method_3_code
def yX5_fail : MethodName := ⟨RX5, "fail", "(I)Z"⟩
abbrev cX5_goesOn : ByteArray := prog_7_method_4_code
def yX5_goesOn : MethodName := ⟨RX5, "goesOn", "()Z"⟩
abbrev cX5_readLine : ByteArray := prog_7_method_5_code
def yX5_readLine : MethodName := ⟨RX5, "readLine", "()Z"⟩
abbrev cX5_sortOfLine : ByteArray := prog_7_method_6_code
def yX5_sortOfLine : MethodName := ⟨RX5, "sortOfLine", "()I"⟩
abbrev cX5_readBehind : ByteArray := prog_7_method_7_code
def yX5_readBehind : MethodName := ⟨RX5, "readBehind", "(I)Z"⟩
abbrev cX5_clearRow : ByteArray := prog_7_method_8_code
def yX5_clearRow : MethodName := ⟨RX5, "clearRow", "()V"⟩
abbrev cX5_put : ByteArray := prog_7_method_9_code
def yX5_put : MethodName := ⟨RX5, "put", "(I)Z"⟩
abbrev cX5_takeWord : ByteArray := prog_7_method_10_code
def yX5_takeWord : MethodName := ⟨RX5, "takeWord", "(Ljava/lang/String;)Z"⟩
abbrev cX5_takeWhole : ByteArray := prog_7_method_11_code
def yX5_takeWhole : MethodName := ⟨RX5, "takeWhole", "(II)Z"⟩
abbrev cX5_takeNewName : ByteArray := prog_7_method_12_code
def yX5_takeNewName : MethodName := ⟨RX5, "takeNewName", "(I)Z"⟩
abbrev cX5_takeName : ByteArray := prog_7_method_13_code
def yX5_takeName : MethodName := ⟨RX5, "takeName", "(I)Z"⟩
abbrev cX5_areUnlike : ByteArray := prog_7_method_14_code
def yX5_areUnlike : MethodName := ⟨RX5, "areUnlike", "()Z"⟩
abbrev cX5_takeKind : ByteArray := prog_7_method_15_code
def yX5_takeKind : MethodName := ⟨RX5, "takeKind", "()Z"⟩
abbrev cX5_takeHow : ByteArray := prog_7_method_16_code
def yX5_takeHow : MethodName := ⟨RX5, "takeHow", "()Z"⟩
abbrev cX5_isNewClash : ByteArray := prog_7_method_17_code
def yX5_isNewClash : MethodName := ⟨RX5, "isNewClash", "()Z"⟩
abbrev cX5_isNewUnsure : ByteArray := prog_7_method_18_code
def yX5_isNewUnsure : MethodName := ⟨RX5, "isNewUnsure", "()Z"⟩
def RX6 : String := "PromiseWeb$Share"
def TX6 : u_T := fun k => match k with
  | 0 => ("PromiseWeb$Share", "upper", "J", false)
  | _ => ("PromiseWeb$Share", "lower", "J", false)
def tyX6 : Nat → FieldType := fun k => match k with
  | 0 => .long
  | _ => .long
abbrev wsX60 : List Cond := u_ws RX6 TX6 2
theorem nmX6 : ∀ a, a < 2 → ∀ b, b < 2 → a ≠ b → (TX6 a).2.1 ≠ (TX6 b).2.1 := by decide +kernel
theorem tyX6_ok : ∀ k, k < 2 → parseFieldDescriptor (TX6 k).2.2.1 = some (tyX6 k) := by decide +kernel
abbrev cX6_init : ByteArray := prog_8_method_1_code
def yX6_init : MethodName := ⟨RX6, "<init>", "()V"⟩
abbrev cX6_set : ByteArray := prog_8_method_2_code
def yX6_set : MethodName := ⟨RX6, "set", "(JJ)V"⟩
abbrev cX6_commonOf : ByteArray := prog_8_method_3_code
def yX6_commonOf : MethodName := ⟨RX6, "commonOf", "(JJ)J"⟩
abbrev cX6_part : ByteArray := prog_8_method_4_code
def yX6_part : MethodName := ⟨RX6, "part", "(Z)J"⟩
def RX7 : String := "PromiseWeb$State"
def TX7 : u_T := fun k => match k with
  | _ => ("PromiseWeb$State", "cells", "[I", true)
def tyX7 : Nat → FieldType := fun k => match k with
  | _ => .array .int
abbrev wsX70 : List Cond := u_ws RX7 TX7 1
theorem nmX7 : ∀ a, a < 1 → ∀ b, b < 1 → a ≠ b → (TX7 a).2.1 ≠ (TX7 b).2.1 := by decide +kernel
theorem tyX7_ok : ∀ k, k < 1 → parseFieldDescriptor (TX7 k).2.2.1 = some (tyX7 k) := by decide +kernel
abbrev cX7_init : ByteArray := prog_9_method_1_code
def yX7_init : MethodName := ⟨RX7, "<init>", "()V"⟩
abbrev cX7_begin : ByteArray := prog_9_method_2_code
def yX7_begin : MethodName := ⟨RX7, "begin", "(LPromiseWeb$Told;)V"⟩
abbrev cX7_addKept : ByteArray := prog_9_method_3_code
def yX7_addKept : MethodName := ⟨RX7, "addKept", "(III)V"⟩
abbrev cX7_isThere : ByteArray := prog_9_method_4_code
def yX7_isThere : MethodName := ⟨RX7, "isThere", "(II)Z"⟩
abbrev cX7_setCell : ByteArray := prog_9_method_5_code
def yX7_setCell : MethodName := ⟨RX7, "setCell", "(III)V"⟩
abbrev cX7_cell : ByteArray := prog_9_method_6_code
def yX7_cell : MethodName := ⟨RX7, "cell", "(II)I"⟩
abbrev cX7_threads : ByteArray := prog_9_method_7_code
def yX7_threads : MethodName := ⟨RX7, "threads", "()I"⟩
abbrev cX7_yearsGone : ByteArray := prog_9_method_8_code
def yX7_yearsGone : MethodName := ⟨RX7, "yearsGone", "()I"⟩
abbrev cX7_age : ByteArray := prog_9_method_9_code
def yX7_age : MethodName := ⟨RX7, "age", "(I)I"⟩
abbrev cX7_isSnapped : ByteArray := prog_9_method_10_code
def yX7_isSnapped : MethodName := ⟨RX7, "isSnapped", "(I)Z"⟩
abbrev cX7_strength : ByteArray := prog_9_method_11_code
def yX7_strength : MethodName := ⟨RX7, "strength", "(II)I"⟩
abbrev cX7_passYear : ByteArray := prog_9_method_12_code
def yX7_passYear : MethodName := ⟨RX7, "passYear", "()V"⟩
abbrev cX7_setSnapped : ByteArray := prog_9_method_13_code
def yX7_setSnapped : MethodName := ⟨RX7, "setSnapped", "(I)V"⟩
abbrev cX7_renew : ByteArray := prog_9_method_14_code
def yX7_renew : MethodName := ⟨RX7, "renew", "(I)V"⟩
abbrev cX7_copyTo : ByteArray := prog_9_method_15_code
def yX7_copyTo : MethodName := ⟨RX7, "copyTo", "([II)V"⟩
abbrev cX7_copyFrom : ByteArray := prog_9_method_16_code
def yX7_copyFrom : MethodName := ⟨RX7, "copyFrom", "([II)V"⟩
def RX8 : String := "PromiseWeb$Table"
def TX8 : u_T := fun k => match k with
  | 0 => ("PromiseWeb$Table", "cells", "[I", true)
  | _ => ("PromiseWeb$Table", "count", "I", false)
def tyX8 : Nat → FieldType := fun k => match k with
  | 0 => .array .int
  | _ => .int
abbrev wsX80 : List Cond := u_ws RX8 TX8 2
theorem nmX8 : ∀ a, a < 2 → ∀ b, b < 2 → a ≠ b → (TX8 a).2.1 ≠ (TX8 b).2.1 := by decide +kernel
theorem tyX8_ok : ∀ k, k < 2 → parseFieldDescriptor (TX8 k).2.2.1 = some (tyX8 k) := by decide +kernel
abbrev cX8_init : ByteArray := prog_10_method_1_code
def yX8_init : MethodName := ⟨RX8, "<init>", "()V"⟩
abbrev cX8_add : ByteArray := prog_10_method_2_code
def yX8_add : MethodName := ⟨RX8, "add", "([I)V"⟩
abbrev cX8_cell : ByteArray := prog_10_method_3_code
def yX8_cell : MethodName := ⟨RX8, "cell", "(II)I"⟩
abbrev cX8_copyFrom : ByteArray := prog_10_method_4_code
def yX8_copyFrom : MethodName := ⟨RX8, "copyFrom", "(LPromiseWeb$Table;)V"⟩
def RX9 : String := "PromiseWeb$Tape"
def TX9 : u_T := fun k => match k with
  | 0 => ("PromiseWeb$Tape", "bytes", "[B", true)
  | 1 => ("PromiseWeb$Tape", "count", "I", false)
  | 2 => ("PromiseWeb$Tape", "end", "I", false)
  | 3 => ("PromiseWeb$Tape", "next", "I", false)
  | 4 => ("PromiseWeb$Tape", "token", "I", false)
  | 5 => ("PromiseWeb$Tape", "start", "I", false)
  | 6 => ("PromiseWeb$Tape", "code", "J", false)
  | _ => ("PromiseWeb$Tape", "value", "I", false)
def tyX9 : Nat → FieldType := fun k => match k with
  | 0 => .array .byte
  | 1 => .int
  | 2 => .int
  | 3 => .int
  | 4 => .int
  | 5 => .int
  | 6 => .long
  | _ => .int
abbrev wsX90 : List Cond := u_ws RX9 TX9 8
theorem nmX9 : ∀ a, a < 8 → ∀ b, b < 8 → a ≠ b → (TX9 a).2.1 ≠ (TX9 b).2.1 := by decide +kernel
theorem tyX9_ok : ∀ k, k < 8 → parseFieldDescriptor (TX9 k).2.2.1 = some (tyX9 k) := by decide +kernel
abbrev cX9_init : ByteArray := prog_11_method_1_code
def yX9_init : MethodName := ⟨RX9, "<init>", "()V"⟩
abbrev cX9_takesTwenty : ByteArray := prog_11_method_2_code
def yX9_takesTwenty : MethodName := ⟨RX9, "takesTwenty", "()Z"⟩
abbrev cX9_append : ByteArray := prog_11_method_3_code
def yX9_append : MethodName := ⟨RX9, "append", "(I)V"⟩
abbrev cX9_rewind : ByteArray := prog_11_method_4_code
def yX9_rewind : MethodName := ⟨RX9, "rewind", "(I)V"⟩
abbrev cX9_advance : ByteArray := prog_11_method_5_code
def yX9_advance : MethodName := ⟨RX9, "advance", "()V"⟩
abbrev cX9_takeLetters : ByteArray := prog_11_method_6_code
def yX9_takeLetters : MethodName := ⟨RX9, "takeLetters", "()V"⟩
abbrev cX9_takeDigits : ByteArray := prog_11_method_7_code
def yX9_takeDigits : MethodName := ⟨RX9, "takeDigits", "()V"⟩
abbrev cX9_isWord : ByteArray := prog_11_method_8_code
def yX9_isWord : MethodName := ⟨RX9, "isWord", "(Ljava/lang/String;)Z"⟩
def RX10 : String := "PromiseWeb$Told"
def TX10 : u_T := fun k => match k with
  | 0 => ("PromiseWeb$Told", "web", "LPromiseWeb$Table;", true)
  | 1 => ("PromiseWeb$Told", "nails", "LPromiseWeb$Table;", true)
  | 2 => ("PromiseWeb$Told", "threads", "LPromiseWeb$Table;", true)
  | 3 => ("PromiseWeb$Told", "clashes", "LPromiseWeb$Table;", true)
  | 4 => ("PromiseWeb$Told", "loads", "LPromiseWeb$Table;", true)
  | 5 => ("PromiseWeb$Told", "offers", "LPromiseWeb$Table;", true)
  | 6 => ("PromiseWeb$Told", "unsure", "LPromiseWeb$Table;", true)
  | _ => ("PromiseWeb$Told", "hairs", "LPromiseWeb$Table;", true)
def tyX10 : Nat → FieldType := fun k => match k with
  | 0 => .object "PromiseWeb$Table"
  | 1 => .object "PromiseWeb$Table"
  | 2 => .object "PromiseWeb$Table"
  | 3 => .object "PromiseWeb$Table"
  | 4 => .object "PromiseWeb$Table"
  | 5 => .object "PromiseWeb$Table"
  | 6 => .object "PromiseWeb$Table"
  | _ => .object "PromiseWeb$Table"
abbrev wsX100 : List Cond := u_ws RX10 TX10 8
theorem nmX10 : ∀ a, a < 8 → ∀ b, b < 8 → a ≠ b → (TX10 a).2.1 ≠ (TX10 b).2.1 := by decide +kernel
theorem tyX10_ok : ∀ k, k < 8 → parseFieldDescriptor (TX10 k).2.2.1 = some (tyX10 k) := by decide +kernel
abbrev cX10_init : ByteArray := prog_12_method_1_code
def yX10_init : MethodName := ⟨RX10, "<init>", "()V"⟩
abbrev cX10_of : ByteArray := prog_12_method_2_code
def yX10_of : MethodName := ⟨RX10, "of", "(I)LPromiseWeb$Table;"⟩
abbrev cX10_clear : ByteArray := prog_12_method_3_code
def yX10_clear : MethodName := ⟨RX10, "clear", "()V"⟩
abbrev cX10_copyFrom : ByteArray := prog_12_method_4_code
def yX10_copyFrom : MethodName := ⟨RX10, "copyFrom", "(LPromiseWeb$Told;)V"⟩
abbrev cX10_add : ByteArray := prog_12_method_5_code
def yX10_add : MethodName := ⟨RX10, "add", "(I[I)V"⟩
abbrev cX10_howMany : ByteArray := prog_12_method_6_code
def yX10_howMany : MethodName := ⟨RX10, "howMany", "(I)I"⟩
abbrev cX10_cell : ByteArray := prog_12_method_7_code
def yX10_cell : MethodName := ⟨RX10, "cell", "(III)I"⟩
abbrev cX10_slipsInHundred : ByteArray := prog_12_method_8_code
def yX10_slipsInHundred : MethodName := ⟨RX10, "slipsInHundred", "()I"⟩
abbrev cX10_clerksInHundred : ByteArray := prog_12_method_9_code
def yX10_clerksInHundred : MethodName := ⟨RX10, "clerksInHundred", "()I"⟩
abbrev cX10_isLied : ByteArray := prog_12_method_10_code
def yX10_isLied : MethodName := ⟨RX10, "isLied", "(I)Z"⟩
abbrev cX10_isToldBrown : ByteArray := prog_12_method_11_code
def yX10_isToldBrown : MethodName := ⟨RX10, "isToldBrown", "(I)Z"⟩
abbrev cX10_clashesAmong : ByteArray := prog_12_method_12_code
def yX10_clashesAmong : MethodName := ⟨RX10, "clashesAmong", "(I)I"⟩
abbrev cX10_clashingWith : ByteArray := prog_12_method_13_code
def yX10_clashingWith : MethodName := ⟨RX10, "clashingWith", "(I)I"⟩
def RX11 : String := "PromiseWeb"
def TX11 : u_T := fun k => match k with
  | 0 => ("PromiseWeb", "reader", "LPromiseWeb$Reader;", true)
  | 1 => ("PromiseWeb", "told", "LPromiseWeb$Told;", true)
  | 2 => ("PromiseWeb", "state", "LPromiseWeb$State;", true)
  | 3 => ("PromiseWeb", "past", "LPromiseWeb$Past;", true)
  | 4 => ("PromiseWeb", "bearing", "LPromiseWeb$Bearing;", true)
  | 5 => ("PromiseWeb", "liars", "LPromiseWeb$Liars;", true)
  | 6 => ("PromiseWeb", "clerks", "LPromiseWeb$Clerks;", true)
  | 7 => ("PromiseWeb", "share", "LPromiseWeb$Share;", true)
  | _ => ("PromiseWeb", "refusal", "I", false)
def tyX11 : Nat → FieldType := fun k => match k with
  | 0 => .object "PromiseWeb$Reader"
  | 1 => .object "PromiseWeb$Told"
  | 2 => .object "PromiseWeb$State"
  | 3 => .object "PromiseWeb$Past"
  | 4 => .object "PromiseWeb$Bearing"
  | 5 => .object "PromiseWeb$Liars"
  | 6 => .object "PromiseWeb$Clerks"
  | 7 => .object "PromiseWeb$Share"
  | _ => .int
abbrev wsX110 : List Cond := u_ws RX11 TX11 9
theorem nmX11 : ∀ a, a < 9 → ∀ b, b < 9 → a ≠ b → (TX11 a).2.1 ≠ (TX11 b).2.1 := by decide +kernel
theorem tyX11_ok : ∀ k, k < 9 → parseFieldDescriptor (TX11 k).2.2.1 = some (tyX11 k) := by decide +kernel
abbrev cX11_init : ByteArray := prog_1_method_1_code
def yX11_init : MethodName := ⟨RX11, "<init>", "()V"⟩
abbrev cX11_feed : ByteArray := prog_1_method_2_code
def yX11_feed : MethodName := ⟨RX11, "feed", "(IIIII)I"⟩
abbrev cX11_web : ByteArray := prog_1_method_3_code
def yX11_web : MethodName := ⟨RX11, "web", "(I)I"⟩
abbrev cX11_fault : ByteArray := prog_1_method_4_code
def yX11_fault : MethodName := ⟨RX11, "fault", "()I"⟩
abbrev cX11_where : ByteArray := prog_1_method_5_code
def yX11_where : MethodName := ⟨RX11, "where", "()I"⟩
abbrev cX11_thread : ByteArray := prog_1_method_6_code
def yX11_thread : MethodName := ⟨RX11, "thread", "(II)I"⟩
abbrev cX11_nail : ByteArray := prog_1_method_7_code
def yX11_nail : MethodName := ⟨RX11, "nail", "(II)I"⟩
abbrev cX11_strong : ByteArray := prog_1_method_8_code
def yX11_strong : MethodName := ⟨RX11, "strong", "(II)I"⟩
abbrev cX11_breaksIn : ByteArray := prog_1_method_9_code
def yX11_breaksIn : MethodName := ⟨RX11, "breaksIn", "(I)I"⟩
abbrev cX11_holding : ByteArray := prog_1_method_10_code
def yX11_holding : MethodName := ⟨RX11, "holding", "(I)I"⟩
abbrev cX11_strongest : ByteArray := prog_1_method_11_code
def yX11_strongest : MethodName := ⟨RX11, "strongest", "(I)I"⟩
abbrev cX11_bears : ByteArray := prog_1_method_12_code
def yX11_bears : MethodName := ⟨RX11, "bears", "(III)I"⟩
abbrev cX11_cut : ByteArray := prog_1_method_13_code
def yX11_cut : MethodName := ⟨RX11, "cut", "(III)I"⟩
abbrev cX11_vital : ByteArray := prog_1_method_14_code
def yX11_vital : MethodName := ⟨RX11, "vital", "(III)I"⟩
abbrev cX11_needed : ByteArray := prog_1_method_15_code
def yX11_needed : MethodName := ⟨RX11, "needed", "(III)I"⟩
abbrev cX11_weakest : ByteArray := prog_1_method_16_code
def yX11_weakest : MethodName := ⟨RX11, "weakest", "(I)I"⟩
abbrev cX11_apart : ByteArray := prog_1_method_17_code
def yX11_apart : MethodName := ⟨RX11, "apart", "(III)I"⟩
abbrev cX11_parts : ByteArray := prog_1_method_18_code
def yX11_parts : MethodName := ⟨RX11, "parts", "(I)I"⟩
abbrev cX11_bridges : ByteArray := prog_1_method_19_code
def yX11_bridges : MethodName := ⟨RX11, "bridges", "(I)I"⟩
abbrev cX11_borne : ByteArray := prog_1_method_20_code
def yX11_borne : MethodName := ⟨RX11, "borne", "(I)I"⟩
abbrev cX11_fallsIn : ByteArray := prog_1_method_21_code
def yX11_fallsIn : MethodName := ⟨RX11, "fallsIn", "(I)I"⟩
abbrev cX11_spare : ByteArray := prog_1_method_22_code
def yX11_spare : MethodName := ⟨RX11, "spare", "(I)I"⟩
abbrev cX11_mend : ByteArray := prog_1_method_23_code
def yX11_mend : MethodName := ⟨RX11, "mend", "()I"⟩
abbrev cX11_mendCost : ByteArray := prog_1_method_24_code
def yX11_mendCost : MethodName := ⟨RX11, "mendCost", "()I"⟩
abbrev cX11_bestOffer : ByteArray := prog_1_method_25_code
def yX11_bestOffer : MethodName := ⟨RX11, "bestOffer", "()I"⟩
abbrev cX11_clashes : ByteArray := prog_1_method_26_code
def yX11_clashes : MethodName := ⟨RX11, "clashes", "(I)I"⟩
abbrev cX11_breakFew : ByteArray := prog_1_method_27_code
def yX11_breakFew : MethodName := ⟨RX11, "breakFew", "()I"⟩
abbrev cX11_breakRued : ByteArray := prog_1_method_28_code
def yX11_breakRued : MethodName := ⟨RX11, "breakRued", "()I"⟩
abbrev cX11_rue : ByteArray := prog_1_method_29_code
def yX11_rue : MethodName := ⟨RX11, "rue", "()I"⟩
abbrev cX11_peaces : ByteArray := prog_1_method_30_code
def yX11_peaces : MethodName := ⟨RX11, "peaces", "()I"⟩
abbrev cX11_fits : ByteArray := prog_1_method_31_code
def yX11_fits : MethodName := ⟨RX11, "fits", "()I"⟩
abbrev cX11_fitAt : ByteArray := prog_1_method_32_code
def yX11_fitAt : MethodName := ⟨RX11, "fitAt", "(I)I"⟩
abbrev cX11_odds : ByteArray := prog_1_method_33_code
def yX11_odds : MethodName := ⟨RX11, "odds", "(IZ)J"⟩
abbrev cX11_likeliest : ByteArray := prog_1_method_34_code
def yX11_likeliest : MethodName := ⟨RX11, "likeliest", "()I"⟩
abbrev cX11_test : ByteArray := prog_1_method_35_code
def yX11_test : MethodName := ⟨RX11, "test", "()I"⟩
abbrev cX11_testLeaves : ByteArray := prog_1_method_36_code
def yX11_testLeaves : MethodName := ⟨RX11, "testLeaves", "()I"⟩
abbrev cX11_brown : ByteArray := prog_1_method_37_code
def yX11_brown : MethodName := ⟨RX11, "brown", "(IIZ)J"⟩
abbrev cX11_judge : ByteArray := prog_1_method_38_code
def yX11_judge : MethodName := ⟨RX11, "judge", "()I"⟩
abbrev cX11_snaps : ByteArray := prog_1_method_39_code
def yX11_snaps : MethodName := ⟨RX11, "snaps", "(II)I"⟩
abbrev cX11_snapsBy : ByteArray := prog_1_method_40_code
def yX11_snapsBy : MethodName := ⟨RX11, "snapsBy", "(II)I"⟩
abbrev cX11_blows : ByteArray := prog_1_method_41_code
def yX11_blows : MethodName := ⟨RX11, "blows", "(IZZZ)I"⟩
abbrev cX11_rests : ByteArray := prog_1_method_42_code
def yX11_rests : MethodName := ⟨RX11, "rests", "(I)I"⟩
abbrev cX11_rest : ByteArray := prog_1_method_43_code
def yX11_rest : MethodName := ⟨RX11, "rest", "(I)I"⟩
abbrev cX11_bearOdds : ByteArray := prog_1_method_44_code
def yX11_bearOdds : MethodName := ⟨RX11, "bearOdds", "(IIIZ)J"⟩
abbrev cX11_mean : ByteArray := prog_1_method_45_code
def yX11_mean : MethodName := ⟨RX11, "mean", "(IIZ)J"⟩
abbrev cX11_years : ByteArray := prog_1_method_46_code
def yX11_years : MethodName := ⟨RX11, "years", "(II)I"⟩
abbrev cX11_fallsBy : ByteArray := prog_1_method_47_code
def yX11_fallsBy : MethodName := ⟨RX11, "fallsBy", "(III)I"⟩
abbrev cX11_year : ByteArray := prog_1_method_48_code
def yX11_year : MethodName := ⟨RX11, "year", "()I"⟩
abbrev cX11_snap : ByteArray := prog_1_method_49_code
def yX11_snap : MethodName := ⟨RX11, "snap", "(I)Z"⟩
abbrev cX11_spin : ByteArray := prog_1_method_50_code
def yX11_spin : MethodName := ⟨RX11, "spin", "(I)I"⟩
abbrev cX11_darn : ByteArray := prog_1_method_51_code
def yX11_darn : MethodName := ⟨RX11, "darn", "(I)I"⟩
abbrev cX11_undo : ByteArray := prog_1_method_52_code
def yX11_undo : MethodName := ⟨RX11, "undo", "()Z"⟩
abbrev cX11_image : ByteArray := prog_1_method_53_code
def yX11_image : MethodName := ⟨RX11, "image", "()I"⟩
abbrev cX11_back : ByteArray := prog_1_method_54_code
def yX11_back : MethodName := ⟨RX11, "back", "(I)Z"⟩
abbrev cX11_led : ByteArray := prog_1_method_55_code
def yX11_led : MethodName := ⟨RX11, "led", "(I)I"⟩
abbrev cX11_size : ByteArray := prog_1_method_56_code
def yX11_size : MethodName := ⟨RX11, "size", "(I)I"⟩
abbrev cX11_trouble : ByteArray := prog_1_method_57_code
def yX11_trouble : MethodName := ⟨RX11, "trouble", "()I"⟩
abbrev cX11_refused : ByteArray := prog_1_method_58_code
def yX11_refused : MethodName := ⟨RX11, "refused", "(I)Z"⟩
abbrev cX11_firstOf : ByteArray := prog_1_method_59_code
def yX11_firstOf : MethodName := ⟨RX11, "firstOf", "(II)I"⟩
abbrev cX11_within : ByteArray := prog_1_method_60_code
def yX11_within : MethodName := ⟨RX11, "within", "(III)I"⟩
abbrev cX11_needYears : ByteArray := prog_1_method_61_code
def yX11_needYears : MethodName := ⟨RX11, "needYears", "(I)I"⟩
abbrev cX11_needWeb : ByteArray := prog_1_method_62_code
def yX11_needWeb : MethodName := ⟨RX11, "needWeb", "()I"⟩
abbrev cX11_needRow : ByteArray := prog_1_method_63_code
def yX11_needRow : MethodName := ⟨RX11, "needRow", "(II)I"⟩
abbrev cX11_needNail : ByteArray := prog_1_method_64_code
def yX11_needNail : MethodName := ⟨RX11, "needNail", "(I)I"⟩
abbrev cX11_needTwoNails : ByteArray := prog_1_method_65_code
def yX11_needTwoNails : MethodName := ⟨RX11, "needTwoNails", "(II)I"⟩
abbrev cX11_needLoad : ByteArray := prog_1_method_66_code
def yX11_needLoad : MethodName := ⟨RX11, "needLoad", "(I)I"⟩
abbrev cX11_needThread : ByteArray := prog_1_method_67_code
def yX11_needThread : MethodName := ⟨RX11, "needThread", "(I)I"⟩
abbrev cX11_has : ByteArray := prog_1_method_68_code
def yX11_has : MethodName := ⟨RX11, "has", "(II)Z"⟩
abbrev cX11_isWithin : ByteArray := prog_1_method_69_code
def yX11_isWithin : MethodName := ⟨RX11, "isWithin", "(II)Z"⟩
abbrev cX11_goBehind : ByteArray := prog_1_method_70_code
def yX11_goBehind : MethodName := ⟨RX11, "goBehind", "(I)V"⟩
abbrev cX11_partForLoad : ByteArray := prog_1_method_71_code
def yX11_partForLoad : MethodName := ⟨RX11, "partForLoad", "(I)V"⟩
abbrev cX11_loadsBorneBy : ByteArray := prog_1_method_72_code
def yX11_loadsBorneBy : MethodName := ⟨RX11, "loadsBorneBy", "(I)I"⟩
abbrev cX11_costOf : ByteArray := prog_1_method_73_code
def yX11_costOf : MethodName := ⟨RX11, "costOf", "(I)I"⟩
abbrev cX11_cheapestMend : ByteArray := prog_1_method_74_code
def yX11_cheapestMend : MethodName := ⟨RX11, "cheapestMend", "()I"⟩
abbrev cX11_leastBreak : ByteArray := prog_1_method_75_code
def yX11_leastBreak : MethodName := ⟨RX11, "leastBreak", "(Z)I"⟩
abbrev cX11_gain : ByteArray := prog_1_method_76_code
def yX11_gain : MethodName := ⟨RX11, "gain", "(IZZ)I"⟩
abbrev cX11_isRest : ByteArray := prog_1_method_77_code
def yX11_isRest : MethodName := ⟨RX11, "isRest", "(IZZ)Z"⟩
abbrev cX11_chanceOf : ByteArray := prog_1_method_78_code
def yX11_chanceOf : MethodName := ⟨RX11, "chanceOf", "(II)J"⟩
abbrev cX11_power : ByteArray := prog_1_method_79_code
def yX11_power : MethodName := ⟨RX11, "power", "(JI)J"⟩
def RX12 : String := "PromiseWebModel$Web"
def TX12 : u_T := fun k => match k with
  | 0 => ("PromiseWebModel$Web", "slips", "I", false)
  | 1 => ("PromiseWebModel$Web", "clerks", "I", false)
  | 2 => ("PromiseWebModel$Web", "nails", "I", false)
  | 3 => ("PromiseWebModel$Web", "threads", "I", false)
  | 4 => ("PromiseWebModel$Web", "clashes", "I", false)
  | 5 => ("PromiseWebModel$Web", "loads", "I", false)
  | 6 => ("PromiseWebModel$Web", "offers", "I", false)
  | 7 => ("PromiseWebModel$Web", "unsures", "I", false)
  | 8 => ("PromiseWebModel$Web", "hairs", "I", false)
  | 9 => ("PromiseWebModel$Web", "brown", "I", false)
  | 10 => ("PromiseWebModel$Web", "names", "I", false)
  | 11 => ("PromiseWebModel$Web", "kind", "[I", true)
  | 12 => ("PromiseWebModel$Web", "one", "[I", true)
  | 13 => ("PromiseWebModel$Web", "two", "[I", true)
  | 14 => ("PromiseWebModel$Web", "strong", "[I", true)
  | 15 => ("PromiseWebModel$Web", "step", "[I", true)
  | 16 => ("PromiseWebModel$Web", "foes", "[I", true)
  | 17 => ("PromiseWebModel$Web", "loadOne", "[I", true)
  | 18 => ("PromiseWebModel$Web", "loadTwo", "[I", true)
  | 19 => ("PromiseWebModel$Web", "load", "[I", true)
  | 20 => ("PromiseWebModel$Web", "offerOne", "[I", true)
  | 21 => ("PromiseWebModel$Web", "offerTwo", "[I", true)
  | 22 => ("PromiseWebModel$Web", "offer", "[I", true)
  | 23 => ("PromiseWebModel$Web", "costs", "[I", true)
  | 24 => ("PromiseWebModel$Web", "clashOne", "[I", true)
  | 25 => ("PromiseWebModel$Web", "clashTwo", "[I", true)
  | 26 => ("PromiseWebModel$Web", "unsure", "[I", true)
  | 27 => ("PromiseWebModel$Web", "hairOne", "[I", true)
  | 28 => ("PromiseWebModel$Web", "hairTwo", "[I", true)
  | 29 => ("PromiseWebModel$Web", "name", "[J", true)
  | 30 => ("PromiseWebModel$Web", "nameSort", "[I", true)
  | _ => ("PromiseWebModel$Web", "numberOf", "[I", true)
def tyX12 : Nat → FieldType := fun k => match k with
  | 0 => .int
  | 1 => .int
  | 2 => .int
  | 3 => .int
  | 4 => .int
  | 5 => .int
  | 6 => .int
  | 7 => .int
  | 8 => .int
  | 9 => .int
  | 10 => .int
  | 11 => .array .int
  | 12 => .array .int
  | 13 => .array .int
  | 14 => .array .int
  | 15 => .array .int
  | 16 => .array .int
  | 17 => .array .int
  | 18 => .array .int
  | 19 => .array .int
  | 20 => .array .int
  | 21 => .array .int
  | 22 => .array .int
  | 23 => .array .int
  | 24 => .array .int
  | 25 => .array .int
  | 26 => .array .int
  | 27 => .array .int
  | 28 => .array .int
  | 29 => .array .long
  | 30 => .array .int
  | _ => .array .int
abbrev wsX120 : List Cond := u_ws RX12 TX12 32
theorem nmX12 : ∀ a, a < 32 → ∀ b, b < 32 → a ≠ b → (TX12 a).2.1 ≠ (TX12 b).2.1 := by decide +kernel
theorem tyX12_ok : ∀ k, k < 32 → parseFieldDescriptor (TX12 k).2.2.1 = some (tyX12 k) := by decide +kernel
abbrev cX12_init : ByteArray := prog_15_method_1_code
def yX12_init : MethodName := ⟨RX12, "<init>", "()V"⟩
abbrev cX12_find : ByteArray := prog_15_method_2_code
def yX12_find : MethodName := ⟨RX12, "find", "(J)I"⟩
abbrev cX12_unsureOf : ByteArray := prog_15_method_3_code
def yX12_unsureOf : MethodName := ⟨RX12, "unsureOf", "(I)I"⟩
def RX13 : String := "PromiseWebModel"
def TX13 : u_T := fun k => match k with
  | 0 => ("PromiseWebModel", "thrown", "I", false)
  | 1 => ("PromiseWebModel", "trouble", "I", false)
  | 2 => ("PromiseWebModel", "where", "I", false)
  | 3 => ("PromiseWebModel", "web", "LPromiseWebModel$Web;", false)
  | 4 => ("PromiseWebModel", "read", "LPromiseWebModel$Web;", false)
  | 5 => ("PromiseWebModel", "tape", "[B", true)
  | 6 => ("PromiseWebModel", "taped", "I", false)
  | 7 => ("PromiseWebModel", "size", "I", false)
  | 8 => ("PromiseWebModel", "spot", "I", false)
  | 9 => ("PromiseWebModel", "sort", "I", false)
  | 10 => ("PromiseWebModel", "place", "I", false)
  | 11 => ("PromiseWebModel", "number", "I", false)
  | 12 => ("PromiseWebModel", "fault", "I", false)
  | 13 => ("PromiseWebModel", "wrongAt", "I", false)
  | 14 => ("PromiseWebModel", "word", "J", false)
  | 15 => ("PromiseWebModel", "secondOne", "I", false)
  | 16 => ("PromiseWebModel", "v", "[I", true)
  | 17 => ("PromiseWebModel", "x", "[I", true)
  | 18 => ("PromiseWebModel", "past", "[I", true)
  | 19 => ("PromiseWebModel", "kept", "[I", true)
  | 20 => ("PromiseWebModel", "acts", "I", false)
  | 21 => ("PromiseWebModel", "images", "I", false)
  | 22 => ("PromiseWebModel", "from", "[I", true)
  | 23 => ("PromiseWebModel", "to", "[I", true)
  | 24 => ("PromiseWebModel", "strength", "[I", true)
  | 25 => ("PromiseWebModel", "edges", "I", false)
  | 26 => ("PromiseWebModel", "fitsNow", "I", false)
  | 27 => ("PromiseWebModel", "liedIn", "[I", true)
  | 28 => ("PromiseWebModel", "testLeft", "I", false)
  | 29 => ("PromiseWebModel", "wins", "[Z", true)
  | 30 => ("PromiseWebModel", "whole", "J", false)
  | _ => ("PromiseWebModel", "seedThen", "I", false)
def tyX13 : Nat → FieldType := fun k => match k with
  | 0 => .int
  | 1 => .int
  | 2 => .int
  | 3 => .object "PromiseWebModel$Web"
  | 4 => .object "PromiseWebModel$Web"
  | 5 => .array .byte
  | 6 => .int
  | 7 => .int
  | 8 => .int
  | 9 => .int
  | 10 => .int
  | 11 => .int
  | 12 => .int
  | 13 => .int
  | 14 => .long
  | 15 => .int
  | 16 => .array .int
  | 17 => .array .int
  | 18 => .array .int
  | 19 => .array .int
  | 20 => .int
  | 21 => .int
  | 22 => .array .int
  | 23 => .array .int
  | 24 => .array .int
  | 25 => .int
  | 26 => .int
  | 27 => .array .int
  | 28 => .int
  | 29 => .array .boolean
  | 30 => .long
  | _ => .int
abbrev wsX130 : List Cond := u_ws RX13 TX13 32
theorem nmX13 : ∀ a, a < 32 → ∀ b, b < 32 → a ≠ b → (TX13 a).2.1 ≠ (TX13 b).2.1 := by decide +kernel
theorem tyX13_ok : ∀ k, k < 32 → parseFieldDescriptor (TX13 k).2.2.1 = some (tyX13 k) := by decide +kernel
abbrev cX13_init : ByteArray := prog_14_method_1_code
def yX13_init : MethodName := ⟨RX13, "<init>", "()V"⟩
abbrev cX13_thrown : ByteArray := prog_14_method_2_code
def yX13_thrown : MethodName := ⟨RX13, "thrown", "()I"⟩
abbrev cX13_refused : ByteArray := prog_14_method_3_code
def yX13_refused : MethodName := ⟨RX13, "refused", "(I)I"⟩
abbrev cX13_lost : ByteArray := prog_14_method_4_code
def yX13_lost : MethodName := ⟨RX13, "lost", "(II)I"⟩
abbrev cX13_denied : ByteArray := prog_14_method_5_code
def yX13_denied : MethodName := ⟨RX13, "denied", "(I)Z"⟩
abbrev cX13_good : ByteArray := prog_14_method_6_code
def yX13_good : MethodName := ⟨RX13, "good", "(I)I"⟩
abbrev cX13_granted : ByteArray := prog_14_method_7_code
def yX13_granted : MethodName := ⟨RX13, "granted", "()Z"⟩
abbrev cX13_in : ByteArray := prog_14_method_8_code
def yX13_in : MethodName := ⟨RX13, "in", "(III)Z"⟩
abbrev cX13_bit : ByteArray := prog_14_method_9_code
def yX13_bit : MethodName := ⟨RX13, "bit", "(II)Z"⟩
abbrev cX13_bits : ByteArray := prog_14_method_10_code
def yX13_bits : MethodName := ⟨RX13, "bits", "(I)I"⟩
abbrev cX13_common : ByteArray := prog_14_method_11_code
def yX13_common : MethodName := ⟨RX13, "common", "(JJ)J"⟩
abbrev cX13_fraction : ByteArray := prog_14_method_12_code
def yX13_fraction : MethodName := ⟨RX13, "fraction", "(JJZ)J"⟩
abbrev cX13_byteAt : ByteArray := prog_14_method_13_code
def yX13_byteAt : MethodName := ⟨RX13, "byteAt", "(I)I"⟩
abbrev cX13_isLetter : ByteArray := prog_14_method_14_code
def yX13_isLetter : MethodName := ⟨RX13, "isLetter", "(I)Z"⟩
abbrev cX13_isDigit : ByteArray := prog_14_method_15_code
def yX13_isDigit : MethodName := ⟨RX13, "isDigit", "(I)Z"⟩
abbrev cX13_packed : ByteArray := prog_14_method_16_code
def yX13_packed : MethodName := ⟨RX13, "packed", "(Ljava/lang/String;)J"⟩
abbrev cX13_goesOn : ByteArray := prog_14_method_17_code
def yX13_goesOn : MethodName := ⟨RX13, "goesOn", "()V"⟩
abbrev cX13_flaw : ByteArray := prog_14_method_18_code
def yX13_flaw : MethodName := ⟨RX13, "flaw", "(I)V"⟩
abbrev cX13_isWord : ByteArray := prog_14_method_19_code
def yX13_isWord : MethodName := ⟨RX13, "isWord", "(Ljava/lang/String;)Z"⟩
abbrev cX13_eatsSemicolon : ByteArray := prog_14_method_20_code
def yX13_eatsSemicolon : MethodName := ⟨RX13, "eatsSemicolon", "()Z"⟩
abbrev cX13_readWhole : ByteArray := prog_14_method_21_code
def yX13_readWhole : MethodName := ⟨RX13, "readWhole", "(II)I"⟩
abbrev cX13_readPart : ByteArray := prog_14_method_22_code
def yX13_readPart : MethodName := ⟨RX13, "readPart", "(Ljava/lang/String;II)I"⟩
abbrev cX13_isName : ByteArray := prog_14_method_23_code
def yX13_isName : MethodName := ⟨RX13, "isName", "()Z"⟩
abbrev cX13_lineBegins : ByteArray := prog_14_method_24_code
def yX13_lineBegins : MethodName := ⟨RX13, "lineBegins", "(II)V"⟩
abbrev cX13_readFresh : ByteArray := prog_14_method_25_code
def yX13_readFresh : MethodName := ⟨RX13, "readFresh", "()J"⟩
abbrev cX13_names : ByteArray := prog_14_method_26_code
def yX13_names : MethodName := ⟨RX13, "names", "(JII)V"⟩
abbrev cX13_knownOne : ByteArray := prog_14_method_27_code
def yX13_knownOne : MethodName := ⟨RX13, "knownOne", "(I)I"⟩
abbrev cX13_readKnown : ByteArray := prog_14_method_28_code
def yX13_readKnown : MethodName := ⟨RX13, "readKnown", "(I)I"⟩
abbrev cX13_readNails : ByteArray := prog_14_method_29_code
def yX13_readNails : MethodName := ⟨RX13, "readNails", "()I"⟩
abbrev cX13_readAll : ByteArray := prog_14_method_30_code
def yX13_readAll : MethodName := ⟨RX13, "readAll", "()V"⟩
abbrev cX13_readLine : ByteArray := prog_14_method_31_code
def yX13_readLine : MethodName := ⟨RX13, "readLine", "()V"⟩
abbrev cX13_readWeb : ByteArray := prog_14_method_32_code
def yX13_readWeb : MethodName := ⟨RX13, "readWeb", "()V"⟩
abbrev cX13_readNail : ByteArray := prog_14_method_33_code
def yX13_readNail : MethodName := ⟨RX13, "readNail", "()V"⟩
abbrev cX13_readThread : ByteArray := prog_14_method_34_code
def yX13_readThread : MethodName := ⟨RX13, "readThread", "()V"⟩
abbrev cX13_readClash : ByteArray := prog_14_method_35_code
def yX13_readClash : MethodName := ⟨RX13, "readClash", "()V"⟩
abbrev cX13_readLoad : ByteArray := prog_14_method_36_code
def yX13_readLoad : MethodName := ⟨RX13, "readLoad", "()V"⟩
abbrev cX13_readOffer : ByteArray := prog_14_method_37_code
def yX13_readOffer : MethodName := ⟨RX13, "readOffer", "()V"⟩
abbrev cX13_readUnsure : ByteArray := prog_14_method_38_code
def yX13_readUnsure : MethodName := ⟨RX13, "readUnsure", "()V"⟩
abbrev cX13_readHair : ByteArray := prog_14_method_39_code
def yX13_readHair : MethodName := ⟨RX13, "readHair", "()V"⟩
abbrev cX13_feed : ByteArray := prog_14_method_40_code
def yX13_feed : MethodName := ⟨RX13, "feed", "(IIIII)I"⟩
abbrev cX13_web : ByteArray := prog_14_method_41_code
def yX13_web : MethodName := ⟨RX13, "web", "(I)I"⟩
abbrev cX13_fault : ByteArray := prog_14_method_42_code
def yX13_fault : MethodName := ⟨RX13, "fault", "()I"⟩
abbrev cX13_where : ByteArray := prog_14_method_43_code
def yX13_where : MethodName := ⟨RX13, "where", "()I"⟩
abbrev cX13_isNail : ByteArray := prog_14_method_44_code
def yX13_isNail : MethodName := ⟨RX13, "isNail", "(I)Z"⟩
abbrev cX13_isThread : ByteArray := prog_14_method_45_code
def yX13_isThread : MethodName := ⟨RX13, "isThread", "(I)Z"⟩
abbrev cX13_areTwo : ByteArray := prog_14_method_46_code
def yX13_areTwo : MethodName := ⟨RX13, "areTwo", "(II)Z"⟩
abbrev cX13_works : ByteArray := prog_14_method_47_code
def yX13_works : MethodName := ⟨RX13, "works", "()V"⟩
abbrev cX13_kindOf : ByteArray := prog_14_method_48_code
def yX13_kindOf : MethodName := ⟨RX13, "kindOf", "(I)I"⟩
abbrev cX13_stepOf : ByteArray := prog_14_method_49_code
def yX13_stepOf : MethodName := ⟨RX13, "stepOf", "(I)I"⟩
abbrev cX13_foesOf : ByteArray := prog_14_method_50_code
def yX13_foesOf : MethodName := ⟨RX13, "foesOf", "(I)I"⟩
abbrev cX13_oneOf : ByteArray := prog_14_method_51_code
def yX13_oneOf : MethodName := ⟨RX13, "oneOf", "(I)I"⟩
abbrev cX13_twoOf : ByteArray := prog_14_method_52_code
def yX13_twoOf : MethodName := ⟨RX13, "twoOf", "(I)I"⟩
abbrev cX13_strongOf : ByteArray := prog_14_method_53_code
def yX13_strongOf : MethodName := ⟨RX13, "strongOf", "(II)I"⟩
abbrev cX13_edge : ByteArray := prog_14_method_54_code
def yX13_edge : MethodName := ⟨RX13, "edge", "(III)V"⟩
abbrev cX13_laysWorked : ByteArray := prog_14_method_55_code
def yX13_laysWorked : MethodName := ⟨RX13, "laysWorked", "(I)V"⟩
abbrev cX13_lays : ByteArray := prog_14_method_56_code
def yX13_lays : MethodName := ⟨RX13, "lays", "(I)V"⟩
abbrev cX13_laysOffers : ByteArray := prog_14_method_57_code
def yX13_laysOffers : MethodName := ⟨RX13, "laysOffers", "(I)V"⟩
abbrev cX13_isCrossing : ByteArray := prog_14_method_58_code
def yX13_isCrossing : MethodName := ⟨RX13, "isCrossing", "(II)Z"⟩
abbrev cX13_crossing : ByteArray := prog_14_method_59_code
def yX13_crossing : MethodName := ⟨RX13, "crossing", "(II)I"⟩
abbrev cX13_borneBetween : ByteArray := prog_14_method_60_code
def yX13_borneBetween : MethodName := ⟨RX13, "borneBetween", "(III)I"⟩
abbrev cX13_held : ByteArray := prog_14_method_61_code
def yX13_held : MethodName := ⟨RX13, "held", "()I"⟩
abbrev cX13_together : ByteArray := prog_14_method_62_code
def yX13_together : MethodName := ⟨RX13, "together", "(II)I"⟩
abbrev cX13_partsBut : ByteArray := prog_14_method_63_code
def yX13_partsBut : MethodName := ⟨RX13, "partsBut", "(I)I"⟩
abbrev cX13_refusesYears : ByteArray := prog_14_method_64_code
def yX13_refusesYears : MethodName := ⟨RX13, "refusesYears", "(ZI)I"⟩
abbrev cX13_thread : ByteArray := prog_14_method_65_code
def yX13_thread : MethodName := ⟨RX13, "thread", "(II)I"⟩
abbrev cX13_nail : ByteArray := prog_14_method_66_code
def yX13_nail : MethodName := ⟨RX13, "nail", "(II)I"⟩
abbrev cX13_strong : ByteArray := prog_14_method_67_code
def yX13_strong : MethodName := ⟨RX13, "strong", "(II)I"⟩
abbrev cX13_breaksIn : ByteArray := prog_14_method_68_code
def yX13_breaksIn : MethodName := ⟨RX13, "breaksIn", "(I)I"⟩
abbrev cX13_holding : ByteArray := prog_14_method_69_code
def yX13_holding : MethodName := ⟨RX13, "holding", "(I)I"⟩
abbrev cX13_strongest : ByteArray := prog_14_method_70_code
def yX13_strongest : MethodName := ⟨RX13, "strongest", "(I)I"⟩
abbrev cX13_bears : ByteArray := prog_14_method_71_code
def yX13_bears : MethodName := ⟨RX13, "bears", "(III)I"⟩
abbrev cX13_cut : ByteArray := prog_14_method_72_code
def yX13_cut : MethodName := ⟨RX13, "cut", "(III)I"⟩
abbrev cX13_vital : ByteArray := prog_14_method_73_code
def yX13_vital : MethodName := ⟨RX13, "vital", "(III)I"⟩
abbrev cX13_needed : ByteArray := prog_14_method_74_code
def yX13_needed : MethodName := ⟨RX13, "needed", "(III)I"⟩
abbrev cX13_weakest : ByteArray := prog_14_method_75_code
def yX13_weakest : MethodName := ⟨RX13, "weakest", "(I)I"⟩
abbrev cX13_apart : ByteArray := prog_14_method_76_code
def yX13_apart : MethodName := ⟨RX13, "apart", "(III)I"⟩
abbrev cX13_parts : ByteArray := prog_14_method_77_code
def yX13_parts : MethodName := ⟨RX13, "parts", "(I)I"⟩
abbrev cX13_bridges : ByteArray := prog_14_method_78_code
def yX13_bridges : MethodName := ⟨RX13, "bridges", "(I)I"⟩
abbrev cX13_borneAll : ByteArray := prog_14_method_79_code
def yX13_borneAll : MethodName := ⟨RX13, "borneAll", "()I"⟩
abbrev cX13_isLoad : ByteArray := prog_14_method_80_code
def yX13_isLoad : MethodName := ⟨RX13, "isLoad", "(I)Z"⟩
abbrev cX13_borne : ByteArray := prog_14_method_81_code
def yX13_borne : MethodName := ⟨RX13, "borne", "(I)I"⟩
abbrev cX13_fallsIn : ByteArray := prog_14_method_82_code
def yX13_fallsIn : MethodName := ⟨RX13, "fallsIn", "(I)I"⟩
abbrev cX13_spare : ByteArray := prog_14_method_83_code
def yX13_spare : MethodName := ⟨RX13, "spare", "(I)I"⟩
abbrev cX13_costOf : ByteArray := prog_14_method_84_code
def yX13_costOf : MethodName := ⟨RX13, "costOf", "(I)I"⟩
abbrev cX13_mending : ByteArray := prog_14_method_85_code
def yX13_mending : MethodName := ⟨RX13, "mending", "()I"⟩
abbrev cX13_mend : ByteArray := prog_14_method_86_code
def yX13_mend : MethodName := ⟨RX13, "mend", "()I"⟩
abbrev cX13_mendCost : ByteArray := prog_14_method_87_code
def yX13_mendCost : MethodName := ⟨RX13, "mendCost", "()I"⟩
abbrev cX13_bestOffer : ByteArray := prog_14_method_88_code
def yX13_bestOffer : MethodName := ⟨RX13, "bestOffer", "()I"⟩
abbrev cX13_clashing : ByteArray := prog_14_method_89_code
def yX13_clashing : MethodName := ⟨RX13, "clashing", "(I)I"⟩
abbrev cX13_clashes : ByteArray := prog_14_method_90_code
def yX13_clashes : MethodName := ⟨RX13, "clashes", "(I)I"⟩
abbrev cX13_strengthOf : ByteArray := prog_14_method_91_code
def yX13_strengthOf : MethodName := ⟨RX13, "strengthOf", "(I)I"⟩
abbrev cX13_breaking : ByteArray := prog_14_method_92_code
def yX13_breaking : MethodName := ⟨RX13, "breaking", "(Z)I"⟩
abbrev cX13_breakFew : ByteArray := prog_14_method_93_code
def yX13_breakFew : MethodName := ⟨RX13, "breakFew", "()I"⟩
abbrev cX13_breakRued : ByteArray := prog_14_method_94_code
def yX13_breakRued : MethodName := ⟨RX13, "breakRued", "()I"⟩
abbrev cX13_rue : ByteArray := prog_14_method_95_code
def yX13_rue : MethodName := ⟨RX13, "rue", "()I"⟩
abbrev cX13_peaces : ByteArray := prog_14_method_96_code
def yX13_peaces : MethodName := ⟨RX13, "peaces", "()I"⟩
abbrev cX13_isLied : ByteArray := prog_14_method_97_code
def yX13_isLied : MethodName := ⟨RX13, "isLied", "(II)Z"⟩
abbrev cX13_isRight : ByteArray := prog_14_method_98_code
def yX13_isRight : MethodName := ⟨RX13, "isRight", "(II)Z"⟩
abbrev cX13_weightOf : ByteArray := prog_14_method_99_code
def yX13_weightOf : MethodName := ⟨RX13, "weightOf", "(I)J"⟩
abbrev cX13_sets : ByteArray := prog_14_method_100_code
def yX13_sets : MethodName := ⟨RX13, "sets", "()I"⟩
abbrev cX13_fitting : ByteArray := prog_14_method_101_code
def yX13_fitting : MethodName := ⟨RX13, "fitting", "(I)I"⟩
abbrev cX13_fits : ByteArray := prog_14_method_102_code
def yX13_fits : MethodName := ⟨RX13, "fits", "()I"⟩
abbrev cX13_fitAt : ByteArray := prog_14_method_103_code
def yX13_fitAt : MethodName := ⟨RX13, "fitAt", "(I)I"⟩
abbrev cX13_odds : ByteArray := prog_14_method_104_code
def yX13_odds : MethodName := ⟨RX13, "odds", "(IZ)J"⟩
abbrev cX13_likeliest : ByteArray := prog_14_method_105_code
def yX13_likeliest : MethodName := ⟨RX13, "likeliest", "()I"⟩
abbrev cX13_tests : ByteArray := prog_14_method_106_code
def yX13_tests : MethodName := ⟨RX13, "tests", "()I"⟩
abbrev cX13_test : ByteArray := prog_14_method_107_code
def yX13_test : MethodName := ⟨RX13, "test", "()I"⟩
abbrev cX13_testLeaves : ByteArray := prog_14_method_108_code
def yX13_testLeaves : MethodName := ⟨RX13, "testLeaves", "()I"⟩
abbrev cX13_isLiedNow : ByteArray := prog_14_method_109_code
def yX13_isLiedNow : MethodName := ⟨RX13, "isLiedNow", "(II)Z"⟩
abbrev cX13_brown : ByteArray := prog_14_method_110_code
def yX13_brown : MethodName := ⟨RX13, "brown", "(IIZ)J"⟩
abbrev cX13_judge : ByteArray := prog_14_method_111_code
def yX13_judge : MethodName := ⟨RX13, "judge", "()I"⟩
abbrev cX13_snapping : ByteArray := prog_14_method_112_code
def yX13_snapping : MethodName := ⟨RX13, "snapping", "(II)V"⟩
abbrev cX13_snaps : ByteArray := prog_14_method_113_code
def yX13_snaps : MethodName := ⟨RX13, "snaps", "(II)I"⟩
abbrev cX13_snapsBy : ByteArray := prog_14_method_114_code
def yX13_snapsBy : MethodName := ⟨RX13, "snapsBy", "(II)I"⟩
abbrev cX13_blown : ByteArray := prog_14_method_115_code
def yX13_blown : MethodName := ⟨RX13, "blown", "(IZZ)I"⟩
abbrev cX13_refusesWeb : ByteArray := prog_14_method_116_code
def yX13_refusesWeb : MethodName := ⟨RX13, "refusesWeb", "(I)I"⟩
abbrev cX13_blows : ByteArray := prog_14_method_117_code
def yX13_blows : MethodName := ⟨RX13, "blows", "(IZZZ)I"⟩
abbrev cX13_isRest : ByteArray := prog_14_method_118_code
def yX13_isRest : MethodName := ⟨RX13, "isRest", "(II)Z"⟩
abbrev cX13_rests : ByteArray := prog_14_method_119_code
def yX13_rests : MethodName := ⟨RX13, "rests", "(I)I"⟩
abbrev cX13_rest : ByteArray := prog_14_method_120_code
def yX13_rest : MethodName := ⟨RX13, "rest", "(I)I"⟩
abbrev cX13_partOf : ByteArray := prog_14_method_121_code
def yX13_partOf : MethodName := ⟨RX13, "partOf", "(II)J"⟩
abbrev cX13_bearOdds : ByteArray := prog_14_method_122_code
def yX13_bearOdds : MethodName := ⟨RX13, "bearOdds", "(IIIZ)J"⟩
abbrev cX13_mean : ByteArray := prog_14_method_123_code
def yX13_mean : MethodName := ⟨RX13, "mean", "(IIZ)J"⟩
abbrev cX13_clerksYear : ByteArray := prog_14_method_124_code
def yX13_clerksYear : MethodName := ⟨RX13, "clerksYear", "()V"⟩
abbrev cX13_refusesSeed : ByteArray := prog_14_method_125_code
def yX13_refusesSeed : MethodName := ⟨RX13, "refusesSeed", "(ZII)I"⟩
abbrev cX13_years : ByteArray := prog_14_method_126_code
def yX13_years : MethodName := ⟨RX13, "years", "(II)I"⟩
abbrev cX13_fallsBy : ByteArray := prog_14_method_127_code
def yX13_fallsBy : MethodName := ⟨RX13, "fallsBy", "(III)I"⟩
abbrev cX13_remembers : ByteArray := prog_14_method_128_code
def yX13_remembers : MethodName := ⟨RX13, "remembers", "()V"⟩
abbrev cX13_year : ByteArray := prog_14_method_129_code
def yX13_year : MethodName := ⟨RX13, "year", "()I"⟩
abbrev cX13_snap : ByteArray := prog_14_method_130_code
def yX13_snap : MethodName := ⟨RX13, "snap", "(I)Z"⟩
abbrev cX13_spin : ByteArray := prog_14_method_131_code
def yX13_spin : MethodName := ⟨RX13, "spin", "(I)I"⟩
abbrev cX13_darn : ByteArray := prog_14_method_132_code
def yX13_darn : MethodName := ⟨RX13, "darn", "(I)I"⟩
abbrev cX13_undo : ByteArray := prog_14_method_133_code
def yX13_undo : MethodName := ⟨RX13, "undo", "()Z"⟩
abbrev cX13_image : ByteArray := prog_14_method_134_code
def yX13_image : MethodName := ⟨RX13, "image", "()I"⟩
abbrev cX13_back : ByteArray := prog_14_method_135_code
def yX13_back : MethodName := ⟨RX13, "back", "(I)Z"⟩
abbrev cX13_led : ByteArray := prog_14_method_136_code
def yX13_led : MethodName := ⟨RX13, "led", "(I)I"⟩
abbrev cX13_size : ByteArray := prog_14_method_137_code
def yX13_size : MethodName := ⟨RX13, "size", "(I)I"⟩
abbrev cX13_trouble : ByteArray := prog_14_method_138_code
def yX13_trouble : MethodName := ⟨RX13, "trouble", "()I"⟩
def RJx145de : String := "java/io/Serializable"
def TJx145de : u_T := fun k => match k with
  | _ => ("", "", "", false)
def tyJx145de : Nat → FieldType := fun k => match k with
  | _ => .int
abbrev wsJx145de0 : List Cond := u_ws RJx145de TJx145de 0
theorem nmJx145de : ∀ a, a < 0 → ∀ b, b < 0 → a ≠ b → (TJx145de a).2.1 ≠ (TJx145de b).2.1 := by decide +kernel
theorem tyJx145de_ok : ∀ k, k < 0 → parseFieldDescriptor (TJx145de k).2.2.1 = some (tyJx145de k) := by decide +kernel
def RJx9f9b0 : String := "java/lang/CharSequence"
def TJx9f9b0 : u_T := fun k => match k with
  | _ => ("", "", "", false)
def tyJx9f9b0 : Nat → FieldType := fun k => match k with
  | _ => .int
abbrev wsJx9f9b00 : List Cond := u_ws RJx9f9b0 TJx9f9b0 0
theorem nmJx9f9b0 : ∀ a, a < 0 → ∀ b, b < 0 → a ≠ b → (TJx9f9b0 a).2.1 ≠ (TJx9f9b0 b).2.1 := by decide +kernel
theorem tyJx9f9b0_ok : ∀ k, k < 0 → parseFieldDescriptor (TJx9f9b0 k).2.2.1 = some (tyJx9f9b0 k) := by decide +kernel
def RJxb160c : String := "java/lang/Comparable"
def TJxb160c : u_T := fun k => match k with
  | _ => ("", "", "", false)
def tyJxb160c : Nat → FieldType := fun k => match k with
  | _ => .int
abbrev wsJxb160c0 : List Cond := u_ws RJxb160c TJxb160c 0
theorem nmJxb160c : ∀ a, a < 0 → ∀ b, b < 0 → a ≠ b → (TJxb160c a).2.1 ≠ (TJxb160c b).2.1 := by decide +kernel
theorem tyJxb160c_ok : ∀ k, k < 0 → parseFieldDescriptor (TJxb160c k).2.2.1 = some (tyJxb160c k) := by decide +kernel
def RJ6 : String := "java/lang/Integer"
def TJ6 : u_T := fun k => match k with
  | _ => ("", "", "", false)
def tyJ6 : Nat → FieldType := fun k => match k with
  | _ => .int
abbrev wsJ60 : List Cond := u_ws RJ6 TJ6 0
theorem nmJ6 : ∀ a, a < 0 → ∀ b, b < 0 → a ≠ b → (TJ6 a).2.1 ≠ (TJ6 b).2.1 := by decide +kernel
theorem tyJ6_ok : ∀ k, k < 0 → parseFieldDescriptor (TJ6 k).2.2.1 = some (tyJ6 k) := by decide +kernel
abbrev cJ6_bitCount_0f7a4 : ByteArray := prog_20_method_49_code
def yJ6_bitCount_0f7a4 : MethodName := ⟨RJ6, "bitCount", "(I)I"⟩
def RJ9 : String := "java/lang/Math"
def TJ9 : u_T := fun k => match k with
  | _ => ("", "", "", false)
def tyJ9 : Nat → FieldType := fun k => match k with
  | _ => .int
abbrev wsJ90 : List Cond := u_ws RJ9 TJ9 0
theorem nmJ9 : ∀ a, a < 0 → ∀ b, b < 0 → a ≠ b → (TJ9 a).2.1 ≠ (TJ9 b).2.1 := by decide +kernel
theorem tyJ9_ok : ∀ k, k < 0 → parseFieldDescriptor (TJ9 k).2.2.1 = some (tyJ9 k) := by decide +kernel
abbrev cJ9_max_7cf53 : ByteArray := prog_21_method_65_code
def yJ9_max_7cf53 : MethodName := ⟨RJ9, "max", "(II)I"⟩
abbrev cJ9_min_7cf53 : ByteArray := prog_21_method_69_code
def yJ9_min_7cf53 : MethodName := ⟨RJ9, "min", "(II)I"⟩
def RJ0 : String := "java/lang/String"
def TJ0 : u_T := fun k => match k with
  | _ => ("", "", "", false)
def tyJ0 : Nat → FieldType := fun k => match k with
  | _ => .int
abbrev wsJ00 : List Cond := u_ws RJ0 TJ0 0
theorem nmJ0 : ∀ a, a < 0 → ∀ b, b < 0 → a ≠ b → (TJ0 a).2.1 ≠ (TJ0 b).2.1 := by decide +kernel
theorem tyJ0_ok : ∀ k, k < 0 → parseFieldDescriptor (TJ0 k).2.2.1 = some (tyJ0 k) := by decide +kernel
abbrev cJ0_length_8abf5 : ByteArray := prog_23_method_54_code
def yJ0_length_8abf5 : MethodName := ⟨RJ0, "length", "()I"⟩
abbrev cJ0_charAt_5068e : ByteArray := prog_23_method_56_code
def yJ0_charAt_5068e : MethodName := ⟨RJ0, "charAt", "(I)C"⟩
abbrev cJ0_coder_7d493 : ByteArray := prog_23_method_152_code
def yJ0_coder_7d493 : MethodName := ⟨RJ0, "coder", "()B"⟩
abbrev cJ0_isLatin1_aae02 : ByteArray := prog_23_method_154_code
def yJ0_isLatin1_aae02 : MethodName := ⟨RJ0, "isLatin1", "()Z"⟩
abbrev cJ0_checkIndex_df160 : ByteArray := prog_23_method_155_code
def yJ0_checkIndex_df160 : MethodName := ⟨RJ0, "checkIndex", "(II)V"⟩
def RJ1 : String := "java/lang/StringLatin1"
def TJ1 : u_T := fun k => match k with
  | _ => ("", "", "", false)
def tyJ1 : Nat → FieldType := fun k => match k with
  | _ => .int
abbrev wsJ10 : List Cond := u_ws RJ1 TJ1 0
theorem nmJ1 : ∀ a, a < 0 → ∀ b, b < 0 → a ≠ b → (TJ1 a).2.1 ≠ (TJ1 b).2.1 := by decide +kernel
theorem tyJ1_ok : ∀ k, k < 0 → parseFieldDescriptor (TJ1 k).2.2.1 = some (tyJ1 k) := by decide +kernel
abbrev cJ1_charAt_3b067 : ByteArray := prog_24_method_2_code
def yJ1_charAt_3b067 : MethodName := ⟨RJ1, "charAt", "([BI)C"⟩
def RJ2 : String := "java/lang/StringUTF16"
def TJ2 : u_T := fun k => match k with
  | _ => ("", "", "", false)
def tyJ2 : Nat → FieldType := fun k => match k with
  | _ => .int
abbrev wsJ20 : List Cond := u_ws RJ2 TJ2 0
theorem nmJ2 : ∀ a, a < 0 → ∀ b, b < 0 → a ≠ b → (TJ2 a).2.1 ≠ (TJ2 b).2.1 := by decide +kernel
theorem tyJ2_ok : ∀ k, k < 0 → parseFieldDescriptor (TJ2 k).2.2.1 = some (tyJ2 k) := by decide +kernel
abbrev cJ2_getChar_3b067 : ByteArray := prog_25_method_5_code
def yJ2_getChar_3b067 : MethodName := ⟨RJ2, "getChar", "([BI)C"⟩
abbrev cJ2_length_9d52b : ByteArray := prog_25_method_6_code
def yJ2_length_9d52b : MethodName := ⟨RJ2, "length", "([B)I"⟩
abbrev cJ2_charAt_3b067 : ByteArray := prog_25_method_83_code
def yJ2_charAt_3b067 : MethodName := ⟨RJ2, "charAt", "([BI)C"⟩
abbrev cJ2_checkIndex_2214a : ByteArray := prog_25_method_91_code
def yJ2_checkIndex_2214a : MethodName := ⟨RJ2, "checkIndex", "(I[B)V"⟩
def RJ10 : String := "java/lang/System"
def TJ10 : u_T := fun k => match k with
  | _ => ("", "", "", false)
def tyJ10 : Nat → FieldType := fun k => match k with
  | _ => .int
abbrev wsJ100 : List Cond := u_ws RJ10 TJ10 0
theorem nmJ10 : ∀ a, a < 0 → ∀ b, b < 0 → a ≠ b → (TJ10 a).2.1 ≠ (TJ10 b).2.1 := by decide +kernel
theorem tyJ10_ok : ∀ k, k < 0 → parseFieldDescriptor (TJ10 k).2.2.1 = some (tyJ10 k) := by decide +kernel
def RJxfd54e : String := "java/lang/constant/Constable"
def TJxfd54e : u_T := fun k => match k with
  | _ => ("", "", "", false)
def tyJxfd54e : Nat → FieldType := fun k => match k with
  | _ => .int
abbrev wsJxfd54e0 : List Cond := u_ws RJxfd54e TJxfd54e 0
theorem nmJxfd54e : ∀ a, a < 0 → ∀ b, b < 0 → a ≠ b → (TJxfd54e a).2.1 ≠ (TJxfd54e b).2.1 := by decide +kernel
theorem tyJxfd54e_ok : ∀ k, k < 0 → parseFieldDescriptor (TJxfd54e k).2.2.1 = some (tyJxfd54e k) := by decide +kernel
def RJx3cf43 : String := "java/lang/constant/ConstantDesc"
def TJx3cf43 : u_T := fun k => match k with
  | _ => ("", "", "", false)
def tyJx3cf43 : Nat → FieldType := fun k => match k with
  | _ => .int
abbrev wsJx3cf430 : List Cond := u_ws RJx3cf43 TJx3cf43 0
theorem nmJx3cf43 : ∀ a, a < 0 → ∀ b, b < 0 → a ≠ b → (TJx3cf43 a).2.1 ≠ (TJx3cf43 b).2.1 := by decide +kernel
theorem tyJx3cf43_ok : ∀ k, k < 0 → parseFieldDescriptor (TJx3cf43 k).2.2.1 = some (tyJx3cf43 k) := by decide +kernel
def RJ3 : String := "jdk/internal/util/Preconditions"
def TJ3 : u_T := fun k => match k with
  | _ => ("", "", "", false)
def tyJ3 : Nat → FieldType := fun k => match k with
  | _ => .int
abbrev wsJ30 : List Cond := u_ws RJ3 TJ3 0
theorem nmJ3 : ∀ a, a < 0 → ∀ b, b < 0 → a ≠ b → (TJ3 a).2.1 ≠ (TJ3 b).2.1 := by decide +kernel
theorem tyJ3_ok : ∀ k, k < 0 → parseFieldDescriptor (TJ3 k).2.2.1 = some (tyJ3 k) := by decide +kernel
abbrev cJ3_checkIndex_8e157 : ByteArray := prog_31_method_11_code
def yJ3_checkIndex_8e157 : MethodName := ⟨RJ3, "checkIndex", "(IILjava/util/function/BiFunction;)I"⟩
def RL : String := "PromiseWebLaw"
abbrev cL_led : ByteArray := method_3_code
def yL_led : MethodName := ⟨RL, "led", "(LPromiseWeb;I[J)I"⟩
abbrev cL_law : ByteArray := code
def yL_law : MethodName := ⟨RL, "law", "([I)Z"⟩
end
section
theorem dX0_init_0 : decode cX0_init 0 = .ok (.aload_n 0, 1) := by decide +kernel
theorem dX0_init_1 : decode cX0_init 1 = .ok (.invokespecial 3, 3) := by decide +kernel
theorem dX0_init_4 : decode cX0_init 4 = .ok (.aload_n 0, 1) := by decide +kernel
theorem dX0_init_5 : decode cX0_init 5 = .ok (.bipush 13, 2) := by decide +kernel
theorem dX0_init_7 : decode cX0_init 7 = .ok (.newarray .int, 2) := by decide +kernel
theorem dX0_init_9 : decode cX0_init 9 = .ok (.putfield 11, 3) := by decide +kernel
theorem dX0_init_12 : decode cX0_init 12 = .ok (.aload_n 0, 1) := by decide +kernel
theorem dX0_init_13 : decode cX0_init 13 = .ok (.bipush 13, 2) := by decide +kernel
theorem dX0_init_15 : decode cX0_init 15 = .ok (.newarray .int, 2) := by decide +kernel
theorem dX0_init_17 : decode cX0_init 17 = .ok (.putfield 15, 3) := by decide +kernel
theorem dX0_init_20 : decode cX0_init 20 = .ok (.aload_n 0, 1) := by decide +kernel
theorem dX0_init_21 : decode cX0_init 21 = .ok (.bipush 13, 2) := by decide +kernel
theorem dX0_init_23 : decode cX0_init 23 = .ok (.newarray .int, 2) := by decide +kernel
theorem dX0_init_25 : decode cX0_init 25 = .ok (.putfield 18, 3) := by decide +kernel
theorem dX0_init_28 : decode cX0_init 28 = .ok (.aload_n 0, 1) := by decide +kernel
theorem dX0_init_29 : decode cX0_init 29 = .ok (.sipush 256, 3) := by decide +kernel
theorem dX0_init_32 : decode cX0_init 32 = .ok (.newarray .int, 2) := by decide +kernel
theorem dX0_init_34 : decode cX0_init 34 = .ok (.putfield 21, 3) := by decide +kernel
theorem dX0_init_37 : decode cX0_init 37 = .ok (.aload_n 0, 1) := by decide +kernel
theorem dX0_init_38 : decode cX0_init 38 = .ok (.bipush 32, 2) := by decide +kernel
theorem dX0_init_40 : decode cX0_init 40 = .ok (.newarray .int, 2) := by decide +kernel
theorem dX0_init_42 : decode cX0_init 42 = .ok (.putfield 24, 3) := by decide +kernel
theorem dX0_init_45 : decode cX0_init 45 = .ok (.aload_n 0, 1) := by decide +kernel
theorem dX0_init_46 : decode cX0_init 46 = .ok (.bipush 32, 2) := by decide +kernel
theorem dX0_init_48 : decode cX0_init 48 = .ok (.newarray .int, 2) := by decide +kernel
theorem dX0_init_50 : decode cX0_init 50 = .ok (.putfield 27, 3) := by decide +kernel
theorem dX0_init_53 : decode cX0_init 53 = .ok (.aload_n 0, 1) := by decide +kernel
theorem dX0_init_54 : decode cX0_init 54 = .ok (.sipush 256, 3) := by decide +kernel
theorem dX0_init_57 : decode cX0_init 57 = .ok (.newarray .boolean, 2) := by decide +kernel
theorem dX0_init_59 : decode cX0_init 59 = .ok (.putfield 30, 3) := by decide +kernel
theorem dX0_init_62 : decode cX0_init 62 = .ok (.return_, 1) := by decide +kernel
theorem dX0_ofOffers_0 : decode cX0_ofOffers 0 = .ok (.iload_n 0, 1) := by decide +kernel
theorem dX0_ofOffers_1 : decode cX0_ofOffers 1 = .ok (.bipush 8, 2) := by decide +kernel
theorem dX0_ofOffers_3 : decode cX0_ofOffers 3 = .ok (.ishl, 1) := by decide +kernel
theorem dX0_ofOffers_4 : decode cX0_ofOffers 4 = .ok (.ireturn, 1) := by decide +kernel
theorem dX0_arrange_0 : decode cX0_arrange 0 = .ok (.aload_n 0, 1) := by decide +kernel
theorem dX0_arrange_1 : decode cX0_arrange 1 = .ok (.aload_n 2, 1) := by decide +kernel
theorem dX0_arrange_2 : decode cX0_arrange 2 = .ok (.iconst 1, 1) := by decide +kernel
theorem dX0_arrange_3 : decode cX0_arrange 3 = .ok (.invokevirtual 34, 3) := by decide +kernel
theorem dX0_arrange_6 : decode cX0_arrange 6 = .ok (.bipush 7, 2) := by decide +kernel
theorem dX0_arrange_8 : decode cX0_arrange 8 = .ok (.invokestatic 40, 3) := by decide +kernel
theorem dX0_arrange_11 : decode cX0_arrange 11 = .ok (.putfield 46, 3) := by decide +kernel
theorem dX0_arrange_14 : decode cX0_arrange 14 = .ok (.iconst 0, 1) := by decide +kernel
theorem dX0_arrange_15 : decode cX0_arrange 15 = .ok (.istore_n 3, 1) := by decide +kernel
theorem dX0_arrange_16 : decode cX0_arrange 16 = .ok (.iload_n 3, 1) := by decide +kernel
theorem dX0_arrange_17 : decode cX0_arrange 17 = .ok (.bipush 8, 2) := by decide +kernel
theorem dX0_arrange_19 : decode cX0_arrange 19 = .ok (.if_icmp .ge 33, 3) := by decide +kernel
theorem dX0_arrange_22 : decode cX0_arrange 22 = .ok (.aload_n 0, 1) := by decide +kernel
theorem dX0_arrange_23 : decode cX0_arrange 23 = .ok (.getfield 11, 3) := by decide +kernel
theorem dX0_arrange_26 : decode cX0_arrange 26 = .ok (.iload_n 3, 1) := by decide +kernel
theorem dX0_arrange_27 : decode cX0_arrange 27 = .ok (.aload_n 1, 1) := by decide +kernel
theorem dX0_arrange_28 : decode cX0_arrange 28 = .ok (.iload_n 3, 1) := by decide +kernel
theorem dX0_arrange_29 : decode cX0_arrange 29 = .ok (.iconst 1, 1) := by decide +kernel
theorem dX0_arrange_30 : decode cX0_arrange 30 = .ok (.invokevirtual 50, 3) := by decide +kernel
theorem dX0_arrange_33 : decode cX0_arrange 33 = .ok (.iastore, 1) := by decide +kernel
theorem dX0_arrange_34 : decode cX0_arrange 34 = .ok (.aload_n 0, 1) := by decide +kernel
theorem dX0_arrange_35 : decode cX0_arrange 35 = .ok (.getfield 15, 3) := by decide +kernel
theorem dX0_arrange_38 : decode cX0_arrange 38 = .ok (.iload_n 3, 1) := by decide +kernel
theorem dX0_arrange_39 : decode cX0_arrange 39 = .ok (.aload_n 1, 1) := by decide +kernel
theorem dX0_arrange_40 : decode cX0_arrange 40 = .ok (.iload_n 3, 1) := by decide +kernel
theorem dX0_arrange_41 : decode cX0_arrange 41 = .ok (.iconst 2, 1) := by decide +kernel
theorem dX0_arrange_42 : decode cX0_arrange 42 = .ok (.invokevirtual 50, 3) := by decide +kernel
theorem dX0_arrange_45 : decode cX0_arrange 45 = .ok (.iastore, 1) := by decide +kernel
theorem dX0_arrange_46 : decode cX0_arrange 46 = .ok (.iinc 3 1, 3) := by decide +kernel
theorem dX0_arrange_49 : decode cX0_arrange 49 = .ok (.goto (-33), 3) := by decide +kernel
theorem dX0_arrange_52 : decode cX0_arrange 52 = .ok (.iconst 0, 1) := by decide +kernel
theorem dX0_arrange_53 : decode cX0_arrange 53 = .ok (.istore_n 3, 1) := by decide +kernel
theorem dX0_arrange_54 : decode cX0_arrange 54 = .ok (.iload_n 3, 1) := by decide +kernel
theorem dX0_arrange_55 : decode cX0_arrange 55 = .ok (.iconst 5, 1) := by decide +kernel
theorem dX0_arrange_56 : decode cX0_arrange 56 = .ok (.if_icmp .ge 57, 3) := by decide +kernel
theorem dX0_arrange_59 : decode cX0_arrange 59 = .ok (.aload_n 0, 1) := by decide +kernel
theorem dX0_arrange_60 : decode cX0_arrange 60 = .ok (.getfield 11, 3) := by decide +kernel
theorem dX0_arrange_63 : decode cX0_arrange 63 = .ok (.bipush 8, 2) := by decide +kernel
theorem dX0_arrange_65 : decode cX0_arrange 65 = .ok (.iload_n 3, 1) := by decide +kernel
theorem dX0_arrange_66 : decode cX0_arrange 66 = .ok (.iadd, 1) := by decide +kernel
theorem dX0_arrange_67 : decode cX0_arrange 67 = .ok (.aload_n 2, 1) := by decide +kernel
theorem dX0_arrange_68 : decode cX0_arrange 68 = .ok (.iconst 5, 1) := by decide +kernel
theorem dX0_arrange_69 : decode cX0_arrange 69 = .ok (.iload_n 3, 1) := by decide +kernel
theorem dX0_arrange_70 : decode cX0_arrange 70 = .ok (.iconst 0, 1) := by decide +kernel
theorem dX0_arrange_71 : decode cX0_arrange 71 = .ok (.invokevirtual 55, 3) := by decide +kernel
theorem dX0_arrange_74 : decode cX0_arrange 74 = .ok (.iastore, 1) := by decide +kernel
theorem dX0_arrange_75 : decode cX0_arrange 75 = .ok (.aload_n 0, 1) := by decide +kernel
theorem dX0_arrange_76 : decode cX0_arrange 76 = .ok (.getfield 15, 3) := by decide +kernel
theorem dX0_arrange_79 : decode cX0_arrange 79 = .ok (.bipush 8, 2) := by decide +kernel
theorem dX0_arrange_81 : decode cX0_arrange 81 = .ok (.iload_n 3, 1) := by decide +kernel
theorem dX0_arrange_82 : decode cX0_arrange 82 = .ok (.iadd, 1) := by decide +kernel
theorem dX0_arrange_83 : decode cX0_arrange 83 = .ok (.aload_n 2, 1) := by decide +kernel
theorem dX0_arrange_84 : decode cX0_arrange 84 = .ok (.iconst 5, 1) := by decide +kernel
theorem dX0_arrange_85 : decode cX0_arrange 85 = .ok (.iload_n 3, 1) := by decide +kernel
theorem dX0_arrange_86 : decode cX0_arrange 86 = .ok (.iconst 1, 1) := by decide +kernel
theorem dX0_arrange_87 : decode cX0_arrange 87 = .ok (.invokevirtual 55, 3) := by decide +kernel
theorem dX0_arrange_90 : decode cX0_arrange 90 = .ok (.iastore, 1) := by decide +kernel
theorem dX0_arrange_91 : decode cX0_arrange 91 = .ok (.aload_n 0, 1) := by decide +kernel
theorem dX0_arrange_92 : decode cX0_arrange 92 = .ok (.getfield 18, 3) := by decide +kernel
theorem dX0_arrange_95 : decode cX0_arrange 95 = .ok (.bipush 8, 2) := by decide +kernel
theorem dX0_arrange_97 : decode cX0_arrange 97 = .ok (.iload_n 3, 1) := by decide +kernel
theorem dX0_arrange_98 : decode cX0_arrange 98 = .ok (.iadd, 1) := by decide +kernel
theorem dX0_arrange_99 : decode cX0_arrange 99 = .ok (.aload_n 2, 1) := by decide +kernel
theorem dX0_arrange_100 : decode cX0_arrange 100 = .ok (.iconst 5, 1) := by decide +kernel
theorem dX0_arrange_101 : decode cX0_arrange 101 = .ok (.iload_n 3, 1) := by decide +kernel
theorem dX0_arrange_102 : decode cX0_arrange 102 = .ok (.iconst 2, 1) := by decide +kernel
theorem dX0_arrange_103 : decode cX0_arrange 103 = .ok (.invokevirtual 55, 3) := by decide +kernel
theorem dX0_arrange_106 : decode cX0_arrange 106 = .ok (.iastore, 1) := by decide +kernel
theorem dX0_arrange_107 : decode cX0_arrange 107 = .ok (.iinc 3 1, 3) := by decide +kernel
theorem dX0_arrange_110 : decode cX0_arrange 110 = .ok (.goto (-56), 3) := by decide +kernel
theorem dX0_arrange_113 : decode cX0_arrange 113 = .ok (.aload_n 0, 1) := by decide +kernel
theorem dX0_arrange_114 : decode cX0_arrange 114 = .ok (.aload_n 0, 1) := by decide +kernel
theorem dX0_arrange_115 : decode cX0_arrange 115 = .ok (.getfield 24, 3) := by decide +kernel
theorem dX0_arrange_118 : decode cX0_arrange 118 = .ok (.bipush 8, 2) := by decide +kernel
theorem dX0_arrange_120 : decode cX0_arrange 120 = .ok (.iconst 5, 1) := by decide +kernel
theorem dX0_arrange_121 : decode cX0_arrange 121 = .ok (.invokevirtual 58, 3) := by decide +kernel
theorem dX0_arrange_124 : decode cX0_arrange 124 = .ok (.return_, 1) := by decide +kernel
theorem dX0_strengthen_0 : decode cX0_strengthen 0 = .ok (.iconst 0, 1) := by decide +kernel
theorem dX0_strengthen_1 : decode cX0_strengthen 1 = .ok (.istore_n 3, 1) := by decide +kernel
theorem dX0_strengthen_2 : decode cX0_strengthen 2 = .ok (.iload_n 3, 1) := by decide +kernel
theorem dX0_strengthen_3 : decode cX0_strengthen 3 = .ok (.bipush 8, 2) := by decide +kernel
theorem dX0_strengthen_5 : decode cX0_strengthen 5 = .ok (.if_icmp .ge 33, 3) := by decide +kernel
theorem dX0_strengthen_8 : decode cX0_strengthen 8 = .ok (.aload_n 0, 1) := by decide +kernel
theorem dX0_strengthen_9 : decode cX0_strengthen 9 = .ok (.getfield 18, 3) := by decide +kernel
theorem dX0_strengthen_12 : decode cX0_strengthen 12 = .ok (.iload_n 3, 1) := by decide +kernel
theorem dX0_strengthen_13 : decode cX0_strengthen 13 = .ok (.iload_n 3, 1) := by decide +kernel
theorem dX0_strengthen_14 : decode cX0_strengthen 14 = .ok (.aload_n 1, 1) := by decide +kernel
theorem dX0_strengthen_15 : decode cX0_strengthen 15 = .ok (.invokevirtual 62, 3) := by decide +kernel
theorem dX0_strengthen_18 : decode cX0_strengthen 18 = .ok (.if_icmp .ge 12, 3) := by decide +kernel
theorem dX0_strengthen_21 : decode cX0_strengthen 21 = .ok (.aload_n 1, 1) := by decide +kernel
theorem dX0_strengthen_22 : decode cX0_strengthen 22 = .ok (.iload_n 3, 1) := by decide +kernel
theorem dX0_strengthen_23 : decode cX0_strengthen 23 = .ok (.iload_n 2, 1) := by decide +kernel
theorem dX0_strengthen_24 : decode cX0_strengthen 24 = .ok (.invokevirtual 66, 3) := by decide +kernel
theorem dX0_strengthen_27 : decode cX0_strengthen 27 = .ok (.goto 4, 3) := by decide +kernel
theorem dX0_strengthen_30 : decode cX0_strengthen 30 = .ok (.iconst 0, 1) := by decide +kernel
theorem dX0_strengthen_31 : decode cX0_strengthen 31 = .ok (.iastore, 1) := by decide +kernel
theorem dX0_strengthen_32 : decode cX0_strengthen 32 = .ok (.iinc 3 1, 3) := by decide +kernel
theorem dX0_strengthen_35 : decode cX0_strengthen 35 = .ok (.goto (-33), 3) := by decide +kernel
theorem dX0_strengthen_38 : decode cX0_strengthen 38 = .ok (.aload_n 0, 1) := by decide +kernel
theorem dX0_strengthen_39 : decode cX0_strengthen 39 = .ok (.aload_n 0, 1) := by decide +kernel
theorem dX0_strengthen_40 : decode cX0_strengthen 40 = .ok (.getfield 21, 3) := by decide +kernel
theorem dX0_strengthen_43 : decode cX0_strengthen 43 = .ok (.iconst 0, 1) := by decide +kernel
theorem dX0_strengthen_44 : decode cX0_strengthen 44 = .ok (.bipush 8, 2) := by decide +kernel
theorem dX0_strengthen_46 : decode cX0_strengthen 46 = .ok (.invokevirtual 58, 3) := by decide +kernel
theorem dX0_strengthen_49 : decode cX0_strengthen 49 = .ok (.return_, 1) := by decide +kernel
theorem dX0_fillSums_0 : decode cX0_fillSums 0 = .ok (.iconst 0, 1) := by decide +kernel
theorem dX0_fillSums_1 : decode cX0_fillSums 1 = .ok (.istore 4, 2) := by decide +kernel
theorem dX0_fillSums_3 : decode cX0_fillSums 3 = .ok (.iload 4, 2) := by decide +kernel
theorem dX0_fillSums_5 : decode cX0_fillSums 5 = .ok (.iload_n 3, 1) := by decide +kernel
theorem dX0_fillSums_6 : decode cX0_fillSums 6 = .ok (.if_icmp .ge 71, 3) := by decide +kernel
theorem dX0_fillSums_9 : decode cX0_fillSums 9 = .ok (.iconst 1, 1) := by decide +kernel
theorem dX0_fillSums_10 : decode cX0_fillSums 10 = .ok (.iload 4, 2) := by decide +kernel
theorem dX0_fillSums_12 : decode cX0_fillSums 12 = .ok (.ishl, 1) := by decide +kernel
theorem dX0_fillSums_13 : decode cX0_fillSums 13 = .ok (.istore 5, 2) := by decide +kernel
theorem dX0_fillSums_15 : decode cX0_fillSums 15 = .ok (.iconst 0, 1) := by decide +kernel
theorem dX0_fillSums_16 : decode cX0_fillSums 16 = .ok (.istore 6, 2) := by decide +kernel
theorem dX0_fillSums_18 : decode cX0_fillSums 18 = .ok (.iload 6, 2) := by decide +kernel
theorem dX0_fillSums_20 : decode cX0_fillSums 20 = .ok (.iload 5, 2) := by decide +kernel
theorem dX0_fillSums_22 : decode cX0_fillSums 22 = .ok (.if_icmp .ge 49, 3) := by decide +kernel
theorem dX0_fillSums_25 : decode cX0_fillSums 25 = .ok (.iload_n 2, 1) := by decide +kernel
theorem dX0_fillSums_26 : decode cX0_fillSums 26 = .ok (.iload 4, 2) := by decide +kernel
theorem dX0_fillSums_28 : decode cX0_fillSums 28 = .ok (.iadd, 1) := by decide +kernel
theorem dX0_fillSums_29 : decode cX0_fillSums 29 = .ok (.bipush 13, 2) := by decide +kernel
theorem dX0_fillSums_31 : decode cX0_fillSums 31 = .ok (.if_icmp .ge 34, 3) := by decide +kernel
theorem dX0_fillSums_34 : decode cX0_fillSums 34 = .ok (.iload 5, 2) := by decide +kernel
theorem dX0_fillSums_36 : decode cX0_fillSums 36 = .ok (.iload 6, 2) := by decide +kernel
theorem dX0_fillSums_38 : decode cX0_fillSums 38 = .ok (.iadd, 1) := by decide +kernel
theorem dX0_fillSums_39 : decode cX0_fillSums 39 = .ok (.aload_n 1, 1) := by decide +kernel
theorem dX0_fillSums_40 : decode cX0_fillSums 40 = .ok (.arraylength, 1) := by decide +kernel
theorem dX0_fillSums_41 : decode cX0_fillSums 41 = .ok (.if_icmp .ge 24, 3) := by decide +kernel
theorem dX0_fillSums_44 : decode cX0_fillSums 44 = .ok (.aload_n 1, 1) := by decide +kernel
theorem dX0_fillSums_45 : decode cX0_fillSums 45 = .ok (.iload 5, 2) := by decide +kernel
theorem dX0_fillSums_47 : decode cX0_fillSums 47 = .ok (.iload 6, 2) := by decide +kernel
theorem dX0_fillSums_49 : decode cX0_fillSums 49 = .ok (.iadd, 1) := by decide +kernel
theorem dX0_fillSums_50 : decode cX0_fillSums 50 = .ok (.aload_n 1, 1) := by decide +kernel
theorem dX0_fillSums_51 : decode cX0_fillSums 51 = .ok (.iload 6, 2) := by decide +kernel
theorem dX0_fillSums_53 : decode cX0_fillSums 53 = .ok (.iaload, 1) := by decide +kernel
theorem dX0_fillSums_54 : decode cX0_fillSums 54 = .ok (.aload_n 0, 1) := by decide +kernel
theorem dX0_fillSums_55 : decode cX0_fillSums 55 = .ok (.getfield 18, 3) := by decide +kernel
theorem dX0_fillSums_58 : decode cX0_fillSums 58 = .ok (.iload_n 2, 1) := by decide +kernel
theorem dX0_fillSums_59 : decode cX0_fillSums 59 = .ok (.iload 4, 2) := by decide +kernel
theorem dX0_fillSums_61 : decode cX0_fillSums 61 = .ok (.iadd, 1) := by decide +kernel
theorem dX0_fillSums_62 : decode cX0_fillSums 62 = .ok (.iaload, 1) := by decide +kernel
theorem dX0_fillSums_63 : decode cX0_fillSums 63 = .ok (.iadd, 1) := by decide +kernel
theorem dX0_fillSums_64 : decode cX0_fillSums 64 = .ok (.iastore, 1) := by decide +kernel
theorem dX0_fillSums_65 : decode cX0_fillSums 65 = .ok (.iinc 6 1, 3) := by decide +kernel
theorem dX0_fillSums_68 : decode cX0_fillSums 68 = .ok (.goto (-50), 3) := by decide +kernel
theorem dX0_fillSums_71 : decode cX0_fillSums 71 = .ok (.iinc 4 1, 3) := by decide +kernel
theorem dX0_fillSums_74 : decode cX0_fillSums 74 = .ok (.goto (-71), 3) := by decide +kernel
theorem dX0_fillSums_77 : decode cX0_fillSums 77 = .ok (.return_, 1) := by decide +kernel
theorem dX0_sumOf_0 : decode cX0_sumOf 0 = .ok (.aload_n 0, 1) := by decide +kernel
theorem dX0_sumOf_1 : decode cX0_sumOf 1 = .ok (.getfield 21, 3) := by decide +kernel
theorem dX0_sumOf_4 : decode cX0_sumOf 4 = .ok (.iload_n 1, 1) := by decide +kernel
theorem dX0_sumOf_5 : decode cX0_sumOf 5 = .ok (.sipush 255, 3) := by decide +kernel
theorem dX0_sumOf_8 : decode cX0_sumOf 8 = .ok (.iand, 1) := by decide +kernel
theorem dX0_sumOf_9 : decode cX0_sumOf 9 = .ok (.iaload, 1) := by decide +kernel
theorem dX0_sumOf_10 : decode cX0_sumOf 10 = .ok (.aload_n 0, 1) := by decide +kernel
theorem dX0_sumOf_11 : decode cX0_sumOf 11 = .ok (.getfield 24, 3) := by decide +kernel
theorem dX0_sumOf_14 : decode cX0_sumOf 14 = .ok (.iload_n 1, 1) := by decide +kernel
theorem dX0_sumOf_15 : decode cX0_sumOf 15 = .ok (.bipush 8, 2) := by decide +kernel
theorem dX0_sumOf_17 : decode cX0_sumOf 17 = .ok (.ishr, 1) := by decide +kernel
theorem dX0_sumOf_18 : decode cX0_sumOf 18 = .ok (.bipush 31, 2) := by decide +kernel
theorem dX0_sumOf_20 : decode cX0_sumOf 20 = .ok (.iand, 1) := by decide +kernel
theorem dX0_sumOf_21 : decode cX0_sumOf 21 = .ok (.iaload, 1) := by decide +kernel
theorem dX0_sumOf_22 : decode cX0_sumOf 22 = .ok (.iadd, 1) := by decide +kernel
theorem dX0_sumOf_23 : decode cX0_sumOf 23 = .ok (.ireturn, 1) := by decide +kernel
theorem dX0_held_0 : decode cX0_held 0 = .ok (.iconst 0, 1) := by decide +kernel
theorem dX0_held_1 : decode cX0_held 1 = .ok (.istore_n 1, 1) := by decide +kernel
theorem dX0_held_2 : decode cX0_held 2 = .ok (.iconst 0, 1) := by decide +kernel
theorem dX0_held_3 : decode cX0_held 3 = .ok (.istore_n 2, 1) := by decide +kernel
theorem dX0_held_4 : decode cX0_held 4 = .ok (.iload_n 2, 1) := by decide +kernel
theorem dX0_held_5 : decode cX0_held 5 = .ok (.bipush 8, 2) := by decide +kernel
theorem dX0_held_7 : decode cX0_held 7 = .ok (.if_icmp .ge 28, 3) := by decide +kernel
theorem dX0_held_10 : decode cX0_held 10 = .ok (.iload_n 1, 1) := by decide +kernel
theorem dX0_held_11 : decode cX0_held 11 = .ok (.aload_n 0, 1) := by decide +kernel
theorem dX0_held_12 : decode cX0_held 12 = .ok (.getfield 18, 3) := by decide +kernel
theorem dX0_held_15 : decode cX0_held 15 = .ok (.iload_n 2, 1) := by decide +kernel
theorem dX0_held_16 : decode cX0_held 16 = .ok (.iaload, 1) := by decide +kernel
theorem dX0_held_17 : decode cX0_held 17 = .ok (.ifCond .le 9, 3) := by decide +kernel
theorem dX0_held_20 : decode cX0_held 20 = .ok (.iconst 1, 1) := by decide +kernel
theorem dX0_held_21 : decode cX0_held 21 = .ok (.iload_n 2, 1) := by decide +kernel
theorem dX0_held_22 : decode cX0_held 22 = .ok (.ishl, 1) := by decide +kernel
theorem dX0_held_23 : decode cX0_held 23 = .ok (.goto 4, 3) := by decide +kernel
theorem dX0_held_26 : decode cX0_held 26 = .ok (.iconst 0, 1) := by decide +kernel
theorem dX0_held_27 : decode cX0_held 27 = .ok (.ior, 1) := by decide +kernel
theorem dX0_held_28 : decode cX0_held 28 = .ok (.istore_n 1, 1) := by decide +kernel
theorem dX0_held_29 : decode cX0_held 29 = .ok (.iinc 2 1, 3) := by decide +kernel
theorem dX0_held_32 : decode cX0_held 32 = .ok (.goto (-28), 3) := by decide +kernel
theorem dX0_held_35 : decode cX0_held 35 = .ok (.iload_n 1, 1) := by decide +kernel
theorem dX0_held_36 : decode cX0_held 36 = .ok (.ireturn, 1) := by decide +kernel
theorem dX0_heldAt_0 : decode cX0_heldAt 0 = .ok (.iconst 0, 1) := by decide +kernel
theorem dX0_heldAt_1 : decode cX0_heldAt 1 = .ok (.istore_n 2, 1) := by decide +kernel
theorem dX0_heldAt_2 : decode cX0_heldAt 2 = .ok (.iconst 0, 1) := by decide +kernel
theorem dX0_heldAt_3 : decode cX0_heldAt 3 = .ok (.istore_n 3, 1) := by decide +kernel
theorem dX0_heldAt_4 : decode cX0_heldAt 4 = .ok (.iload_n 3, 1) := by decide +kernel
theorem dX0_heldAt_5 : decode cX0_heldAt 5 = .ok (.bipush 8, 2) := by decide +kernel
theorem dX0_heldAt_7 : decode cX0_heldAt 7 = .ok (.if_icmp .ge 60, 3) := by decide +kernel
theorem dX0_heldAt_10 : decode cX0_heldAt 10 = .ok (.aload_n 0, 1) := by decide +kernel
theorem dX0_heldAt_11 : decode cX0_heldAt 11 = .ok (.getfield 11, 3) := by decide +kernel
theorem dX0_heldAt_14 : decode cX0_heldAt 14 = .ok (.iload_n 3, 1) := by decide +kernel
theorem dX0_heldAt_15 : decode cX0_heldAt 15 = .ok (.iaload, 1) := by decide +kernel
theorem dX0_heldAt_16 : decode cX0_heldAt 16 = .ok (.iload_n 1, 1) := by decide +kernel
theorem dX0_heldAt_17 : decode cX0_heldAt 17 = .ok (.if_icmp .eq 13, 3) := by decide +kernel
theorem dX0_heldAt_20 : decode cX0_heldAt 20 = .ok (.aload_n 0, 1) := by decide +kernel
theorem dX0_heldAt_21 : decode cX0_heldAt 21 = .ok (.getfield 15, 3) := by decide +kernel
theorem dX0_heldAt_24 : decode cX0_heldAt 24 = .ok (.iload_n 3, 1) := by decide +kernel
theorem dX0_heldAt_25 : decode cX0_heldAt 25 = .ok (.iaload, 1) := by decide +kernel
theorem dX0_heldAt_26 : decode cX0_heldAt 26 = .ok (.iload_n 1, 1) := by decide +kernel
theorem dX0_heldAt_27 : decode cX0_heldAt 27 = .ok (.if_icmp .ne 7, 3) := by decide +kernel
theorem dX0_heldAt_30 : decode cX0_heldAt 30 = .ok (.iconst 1, 1) := by decide +kernel
theorem dX0_heldAt_31 : decode cX0_heldAt 31 = .ok (.goto 4, 3) := by decide +kernel
theorem dX0_heldAt_34 : decode cX0_heldAt 34 = .ok (.iconst 0, 1) := by decide +kernel
theorem dX0_heldAt_35 : decode cX0_heldAt 35 = .ok (.istore 4, 2) := by decide +kernel
theorem dX0_heldAt_37 : decode cX0_heldAt 37 = .ok (.iload_n 2, 1) := by decide +kernel
theorem dX0_heldAt_38 : decode cX0_heldAt 38 = .ok (.iload 4, 2) := by decide +kernel
theorem dX0_heldAt_40 : decode cX0_heldAt 40 = .ok (.ifCond .eq 18, 3) := by decide +kernel
theorem dX0_heldAt_43 : decode cX0_heldAt 43 = .ok (.aload_n 0, 1) := by decide +kernel
theorem dX0_heldAt_44 : decode cX0_heldAt 44 = .ok (.getfield 18, 3) := by decide +kernel
theorem dX0_heldAt_47 : decode cX0_heldAt 47 = .ok (.iload_n 3, 1) := by decide +kernel
theorem dX0_heldAt_48 : decode cX0_heldAt 48 = .ok (.iaload, 1) := by decide +kernel
theorem dX0_heldAt_49 : decode cX0_heldAt 49 = .ok (.ifCond .le 9, 3) := by decide +kernel
theorem dX0_heldAt_52 : decode cX0_heldAt 52 = .ok (.iconst 1, 1) := by decide +kernel
theorem dX0_heldAt_53 : decode cX0_heldAt 53 = .ok (.iload_n 3, 1) := by decide +kernel
theorem dX0_heldAt_54 : decode cX0_heldAt 54 = .ok (.ishl, 1) := by decide +kernel
theorem dX0_heldAt_55 : decode cX0_heldAt 55 = .ok (.goto 4, 3) := by decide +kernel
theorem dX0_heldAt_58 : decode cX0_heldAt 58 = .ok (.iconst 0, 1) := by decide +kernel
theorem dX0_heldAt_59 : decode cX0_heldAt 59 = .ok (.ior, 1) := by decide +kernel
theorem dX0_heldAt_60 : decode cX0_heldAt 60 = .ok (.istore_n 2, 1) := by decide +kernel
theorem dX0_heldAt_61 : decode cX0_heldAt 61 = .ok (.iinc 3 1, 3) := by decide +kernel
theorem dX0_heldAt_64 : decode cX0_heldAt 64 = .ok (.goto (-60), 3) := by decide +kernel
theorem dX0_heldAt_67 : decode cX0_heldAt 67 = .ok (.iload_n 2, 1) := by decide +kernel
theorem dX0_heldAt_68 : decode cX0_heldAt 68 = .ok (.ireturn, 1) := by decide +kernel
theorem dX0_part_0 : decode cX0_part 0 = .ok (.aload_n 0, 1) := by decide +kernel
theorem dX0_part_1 : decode cX0_part 1 = .ok (.iconst 0, 1) := by decide +kernel
theorem dX0_part_2 : decode cX0_part 2 = .ok (.putfield 68, 3) := by decide +kernel
theorem dX0_part_5 : decode cX0_part 5 = .ok (.iconst 0, 1) := by decide +kernel
theorem dX0_part_6 : decode cX0_part 6 = .ok (.istore_n 3, 1) := by decide +kernel
theorem dX0_part_7 : decode cX0_part 7 = .ok (.iload_n 3, 1) := by decide +kernel
theorem dX0_part_8 : decode cX0_part 8 = .ok (.iconst 1, 1) := by decide +kernel
theorem dX0_part_9 : decode cX0_part 9 = .ok (.aload_n 0, 1) := by decide +kernel
theorem dX0_part_10 : decode cX0_part 10 = .ok (.getfield 46, 3) := by decide +kernel
theorem dX0_part_13 : decode cX0_part 13 = .ok (.ishl, 1) := by decide +kernel
theorem dX0_part_14 : decode cX0_part 14 = .ok (.if_icmp .ge 58, 3) := by decide +kernel
theorem dX0_part_17 : decode cX0_part 17 = .ok (.iload_n 3, 1) := by decide +kernel
theorem dX0_part_18 : decode cX0_part 18 = .ok (.iload_n 1, 1) := by decide +kernel
theorem dX0_part_19 : decode cX0_part 19 = .ok (.invokestatic 71, 3) := by decide +kernel
theorem dX0_part_22 : decode cX0_part 22 = .ok (.ifCond .eq 44, 3) := by decide +kernel
theorem dX0_part_25 : decode cX0_part 25 = .ok (.iload_n 3, 1) := by decide +kernel
theorem dX0_part_26 : decode cX0_part 26 = .ok (.iload_n 2, 1) := by decide +kernel
theorem dX0_part_27 : decode cX0_part 27 = .ok (.invokestatic 71, 3) := by decide +kernel
theorem dX0_part_30 : decode cX0_part 30 = .ok (.ifCond .ne 36, 3) := by decide +kernel
theorem dX0_part_33 : decode cX0_part 33 = .ok (.aload_n 0, 1) := by decide +kernel
theorem dX0_part_34 : decode cX0_part 34 = .ok (.getfield 68, 3) := by decide +kernel
theorem dX0_part_37 : decode cX0_part 37 = .ok (.bipush 32, 2) := by decide +kernel
theorem dX0_part_39 : decode cX0_part 39 = .ok (.if_icmp .ge 27, 3) := by decide +kernel
theorem dX0_part_42 : decode cX0_part 42 = .ok (.aload_n 0, 1) := by decide +kernel
theorem dX0_part_43 : decode cX0_part 43 = .ok (.getfield 27, 3) := by decide +kernel
theorem dX0_part_46 : decode cX0_part 46 = .ok (.aload_n 0, 1) := by decide +kernel
theorem dX0_part_47 : decode cX0_part 47 = .ok (.getfield 68, 3) := by decide +kernel
theorem dX0_part_50 : decode cX0_part 50 = .ok (.aload_n 0, 1) := by decide +kernel
theorem dX0_part_51 : decode cX0_part 51 = .ok (.iload_n 3, 1) := by decide +kernel
theorem dX0_part_52 : decode cX0_part 52 = .ok (.invokevirtual 75, 3) := by decide +kernel
theorem dX0_part_55 : decode cX0_part 55 = .ok (.iastore, 1) := by decide +kernel
theorem dX0_part_56 : decode cX0_part 56 = .ok (.aload_n 0, 1) := by decide +kernel
theorem dX0_part_57 : decode cX0_part 57 = .ok (.dup, 1) := by decide +kernel
theorem dX0_part_58 : decode cX0_part 58 = .ok (.getfield 68, 3) := by decide +kernel
theorem dX0_part_61 : decode cX0_part 61 = .ok (.iconst 1, 1) := by decide +kernel
theorem dX0_part_62 : decode cX0_part 62 = .ok (.iadd, 1) := by decide +kernel
theorem dX0_part_63 : decode cX0_part 63 = .ok (.putfield 68, 3) := by decide +kernel
theorem dX0_part_66 : decode cX0_part 66 = .ok (.iinc 3 1, 3) := by decide +kernel
theorem dX0_part_69 : decode cX0_part 69 = .ok (.goto (-62), 3) := by decide +kernel
theorem dX0_part_72 : decode cX0_part 72 = .ok (.return_, 1) := by decide +kernel
theorem dX0_across_0 : decode cX0_across 0 = .ok (.iconst 0, 1) := by decide +kernel
theorem dX0_across_1 : decode cX0_across 1 = .ok (.istore_n 2, 1) := by decide +kernel
theorem dX0_across_2 : decode cX0_across 2 = .ok (.iconst 0, 1) := by decide +kernel
theorem dX0_across_3 : decode cX0_across 3 = .ok (.istore_n 3, 1) := by decide +kernel
theorem dX0_across_4 : decode cX0_across 4 = .ok (.iload_n 3, 1) := by decide +kernel
theorem dX0_across_5 : decode cX0_across 5 = .ok (.bipush 13, 2) := by decide +kernel
theorem dX0_across_7 : decode cX0_across 7 = .ok (.if_icmp .ge 42, 3) := by decide +kernel
theorem dX0_across_10 : decode cX0_across 10 = .ok (.iload_n 2, 1) := by decide +kernel
theorem dX0_across_11 : decode cX0_across 11 = .ok (.iload_n 1, 1) := by decide +kernel
theorem dX0_across_12 : decode cX0_across 12 = .ok (.aload_n 0, 1) := by decide +kernel
theorem dX0_across_13 : decode cX0_across 13 = .ok (.getfield 11, 3) := by decide +kernel
theorem dX0_across_16 : decode cX0_across 16 = .ok (.iload_n 3, 1) := by decide +kernel
theorem dX0_across_17 : decode cX0_across 17 = .ok (.iaload, 1) := by decide +kernel
theorem dX0_across_18 : decode cX0_across 18 = .ok (.invokestatic 71, 3) := by decide +kernel
theorem dX0_across_21 : decode cX0_across 21 = .ok (.iload_n 1, 1) := by decide +kernel
theorem dX0_across_22 : decode cX0_across 22 = .ok (.aload_n 0, 1) := by decide +kernel
theorem dX0_across_23 : decode cX0_across 23 = .ok (.getfield 15, 3) := by decide +kernel
theorem dX0_across_26 : decode cX0_across 26 = .ok (.iload_n 3, 1) := by decide +kernel
theorem dX0_across_27 : decode cX0_across 27 = .ok (.iaload, 1) := by decide +kernel
theorem dX0_across_28 : decode cX0_across 28 = .ok (.invokestatic 71, 3) := by decide +kernel
theorem dX0_across_31 : decode cX0_across 31 = .ok (.if_icmp .eq 9, 3) := by decide +kernel
theorem dX0_across_34 : decode cX0_across 34 = .ok (.iconst 1, 1) := by decide +kernel
theorem dX0_across_35 : decode cX0_across 35 = .ok (.iload_n 3, 1) := by decide +kernel
theorem dX0_across_36 : decode cX0_across 36 = .ok (.ishl, 1) := by decide +kernel
theorem dX0_across_37 : decode cX0_across 37 = .ok (.goto 4, 3) := by decide +kernel
theorem dX0_across_40 : decode cX0_across 40 = .ok (.iconst 0, 1) := by decide +kernel
theorem dX0_across_41 : decode cX0_across 41 = .ok (.ior, 1) := by decide +kernel
theorem dX0_across_42 : decode cX0_across 42 = .ok (.istore_n 2, 1) := by decide +kernel
theorem dX0_across_43 : decode cX0_across 43 = .ok (.iinc 3 1, 3) := by decide +kernel
theorem dX0_across_46 : decode cX0_across 46 = .ok (.goto (-42), 3) := by decide +kernel
theorem dX0_across_49 : decode cX0_across 49 = .ok (.iload_n 2, 1) := by decide +kernel
theorem dX0_across_50 : decode cX0_across 50 = .ok (.ireturn, 1) := by decide +kernel
theorem dX0_borneBy_0 : decode cX0_borneBy 0 = .ok (.iconst (-1), 1) := by decide +kernel
theorem dX0_borneBy_1 : decode cX0_borneBy 1 = .ok (.istore_n 2, 1) := by decide +kernel
theorem dX0_borneBy_2 : decode cX0_borneBy 2 = .ok (.iconst 0, 1) := by decide +kernel
theorem dX0_borneBy_3 : decode cX0_borneBy 3 = .ok (.istore_n 3, 1) := by decide +kernel
theorem dX0_borneBy_4 : decode cX0_borneBy 4 = .ok (.iload_n 3, 1) := by decide +kernel
theorem dX0_borneBy_5 : decode cX0_borneBy 5 = .ok (.aload_n 0, 1) := by decide +kernel
theorem dX0_borneBy_6 : decode cX0_borneBy 6 = .ok (.getfield 68, 3) := by decide +kernel
theorem dX0_borneBy_9 : decode cX0_borneBy 9 = .ok (.if_icmp .ge 41, 3) := by decide +kernel
theorem dX0_borneBy_12 : decode cX0_borneBy 12 = .ok (.aload_n 0, 1) := by decide +kernel
theorem dX0_borneBy_13 : decode cX0_borneBy 13 = .ok (.aload_n 0, 1) := by decide +kernel
theorem dX0_borneBy_14 : decode cX0_borneBy 14 = .ok (.getfield 27, 3) := by decide +kernel
theorem dX0_borneBy_17 : decode cX0_borneBy 17 = .ok (.iload_n 3, 1) := by decide +kernel
theorem dX0_borneBy_18 : decode cX0_borneBy 18 = .ok (.iaload, 1) := by decide +kernel
theorem dX0_borneBy_19 : decode cX0_borneBy 19 = .ok (.iload_n 1, 1) := by decide +kernel
theorem dX0_borneBy_20 : decode cX0_borneBy 20 = .ok (.iand, 1) := by decide +kernel
theorem dX0_borneBy_21 : decode cX0_borneBy 21 = .ok (.invokevirtual 78, 3) := by decide +kernel
theorem dX0_borneBy_24 : decode cX0_borneBy 24 = .ok (.istore 4, 2) := by decide +kernel
theorem dX0_borneBy_26 : decode cX0_borneBy 26 = .ok (.iload_n 2, 1) := by decide +kernel
theorem dX0_borneBy_27 : decode cX0_borneBy 27 = .ok (.iconst (-1), 1) := by decide +kernel
theorem dX0_borneBy_28 : decode cX0_borneBy 28 = .ok (.if_icmp .eq 9, 3) := by decide +kernel
theorem dX0_borneBy_31 : decode cX0_borneBy 31 = .ok (.iload 4, 2) := by decide +kernel
theorem dX0_borneBy_33 : decode cX0_borneBy 33 = .ok (.iload_n 2, 1) := by decide +kernel
theorem dX0_borneBy_34 : decode cX0_borneBy 34 = .ok (.if_icmp .ge 8, 3) := by decide +kernel
theorem dX0_borneBy_37 : decode cX0_borneBy 37 = .ok (.iload 4, 2) := by decide +kernel
theorem dX0_borneBy_39 : decode cX0_borneBy 39 = .ok (.goto 4, 3) := by decide +kernel
theorem dX0_borneBy_42 : decode cX0_borneBy 42 = .ok (.iload_n 2, 1) := by decide +kernel
theorem dX0_borneBy_43 : decode cX0_borneBy 43 = .ok (.istore_n 2, 1) := by decide +kernel
theorem dX0_borneBy_44 : decode cX0_borneBy 44 = .ok (.iinc 3 1, 3) := by decide +kernel
theorem dX0_borneBy_47 : decode cX0_borneBy 47 = .ok (.goto (-43), 3) := by decide +kernel
theorem dX0_borneBy_50 : decode cX0_borneBy 50 = .ok (.iload_n 2, 1) := by decide +kernel
theorem dX0_borneBy_51 : decode cX0_borneBy 51 = .ok (.iconst 0, 1) := by decide +kernel
theorem dX0_borneBy_52 : decode cX0_borneBy 52 = .ok (.invokestatic 81, 3) := by decide +kernel
theorem dX0_borneBy_55 : decode cX0_borneBy 55 = .ok (.ireturn, 1) := by decide +kernel
theorem dX0_between_0 : decode cX0_between 0 = .ok (.aload_n 0, 1) := by decide +kernel
theorem dX0_between_1 : decode cX0_between 1 = .ok (.iload_n 1, 1) := by decide +kernel
theorem dX0_between_2 : decode cX0_between 2 = .ok (.iload_n 2, 1) := by decide +kernel
theorem dX0_between_3 : decode cX0_between 3 = .ok (.invokevirtual 84, 3) := by decide +kernel
theorem dX0_between_6 : decode cX0_between 6 = .ok (.aload_n 0, 1) := by decide +kernel
theorem dX0_between_7 : decode cX0_between 7 = .ok (.aload_n 0, 1) := by decide +kernel
theorem dX0_between_8 : decode cX0_between 8 = .ok (.invokevirtual 88, 3) := by decide +kernel
theorem dX0_between_11 : decode cX0_between 11 = .ok (.invokevirtual 91, 3) := by decide +kernel
theorem dX0_between_14 : decode cX0_between 14 = .ok (.ireturn, 1) := by decide +kernel
theorem dX0_fewestCut_0 : decode cX0_fewestCut 0 = .ok (.aload_n 0, 1) := by decide +kernel
theorem dX0_fewestCut_1 : decode cX0_fewestCut 1 = .ok (.invokevirtual 88, 3) := by decide +kernel
theorem dX0_fewestCut_4 : decode cX0_fewestCut 4 = .ok (.istore_n 1, 1) := by decide +kernel
theorem dX0_fewestCut_5 : decode cX0_fewestCut 5 = .ok (.aload_n 0, 1) := by decide +kernel
theorem dX0_fewestCut_6 : decode cX0_fewestCut 6 = .ok (.iload_n 1, 1) := by decide +kernel
theorem dX0_fewestCut_7 : decode cX0_fewestCut 7 = .ok (.invokevirtual 91, 3) := by decide +kernel
theorem dX0_fewestCut_10 : decode cX0_fewestCut 10 = .ok (.istore_n 2, 1) := by decide +kernel
theorem dX0_fewestCut_11 : decode cX0_fewestCut 11 = .ok (.iload_n 1, 1) := by decide +kernel
theorem dX0_fewestCut_12 : decode cX0_fewestCut 12 = .ok (.istore_n 3, 1) := by decide +kernel
theorem dX0_fewestCut_13 : decode cX0_fewestCut 13 = .ok (.iconst 0, 1) := by decide +kernel
theorem dX0_fewestCut_14 : decode cX0_fewestCut 14 = .ok (.istore 4, 2) := by decide +kernel
theorem dX0_fewestCut_16 : decode cX0_fewestCut 16 = .ok (.iload 4, 2) := by decide +kernel
theorem dX0_fewestCut_18 : decode cX0_fewestCut 18 = .ok (.aload_n 0, 1) := by decide +kernel
theorem dX0_fewestCut_19 : decode cX0_fewestCut 19 = .ok (.getfield 68, 3) := by decide +kernel
theorem dX0_fewestCut_22 : decode cX0_fewestCut 22 = .ok (.if_icmp .ge 42, 3) := by decide +kernel
theorem dX0_fewestCut_25 : decode cX0_fewestCut 25 = .ok (.aload_n 0, 1) := by decide +kernel
theorem dX0_fewestCut_26 : decode cX0_fewestCut 26 = .ok (.getfield 27, 3) := by decide +kernel
theorem dX0_fewestCut_29 : decode cX0_fewestCut 29 = .ok (.iload 4, 2) := by decide +kernel
theorem dX0_fewestCut_31 : decode cX0_fewestCut 31 = .ok (.iaload, 1) := by decide +kernel
theorem dX0_fewestCut_32 : decode cX0_fewestCut 32 = .ok (.iload_n 1, 1) := by decide +kernel
theorem dX0_fewestCut_33 : decode cX0_fewestCut 33 = .ok (.iand, 1) := by decide +kernel
theorem dX0_fewestCut_34 : decode cX0_fewestCut 34 = .ok (.istore 5, 2) := by decide +kernel
theorem dX0_fewestCut_36 : decode cX0_fewestCut 36 = .ok (.aload_n 0, 1) := by decide +kernel
theorem dX0_fewestCut_37 : decode cX0_fewestCut 37 = .ok (.iload 5, 2) := by decide +kernel
theorem dX0_fewestCut_39 : decode cX0_fewestCut 39 = .ok (.invokevirtual 78, 3) := by decide +kernel
theorem dX0_fewestCut_42 : decode cX0_fewestCut 42 = .ok (.iload_n 2, 1) := by decide +kernel
theorem dX0_fewestCut_43 : decode cX0_fewestCut 43 = .ok (.if_icmp .ne 15, 3) := by decide +kernel
theorem dX0_fewestCut_46 : decode cX0_fewestCut 46 = .ok (.iload 5, 2) := by decide +kernel
theorem dX0_fewestCut_48 : decode cX0_fewestCut 48 = .ok (.iload_n 3, 1) := by decide +kernel
theorem dX0_fewestCut_49 : decode cX0_fewestCut 49 = .ok (.invokestatic 94, 3) := by decide +kernel
theorem dX0_fewestCut_52 : decode cX0_fewestCut 52 = .ok (.ifCond .eq 6, 3) := by decide +kernel
theorem dX0_fewestCut_55 : decode cX0_fewestCut 55 = .ok (.iload 5, 2) := by decide +kernel
theorem dX0_fewestCut_57 : decode cX0_fewestCut 57 = .ok (.istore_n 3, 1) := by decide +kernel
theorem dX0_fewestCut_58 : decode cX0_fewestCut 58 = .ok (.iinc 4 1, 3) := by decide +kernel
theorem dX0_fewestCut_61 : decode cX0_fewestCut 61 = .ok (.goto (-45), 3) := by decide +kernel
theorem dX0_fewestCut_64 : decode cX0_fewestCut 64 = .ok (.iload_n 3, 1) := by decide +kernel
theorem dX0_fewestCut_65 : decode cX0_fewestCut 65 = .ok (.ireturn, 1) := by decide +kernel
theorem dX0_isLess_0 : decode cX0_isLess 0 = .ok (.iload_n 0, 1) := by decide +kernel
theorem dX0_isLess_1 : decode cX0_isLess 1 = .ok (.invokestatic 97, 3) := by decide +kernel
theorem dX0_isLess_4 : decode cX0_isLess 4 = .ok (.iload_n 1, 1) := by decide +kernel
theorem dX0_isLess_5 : decode cX0_isLess 5 = .ok (.invokestatic 97, 3) := by decide +kernel
theorem dX0_isLess_8 : decode cX0_isLess 8 = .ok (.isub, 1) := by decide +kernel
theorem dX0_isLess_9 : decode cX0_isLess 9 = .ok (.istore_n 2, 1) := by decide +kernel
theorem dX0_isLess_10 : decode cX0_isLess 10 = .ok (.iload_n 2, 1) := by decide +kernel
theorem dX0_isLess_11 : decode cX0_isLess 11 = .ok (.ifCond .lt 12, 3) := by decide +kernel
theorem dX0_isLess_14 : decode cX0_isLess 14 = .ok (.iload_n 2, 1) := by decide +kernel
theorem dX0_isLess_15 : decode cX0_isLess 15 = .ok (.ifCond .ne 12, 3) := by decide +kernel
theorem dX0_isLess_18 : decode cX0_isLess 18 = .ok (.iload_n 0, 1) := by decide +kernel
theorem dX0_isLess_19 : decode cX0_isLess 19 = .ok (.iload_n 1, 1) := by decide +kernel
theorem dX0_isLess_20 : decode cX0_isLess 20 = .ok (.if_icmp .ge 7, 3) := by decide +kernel
theorem dX0_isLess_23 : decode cX0_isLess 23 = .ok (.iconst 1, 1) := by decide +kernel
theorem dX0_isLess_24 : decode cX0_isLess 24 = .ok (.goto 4, 3) := by decide +kernel
theorem dX0_isLess_27 : decode cX0_isLess 27 = .ok (.iconst 0, 1) := by decide +kernel
theorem dX0_isLess_28 : decode cX0_isLess 28 = .ok (.ireturn, 1) := by decide +kernel
theorem dX0_reachedFrom_0 : decode cX0_reachedFrom 0 = .ok (.iload_n 1, 1) := by decide +kernel
theorem dX0_reachedFrom_1 : decode cX0_reachedFrom 1 = .ok (.istore_n 3, 1) := by decide +kernel
theorem dX0_reachedFrom_2 : decode cX0_reachedFrom 2 = .ok (.iconst 0, 1) := by decide +kernel
theorem dX0_reachedFrom_3 : decode cX0_reachedFrom 3 = .ok (.istore 4, 2) := by decide +kernel
theorem dX0_reachedFrom_5 : decode cX0_reachedFrom 5 = .ok (.iload 4, 2) := by decide +kernel
theorem dX0_reachedFrom_7 : decode cX0_reachedFrom 7 = .ok (.bipush 8, 2) := by decide +kernel
theorem dX0_reachedFrom_9 : decode cX0_reachedFrom 9 = .ok (.if_icmp .ge 68, 3) := by decide +kernel
theorem dX0_reachedFrom_12 : decode cX0_reachedFrom 12 = .ok (.iload_n 2, 1) := by decide +kernel
theorem dX0_reachedFrom_13 : decode cX0_reachedFrom 13 = .ok (.iload 4, 2) := by decide +kernel
theorem dX0_reachedFrom_15 : decode cX0_reachedFrom 15 = .ok (.invokestatic 71, 3) := by decide +kernel
theorem dX0_reachedFrom_18 : decode cX0_reachedFrom 18 = .ok (.ifCond .eq 53, 3) := by decide +kernel
theorem dX0_reachedFrom_21 : decode cX0_reachedFrom 21 = .ok (.iload_n 1, 1) := by decide +kernel
theorem dX0_reachedFrom_22 : decode cX0_reachedFrom 22 = .ok (.aload_n 0, 1) := by decide +kernel
theorem dX0_reachedFrom_23 : decode cX0_reachedFrom 23 = .ok (.getfield 11, 3) := by decide +kernel
theorem dX0_reachedFrom_26 : decode cX0_reachedFrom 26 = .ok (.iload 4, 2) := by decide +kernel
theorem dX0_reachedFrom_28 : decode cX0_reachedFrom 28 = .ok (.iaload, 1) := by decide +kernel
theorem dX0_reachedFrom_29 : decode cX0_reachedFrom 29 = .ok (.invokestatic 71, 3) := by decide +kernel
theorem dX0_reachedFrom_32 : decode cX0_reachedFrom 32 = .ok (.ifCond .ne 17, 3) := by decide +kernel
theorem dX0_reachedFrom_35 : decode cX0_reachedFrom 35 = .ok (.iload_n 1, 1) := by decide +kernel
theorem dX0_reachedFrom_36 : decode cX0_reachedFrom 36 = .ok (.aload_n 0, 1) := by decide +kernel
theorem dX0_reachedFrom_37 : decode cX0_reachedFrom 37 = .ok (.getfield 15, 3) := by decide +kernel
theorem dX0_reachedFrom_40 : decode cX0_reachedFrom 40 = .ok (.iload 4, 2) := by decide +kernel
theorem dX0_reachedFrom_42 : decode cX0_reachedFrom 42 = .ok (.iaload, 1) := by decide +kernel
theorem dX0_reachedFrom_43 : decode cX0_reachedFrom 43 = .ok (.invokestatic 71, 3) := by decide +kernel
theorem dX0_reachedFrom_46 : decode cX0_reachedFrom 46 = .ok (.ifCond .eq 25, 3) := by decide +kernel
theorem dX0_reachedFrom_49 : decode cX0_reachedFrom 49 = .ok (.iload_n 3, 1) := by decide +kernel
theorem dX0_reachedFrom_50 : decode cX0_reachedFrom 50 = .ok (.iconst 1, 1) := by decide +kernel
theorem dX0_reachedFrom_51 : decode cX0_reachedFrom 51 = .ok (.aload_n 0, 1) := by decide +kernel
theorem dX0_reachedFrom_52 : decode cX0_reachedFrom 52 = .ok (.getfield 11, 3) := by decide +kernel
theorem dX0_reachedFrom_55 : decode cX0_reachedFrom 55 = .ok (.iload 4, 2) := by decide +kernel
theorem dX0_reachedFrom_57 : decode cX0_reachedFrom 57 = .ok (.iaload, 1) := by decide +kernel
theorem dX0_reachedFrom_58 : decode cX0_reachedFrom 58 = .ok (.ishl, 1) := by decide +kernel
theorem dX0_reachedFrom_59 : decode cX0_reachedFrom 59 = .ok (.iconst 1, 1) := by decide +kernel
theorem dX0_reachedFrom_60 : decode cX0_reachedFrom 60 = .ok (.aload_n 0, 1) := by decide +kernel
theorem dX0_reachedFrom_61 : decode cX0_reachedFrom 61 = .ok (.getfield 15, 3) := by decide +kernel
theorem dX0_reachedFrom_64 : decode cX0_reachedFrom 64 = .ok (.iload 4, 2) := by decide +kernel
theorem dX0_reachedFrom_66 : decode cX0_reachedFrom 66 = .ok (.iaload, 1) := by decide +kernel
theorem dX0_reachedFrom_67 : decode cX0_reachedFrom 67 = .ok (.ishl, 1) := by decide +kernel
theorem dX0_reachedFrom_68 : decode cX0_reachedFrom 68 = .ok (.ior, 1) := by decide +kernel
theorem dX0_reachedFrom_69 : decode cX0_reachedFrom 69 = .ok (.ior, 1) := by decide +kernel
theorem dX0_reachedFrom_70 : decode cX0_reachedFrom 70 = .ok (.istore_n 3, 1) := by decide +kernel
theorem dX0_reachedFrom_71 : decode cX0_reachedFrom 71 = .ok (.iinc 4 1, 3) := by decide +kernel
theorem dX0_reachedFrom_74 : decode cX0_reachedFrom 74 = .ok (.goto (-69), 3) := by decide +kernel
theorem dX0_reachedFrom_77 : decode cX0_reachedFrom 77 = .ok (.iload_n 3, 1) := by decide +kernel
theorem dX0_reachedFrom_78 : decode cX0_reachedFrom 78 = .ok (.ireturn, 1) := by decide +kernel
theorem dX0_steps_0 : decode cX0_steps 0 = .ok (.aload_n 0, 1) := by decide +kernel
theorem dX0_steps_1 : decode cX0_steps 1 = .ok (.invokevirtual 88, 3) := by decide +kernel
theorem dX0_steps_4 : decode cX0_steps 4 = .ok (.istore_n 3, 1) := by decide +kernel
theorem dX0_steps_5 : decode cX0_steps 5 = .ok (.iconst 1, 1) := by decide +kernel
theorem dX0_steps_6 : decode cX0_steps 6 = .ok (.iload_n 1, 1) := by decide +kernel
theorem dX0_steps_7 : decode cX0_steps 7 = .ok (.ishl, 1) := by decide +kernel
theorem dX0_steps_8 : decode cX0_steps 8 = .ok (.istore 4, 2) := by decide +kernel
theorem dX0_steps_10 : decode cX0_steps 10 = .ok (.iconst 0, 1) := by decide +kernel
theorem dX0_steps_11 : decode cX0_steps 11 = .ok (.istore 5, 2) := by decide +kernel
theorem dX0_steps_13 : decode cX0_steps 13 = .ok (.iload 5, 2) := by decide +kernel
theorem dX0_steps_15 : decode cX0_steps 15 = .ok (.aload_n 0, 1) := by decide +kernel
theorem dX0_steps_16 : decode cX0_steps 16 = .ok (.getfield 46, 3) := by decide +kernel
theorem dX0_steps_19 : decode cX0_steps 19 = .ok (.if_icmp .ge 30, 3) := by decide +kernel
theorem dX0_steps_22 : decode cX0_steps 22 = .ok (.iload 4, 2) := by decide +kernel
theorem dX0_steps_24 : decode cX0_steps 24 = .ok (.iload_n 2, 1) := by decide +kernel
theorem dX0_steps_25 : decode cX0_steps 25 = .ok (.invokestatic 71, 3) := by decide +kernel
theorem dX0_steps_28 : decode cX0_steps 28 = .ok (.ifCond .eq 6, 3) := by decide +kernel
theorem dX0_steps_31 : decode cX0_steps 31 = .ok (.iload 5, 2) := by decide +kernel
theorem dX0_steps_33 : decode cX0_steps 33 = .ok (.ireturn, 1) := by decide +kernel
theorem dX0_steps_34 : decode cX0_steps 34 = .ok (.aload_n 0, 1) := by decide +kernel
theorem dX0_steps_35 : decode cX0_steps 35 = .ok (.iload 4, 2) := by decide +kernel
theorem dX0_steps_37 : decode cX0_steps 37 = .ok (.iload_n 3, 1) := by decide +kernel
theorem dX0_steps_38 : decode cX0_steps 38 = .ok (.invokevirtual 102, 3) := by decide +kernel
theorem dX0_steps_41 : decode cX0_steps 41 = .ok (.istore 4, 2) := by decide +kernel
theorem dX0_steps_43 : decode cX0_steps 43 = .ok (.iinc 5 1, 3) := by decide +kernel
theorem dX0_steps_46 : decode cX0_steps 46 = .ok (.goto (-33), 3) := by decide +kernel
theorem dX0_steps_49 : decode cX0_steps 49 = .ok (.bipush (-2), 2) := by decide +kernel
theorem dX0_steps_51 : decode cX0_steps 51 = .ok (.ireturn, 1) := by decide +kernel
theorem dX0_pieces_0 : decode cX0_pieces 0 = .ok (.iconst 0, 1) := by decide +kernel
theorem dX0_pieces_1 : decode cX0_pieces 1 = .ok (.istore_n 2, 1) := by decide +kernel
theorem dX0_pieces_2 : decode cX0_pieces 2 = .ok (.iconst 0, 1) := by decide +kernel
theorem dX0_pieces_3 : decode cX0_pieces 3 = .ok (.istore_n 3, 1) := by decide +kernel
theorem dX0_pieces_4 : decode cX0_pieces 4 = .ok (.iconst 0, 1) := by decide +kernel
theorem dX0_pieces_5 : decode cX0_pieces 5 = .ok (.istore 4, 2) := by decide +kernel
theorem dX0_pieces_7 : decode cX0_pieces 7 = .ok (.iload 4, 2) := by decide +kernel
theorem dX0_pieces_9 : decode cX0_pieces 9 = .ok (.aload_n 0, 1) := by decide +kernel
theorem dX0_pieces_10 : decode cX0_pieces 10 = .ok (.getfield 46, 3) := by decide +kernel
theorem dX0_pieces_13 : decode cX0_pieces 13 = .ok (.if_icmp .ge 31, 3) := by decide +kernel
theorem dX0_pieces_16 : decode cX0_pieces 16 = .ok (.iload_n 2, 1) := by decide +kernel
theorem dX0_pieces_17 : decode cX0_pieces 17 = .ok (.iload 4, 2) := by decide +kernel
theorem dX0_pieces_19 : decode cX0_pieces 19 = .ok (.invokestatic 71, 3) := by decide +kernel
theorem dX0_pieces_22 : decode cX0_pieces 22 = .ok (.ifCond .ne 16, 3) := by decide +kernel
theorem dX0_pieces_25 : decode cX0_pieces 25 = .ok (.iinc 3 1, 3) := by decide +kernel
theorem dX0_pieces_28 : decode cX0_pieces 28 = .ok (.iload_n 2, 1) := by decide +kernel
theorem dX0_pieces_29 : decode cX0_pieces 29 = .ok (.aload_n 0, 1) := by decide +kernel
theorem dX0_pieces_30 : decode cX0_pieces 30 = .ok (.iload 4, 2) := by decide +kernel
theorem dX0_pieces_32 : decode cX0_pieces 32 = .ok (.iload_n 1, 1) := by decide +kernel
theorem dX0_pieces_33 : decode cX0_pieces 33 = .ok (.invokevirtual 105, 3) := by decide +kernel
theorem dX0_pieces_36 : decode cX0_pieces 36 = .ok (.ior, 1) := by decide +kernel
theorem dX0_pieces_37 : decode cX0_pieces 37 = .ok (.istore_n 2, 1) := by decide +kernel
theorem dX0_pieces_38 : decode cX0_pieces 38 = .ok (.iinc 4 1, 3) := by decide +kernel
theorem dX0_pieces_41 : decode cX0_pieces 41 = .ok (.goto (-34), 3) := by decide +kernel
theorem dX0_pieces_44 : decode cX0_pieces 44 = .ok (.iload_n 3, 1) := by decide +kernel
theorem dX0_pieces_45 : decode cX0_pieces 45 = .ok (.ireturn, 1) := by decide +kernel
theorem dX0_pieceOf_0 : decode cX0_pieceOf 0 = .ok (.iconst 1, 1) := by decide +kernel
theorem dX0_pieceOf_1 : decode cX0_pieceOf 1 = .ok (.iload_n 1, 1) := by decide +kernel
theorem dX0_pieceOf_2 : decode cX0_pieceOf 2 = .ok (.ishl, 1) := by decide +kernel
theorem dX0_pieceOf_3 : decode cX0_pieceOf 3 = .ok (.istore_n 3, 1) := by decide +kernel
theorem dX0_pieceOf_4 : decode cX0_pieceOf 4 = .ok (.iconst 1, 1) := by decide +kernel
theorem dX0_pieceOf_5 : decode cX0_pieceOf 5 = .ok (.istore 4, 2) := by decide +kernel
theorem dX0_pieceOf_7 : decode cX0_pieceOf 7 = .ok (.iload 4, 2) := by decide +kernel
theorem dX0_pieceOf_9 : decode cX0_pieceOf 9 = .ok (.aload_n 0, 1) := by decide +kernel
theorem dX0_pieceOf_10 : decode cX0_pieceOf 10 = .ok (.getfield 46, 3) := by decide +kernel
theorem dX0_pieceOf_13 : decode cX0_pieceOf 13 = .ok (.if_icmp .ge 16, 3) := by decide +kernel
theorem dX0_pieceOf_16 : decode cX0_pieceOf 16 = .ok (.aload_n 0, 1) := by decide +kernel
theorem dX0_pieceOf_17 : decode cX0_pieceOf 17 = .ok (.iload_n 3, 1) := by decide +kernel
theorem dX0_pieceOf_18 : decode cX0_pieceOf 18 = .ok (.iload_n 2, 1) := by decide +kernel
theorem dX0_pieceOf_19 : decode cX0_pieceOf 19 = .ok (.invokevirtual 102, 3) := by decide +kernel
theorem dX0_pieceOf_22 : decode cX0_pieceOf 22 = .ok (.istore_n 3, 1) := by decide +kernel
theorem dX0_pieceOf_23 : decode cX0_pieceOf 23 = .ok (.iinc 4 1, 3) := by decide +kernel
theorem dX0_pieceOf_26 : decode cX0_pieceOf 26 = .ok (.goto (-19), 3) := by decide +kernel
theorem dX0_pieceOf_29 : decode cX0_pieceOf 29 = .ok (.iload_n 3, 1) := by decide +kernel
theorem dX0_pieceOf_30 : decode cX0_pieceOf 30 = .ok (.ireturn, 1) := by decide +kernel
theorem dX0_playTurns_0 : decode cX0_playTurns 0 = .ok (.aload_n 0, 1) := by decide +kernel
theorem dX0_playTurns_1 : decode cX0_playTurns 1 = .ok (.iload_n 1, 1) := by decide +kernel
theorem dX0_playTurns_2 : decode cX0_playTurns 2 = .ok (.iload_n 2, 1) := by decide +kernel
theorem dX0_playTurns_3 : decode cX0_playTurns 3 = .ok (.invokevirtual 84, 3) := by decide +kernel
theorem dX0_playTurns_6 : decode cX0_playTurns 6 = .ok (.aload_n 0, 1) := by decide +kernel
theorem dX0_playTurns_7 : decode cX0_playTurns 7 = .ok (.invokevirtual 88, 3) := by decide +kernel
theorem dX0_playTurns_10 : decode cX0_playTurns 10 = .ok (.istore_n 3, 1) := by decide +kernel
theorem dX0_playTurns_11 : decode cX0_playTurns 11 = .ok (.iconst 0, 1) := by decide +kernel
theorem dX0_playTurns_12 : decode cX0_playTurns 12 = .ok (.istore 4, 2) := by decide +kernel
theorem dX0_playTurns_14 : decode cX0_playTurns 14 = .ok (.iload 4, 2) := by decide +kernel
theorem dX0_playTurns_16 : decode cX0_playTurns 16 = .ok (.sipush 256, 3) := by decide +kernel
theorem dX0_playTurns_19 : decode cX0_playTurns 19 = .ok (.if_icmp .ge 50, 3) := by decide +kernel
theorem dX0_playTurns_22 : decode cX0_playTurns 22 = .ok (.iload 4, 2) := by decide +kernel
theorem dX0_playTurns_24 : decode cX0_playTurns 24 = .ok (.iload_n 3, 1) := by decide +kernel
theorem dX0_playTurns_25 : decode cX0_playTurns 25 = .ok (.invokestatic 108, 3) := by decide +kernel
theorem dX0_playTurns_28 : decode cX0_playTurns 28 = .ok (.ifCond .eq 35, 3) := by decide +kernel
theorem dX0_playTurns_31 : decode cX0_playTurns 31 = .ok (.aload_n 0, 1) := by decide +kernel
theorem dX0_playTurns_32 : decode cX0_playTurns 32 = .ok (.getfield 30, 3) := by decide +kernel
theorem dX0_playTurns_35 : decode cX0_playTurns 35 = .ok (.iload 4, 2) := by decide +kernel
theorem dX0_playTurns_37 : decode cX0_playTurns 37 = .ok (.aload_n 0, 1) := by decide +kernel
theorem dX0_playTurns_38 : decode cX0_playTurns 38 = .ok (.iload 4, 2) := by decide +kernel
theorem dX0_playTurns_40 : decode cX0_playTurns 40 = .ok (.invokevirtual 91, 3) := by decide +kernel
theorem dX0_playTurns_43 : decode cX0_playTurns 43 = .ok (.ifCond .eq 14, 3) := by decide +kernel
theorem dX0_playTurns_46 : decode cX0_playTurns 46 = .ok (.aload_n 0, 1) := by decide +kernel
theorem dX0_playTurns_47 : decode cX0_playTurns 47 = .ok (.iload 4, 2) := by decide +kernel
theorem dX0_playTurns_49 : decode cX0_playTurns 49 = .ok (.invokevirtual 111, 3) := by decide +kernel
theorem dX0_playTurns_52 : decode cX0_playTurns 52 = .ok (.bipush (-2), 2) := by decide +kernel
theorem dX0_playTurns_54 : decode cX0_playTurns 54 = .ok (.if_icmp .eq 7, 3) := by decide +kernel
theorem dX0_playTurns_57 : decode cX0_playTurns 57 = .ok (.iconst 1, 1) := by decide +kernel
theorem dX0_playTurns_58 : decode cX0_playTurns 58 = .ok (.goto 4, 3) := by decide +kernel
theorem dX0_playTurns_61 : decode cX0_playTurns 61 = .ok (.iconst 0, 1) := by decide +kernel
theorem dX0_playTurns_62 : decode cX0_playTurns 62 = .ok (.bastore, 1) := by decide +kernel
theorem dX0_playTurns_63 : decode cX0_playTurns 63 = .ok (.iinc 4 1, 3) := by decide +kernel
theorem dX0_playTurns_66 : decode cX0_playTurns 66 = .ok (.goto (-52), 3) := by decide +kernel
theorem dX0_playTurns_69 : decode cX0_playTurns 69 = .ok (.return_, 1) := by decide +kernel
theorem dX0_wins_0 : decode cX0_wins 0 = .ok (.iload_n 1, 1) := by decide +kernel
theorem dX0_wins_1 : decode cX0_wins 1 = .ok (.ifCond .lt 23, 3) := by decide +kernel
theorem dX0_wins_4 : decode cX0_wins 4 = .ok (.iload_n 1, 1) := by decide +kernel
theorem dX0_wins_5 : decode cX0_wins 5 = .ok (.sipush 256, 3) := by decide +kernel
theorem dX0_wins_8 : decode cX0_wins 8 = .ok (.if_icmp .ge 16, 3) := by decide +kernel
theorem dX0_wins_11 : decode cX0_wins 11 = .ok (.aload_n 0, 1) := by decide +kernel
theorem dX0_wins_12 : decode cX0_wins 12 = .ok (.getfield 30, 3) := by decide +kernel
theorem dX0_wins_15 : decode cX0_wins 15 = .ok (.iload_n 1, 1) := by decide +kernel
theorem dX0_wins_16 : decode cX0_wins 16 = .ok (.baload, 1) := by decide +kernel
theorem dX0_wins_17 : decode cX0_wins 17 = .ok (.ifCond .eq 7, 3) := by decide +kernel
theorem dX0_wins_20 : decode cX0_wins 20 = .ok (.iconst 1, 1) := by decide +kernel
theorem dX0_wins_21 : decode cX0_wins 21 = .ok (.goto 4, 3) := by decide +kernel
theorem dX0_wins_24 : decode cX0_wins 24 = .ok (.iconst 0, 1) := by decide +kernel
theorem dX0_wins_25 : decode cX0_wins 25 = .ok (.ireturn, 1) := by decide +kernel
theorem dX0_winningSnap_0 : decode cX0_winningSnap 0 = .ok (.iconst 0, 1) := by decide +kernel
theorem dX0_winningSnap_1 : decode cX0_winningSnap 1 = .ok (.istore_n 2, 1) := by decide +kernel
theorem dX0_winningSnap_2 : decode cX0_winningSnap 2 = .ok (.iload_n 2, 1) := by decide +kernel
theorem dX0_winningSnap_3 : decode cX0_winningSnap 3 = .ok (.bipush 8, 2) := by decide +kernel
theorem dX0_winningSnap_5 : decode cX0_winningSnap 5 = .ok (.if_icmp .ge 31, 3) := by decide +kernel
theorem dX0_winningSnap_8 : decode cX0_winningSnap 8 = .ok (.iload_n 1, 1) := by decide +kernel
theorem dX0_winningSnap_9 : decode cX0_winningSnap 9 = .ok (.iload_n 2, 1) := by decide +kernel
theorem dX0_winningSnap_10 : decode cX0_winningSnap 10 = .ok (.invokestatic 71, 3) := by decide +kernel
theorem dX0_winningSnap_13 : decode cX0_winningSnap 13 = .ok (.ifCond .eq 17, 3) := by decide +kernel
theorem dX0_winningSnap_16 : decode cX0_winningSnap 16 = .ok (.aload_n 0, 1) := by decide +kernel
theorem dX0_winningSnap_17 : decode cX0_winningSnap 17 = .ok (.iload_n 1, 1) := by decide +kernel
theorem dX0_winningSnap_18 : decode cX0_winningSnap 18 = .ok (.iconst 1, 1) := by decide +kernel
theorem dX0_winningSnap_19 : decode cX0_winningSnap 19 = .ok (.iload_n 2, 1) := by decide +kernel
theorem dX0_winningSnap_20 : decode cX0_winningSnap 20 = .ok (.ishl, 1) := by decide +kernel
theorem dX0_winningSnap_21 : decode cX0_winningSnap 21 = .ok (.ixor, 1) := by decide +kernel
theorem dX0_winningSnap_22 : decode cX0_winningSnap 22 = .ok (.invokevirtual 114, 3) := by decide +kernel
theorem dX0_winningSnap_25 : decode cX0_winningSnap 25 = .ok (.ifCond .ne 5, 3) := by decide +kernel
theorem dX0_winningSnap_28 : decode cX0_winningSnap 28 = .ok (.iload_n 2, 1) := by decide +kernel
theorem dX0_winningSnap_29 : decode cX0_winningSnap 29 = .ok (.ireturn, 1) := by decide +kernel
theorem dX0_winningSnap_30 : decode cX0_winningSnap 30 = .ok (.iinc 2 1, 3) := by decide +kernel
theorem dX0_winningSnap_33 : decode cX0_winningSnap 33 = .ok (.goto (-31), 3) := by decide +kernel
theorem dX0_winningSnap_36 : decode cX0_winningSnap 36 = .ok (.bipush (-2), 2) := by decide +kernel
theorem dX0_winningSnap_38 : decode cX0_winningSnap 38 = .ok (.ireturn, 1) := by decide +kernel
theorem dX1_init_0 : decode cX1_init 0 = .ok (.aload_n 0, 1) := by decide +kernel
theorem dX1_init_1 : decode cX1_init 1 = .ok (.invokespecial 3, 3) := by decide +kernel
theorem dX1_init_4 : decode cX1_init 4 = .ok (.return_, 1) := by decide +kernel
theorem dX1_begin_0 : decode cX1_begin 0 = .ok (.aload_n 0, 1) := by decide +kernel
theorem dX1_begin_1 : decode cX1_begin 1 = .ok (.iload_n 1, 1) := by decide +kernel
theorem dX1_begin_2 : decode cX1_begin 2 = .ok (.putfield 9, 3) := by decide +kernel
theorem dX1_begin_5 : decode cX1_begin 5 = .ok (.aload_n 0, 1) := by decide +kernel
theorem dX1_begin_6 : decode cX1_begin 6 = .ok (.iconst 0, 1) := by decide +kernel
theorem dX1_begin_7 : decode cX1_begin 7 = .ok (.putfield 15, 3) := by decide +kernel
theorem dX1_begin_10 : decode cX1_begin 10 = .ok (.return_, 1) := by decide +kernel
theorem dX1_passYear_0 : decode cX1_passYear 0 = .ok (.iconst 0, 1) := by decide +kernel
theorem dX1_passYear_1 : decode cX1_passYear 1 = .ok (.istore 4, 2) := by decide +kernel
theorem dX1_passYear_3 : decode cX1_passYear 3 = .ok (.iload 4, 2) := by decide +kernel
theorem dX1_passYear_5 : decode cX1_passYear 5 = .ok (.aload_n 1, 1) := by decide +kernel
theorem dX1_passYear_6 : decode cX1_passYear 6 = .ok (.invokevirtual 18, 3) := by decide +kernel
theorem dX1_passYear_9 : decode cX1_passYear 9 = .ok (.if_icmp .ge 67, 3) := by decide +kernel
theorem dX1_passYear_12 : decode cX1_passYear 12 = .ok (.aload_n 0, 1) := by decide +kernel
theorem dX1_passYear_13 : decode cX1_passYear 13 = .ok (.getfield 15, 3) := by decide +kernel
theorem dX1_passYear_16 : decode cX1_passYear 16 = .ok (.iload 4, 2) := by decide +kernel
theorem dX1_passYear_18 : decode cX1_passYear 18 = .ok (.invokestatic 24, 3) := by decide +kernel
theorem dX1_passYear_21 : decode cX1_passYear 21 = .ok (.ifCond .ne 17, 3) := by decide +kernel
theorem dX1_passYear_24 : decode cX1_passYear 24 = .ok (.aload_n 1, 1) := by decide +kernel
theorem dX1_passYear_25 : decode cX1_passYear 25 = .ok (.iload 4, 2) := by decide +kernel
theorem dX1_passYear_27 : decode cX1_passYear 27 = .ok (.iload_n 2, 1) := by decide +kernel
theorem dX1_passYear_28 : decode cX1_passYear 28 = .ok (.invokevirtual 28, 3) := by decide +kernel
theorem dX1_passYear_31 : decode cX1_passYear 31 = .ok (.ifCond .le 7, 3) := by decide +kernel
theorem dX1_passYear_34 : decode cX1_passYear 34 = .ok (.iconst 1, 1) := by decide +kernel
theorem dX1_passYear_35 : decode cX1_passYear 35 = .ok (.goto 4, 3) := by decide +kernel
theorem dX1_passYear_38 : decode cX1_passYear 38 = .ok (.iconst 0, 1) := by decide +kernel
theorem dX1_passYear_39 : decode cX1_passYear 39 = .ok (.istore 5, 2) := by decide +kernel
theorem dX1_passYear_41 : decode cX1_passYear 41 = .ok (.iload 5, 2) := by decide +kernel
theorem dX1_passYear_43 : decode cX1_passYear 43 = .ok (.ifCond .eq 27, 3) := by decide +kernel
theorem dX1_passYear_46 : decode cX1_passYear 46 = .ok (.aload_n 0, 1) := by decide +kernel
theorem dX1_passYear_47 : decode cX1_passYear 47 = .ok (.invokevirtual 32, 3) := by decide +kernel
theorem dX1_passYear_50 : decode cX1_passYear 50 = .ok (.bipush 100, 2) := by decide +kernel
theorem dX1_passYear_52 : decode cX1_passYear 52 = .ok (.irem, 1) := by decide +kernel
theorem dX1_passYear_53 : decode cX1_passYear 53 = .ok (.iload_n 3, 1) := by decide +kernel
theorem dX1_passYear_54 : decode cX1_passYear 54 = .ok (.if_icmp .ge 16, 3) := by decide +kernel
theorem dX1_passYear_57 : decode cX1_passYear 57 = .ok (.aload_n 0, 1) := by decide +kernel
theorem dX1_passYear_58 : decode cX1_passYear 58 = .ok (.dup, 1) := by decide +kernel
theorem dX1_passYear_59 : decode cX1_passYear 59 = .ok (.getfield 15, 3) := by decide +kernel
theorem dX1_passYear_62 : decode cX1_passYear 62 = .ok (.iconst 1, 1) := by decide +kernel
theorem dX1_passYear_63 : decode cX1_passYear 63 = .ok (.iload 4, 2) := by decide +kernel
theorem dX1_passYear_65 : decode cX1_passYear 65 = .ok (.ishl, 1) := by decide +kernel
theorem dX1_passYear_66 : decode cX1_passYear 66 = .ok (.ior, 1) := by decide +kernel
theorem dX1_passYear_67 : decode cX1_passYear 67 = .ok (.putfield 15, 3) := by decide +kernel
theorem dX1_passYear_70 : decode cX1_passYear 70 = .ok (.iinc 4 1, 3) := by decide +kernel
theorem dX1_passYear_73 : decode cX1_passYear 73 = .ok (.goto (-70), 3) := by decide +kernel
theorem dX1_passYear_76 : decode cX1_passYear 76 = .ok (.return_, 1) := by decide +kernel
theorem dX1_draw_0 : decode cX1_draw 0 = .ok (.aload_n 0, 1) := by decide +kernel
theorem dX1_draw_1 : decode cX1_draw 1 = .ok (.bipush 75, 2) := by decide +kernel
theorem dX1_draw_3 : decode cX1_draw 3 = .ok (.aload_n 0, 1) := by decide +kernel
theorem dX1_draw_4 : decode cX1_draw 4 = .ok (.getfield 9, 3) := by decide +kernel
theorem dX1_draw_7 : decode cX1_draw 7 = .ok (.imul, 1) := by decide +kernel
theorem dX1_draw_8 : decode cX1_draw 8 = .ok (.bipush 74, 2) := by decide +kernel
theorem dX1_draw_10 : decode cX1_draw 10 = .ok (.iadd, 1) := by decide +kernel
theorem dX1_draw_11 : decode cX1_draw 11 = .ok (.ldc 35, 2) := by decide +kernel
theorem dX1_draw_13 : decode cX1_draw 13 = .ok (.irem, 1) := by decide +kernel
theorem dX1_draw_14 : decode cX1_draw 14 = .ok (.putfield 9, 3) := by decide +kernel
theorem dX1_draw_17 : decode cX1_draw 17 = .ok (.aload_n 0, 1) := by decide +kernel
theorem dX1_draw_18 : decode cX1_draw 18 = .ok (.getfield 9, 3) := by decide +kernel
theorem dX1_draw_21 : decode cX1_draw 21 = .ok (.ireturn, 1) := by decide +kernel
theorem dX2_init_0 : decode cX2_init 0 = .ok (.aload_n 0, 1) := by decide +kernel
theorem dX2_init_1 : decode cX2_init 1 = .ok (.invokespecial 3, 3) := by decide +kernel
theorem dX2_init_4 : decode cX2_init 4 = .ok (.aload_n 0, 1) := by decide +kernel
theorem dX2_init_5 : decode cX2_init 5 = .ok (.bipush 32, 2) := by decide +kernel
theorem dX2_init_7 : decode cX2_init 7 = .ok (.newarray .long, 2) := by decide +kernel
theorem dX2_init_9 : decode cX2_init 9 = .ok (.putfield 11, 3) := by decide +kernel
theorem dX2_init_12 : decode cX2_init 12 = .ok (.return_, 1) := by decide +kernel
theorem dX2_weigh_0 : decode cX2_weigh 0 = .ok (.aload_n 0, 1) := by decide +kernel
theorem dX2_weigh_1 : decode cX2_weigh 1 = .ok (.aload_n 1, 1) := by decide +kernel
theorem dX2_weigh_2 : decode cX2_weigh 2 = .ok (.bipush 6, 2) := by decide +kernel
theorem dX2_weigh_4 : decode cX2_weigh 4 = .ok (.invokevirtual 15, 3) := by decide +kernel
theorem dX2_weigh_7 : decode cX2_weigh 7 = .ok (.iconst 5, 1) := by decide +kernel
theorem dX2_weigh_8 : decode cX2_weigh 8 = .ok (.invokestatic 21, 3) := by decide +kernel
theorem dX2_weigh_11 : decode cX2_weigh 11 = .ok (.putfield 27, 3) := by decide +kernel
theorem dX2_weigh_14 : decode cX2_weigh 14 = .ok (.aload_n 0, 1) := by decide +kernel
theorem dX2_weigh_15 : decode cX2_weigh 15 = .ok (.iconst 1, 1) := by decide +kernel
theorem dX2_weigh_16 : decode cX2_weigh 16 = .ok (.aload_n 0, 1) := by decide +kernel
theorem dX2_weigh_17 : decode cX2_weigh 17 = .ok (.getfield 27, 3) := by decide +kernel
theorem dX2_weigh_20 : decode cX2_weigh 20 = .ok (.ishl, 1) := by decide +kernel
theorem dX2_weigh_21 : decode cX2_weigh 21 = .ok (.putfield 31, 3) := by decide +kernel
theorem dX2_weigh_24 : decode cX2_weigh 24 = .ok (.iconst 0, 1) := by decide +kernel
theorem dX2_weigh_25 : decode cX2_weigh 25 = .ok (.istore_n 2, 1) := by decide +kernel
theorem dX2_weigh_26 : decode cX2_weigh 26 = .ok (.iload_n 2, 1) := by decide +kernel
theorem dX2_weigh_27 : decode cX2_weigh 27 = .ok (.aload_n 0, 1) := by decide +kernel
theorem dX2_weigh_28 : decode cX2_weigh 28 = .ok (.getfield 31, 3) := by decide +kernel
theorem dX2_weigh_31 : decode cX2_weigh 31 = .ok (.if_icmp .ge 20, 3) := by decide +kernel
theorem dX2_weigh_34 : decode cX2_weigh 34 = .ok (.aload_n 0, 1) := by decide +kernel
theorem dX2_weigh_35 : decode cX2_weigh 35 = .ok (.getfield 11, 3) := by decide +kernel
theorem dX2_weigh_38 : decode cX2_weigh 38 = .ok (.iload_n 2, 1) := by decide +kernel
theorem dX2_weigh_39 : decode cX2_weigh 39 = .ok (.aload_n 1, 1) := by decide +kernel
theorem dX2_weigh_40 : decode cX2_weigh 40 = .ok (.iload_n 2, 1) := by decide +kernel
theorem dX2_weigh_41 : decode cX2_weigh 41 = .ok (.invokestatic 34, 3) := by decide +kernel
theorem dX2_weigh_44 : decode cX2_weigh 44 = .ok (.lastore, 1) := by decide +kernel
theorem dX2_weigh_45 : decode cX2_weigh 45 = .ok (.iinc 2 1, 3) := by decide +kernel
theorem dX2_weigh_48 : decode cX2_weigh 48 = .ok (.goto (-22), 3) := by decide +kernel
theorem dX2_weigh_51 : decode cX2_weigh 51 = .ok (.return_, 1) := by decide +kernel
theorem dX2_weightOf_0 : decode cX2_weightOf 0 = .ok (.aload_n 0, 1) := by decide +kernel
theorem dX2_weightOf_1 : decode cX2_weightOf 1 = .ok (.invokevirtual 38, 3) := by decide +kernel
theorem dX2_weightOf_4 : decode cX2_weightOf 4 = .ok (.istore_n 2, 1) := by decide +kernel
theorem dX2_weightOf_5 : decode cX2_weightOf 5 = .ok (.lconst 1, 1) := by decide +kernel
theorem dX2_weightOf_6 : decode cX2_weightOf 6 = .ok (.lstore_n 3, 1) := by decide +kernel
theorem dX2_weightOf_7 : decode cX2_weightOf 7 = .ok (.iconst 0, 1) := by decide +kernel
theorem dX2_weightOf_8 : decode cX2_weightOf 8 = .ok (.istore 5, 2) := by decide +kernel
theorem dX2_weightOf_10 : decode cX2_weightOf 10 = .ok (.iload 5, 2) := by decide +kernel
theorem dX2_weightOf_12 : decode cX2_weightOf 12 = .ok (.aload_n 0, 1) := by decide +kernel
theorem dX2_weightOf_13 : decode cX2_weightOf 13 = .ok (.bipush 7, 2) := by decide +kernel
theorem dX2_weightOf_15 : decode cX2_weightOf 15 = .ok (.invokevirtual 15, 3) := by decide +kernel
theorem dX2_weightOf_18 : decode cX2_weightOf 18 = .ok (.if_icmp .ge 58, 3) := by decide +kernel
theorem dX2_weightOf_21 : decode cX2_weightOf 21 = .ok (.aload_n 0, 1) := by decide +kernel
theorem dX2_weightOf_22 : decode cX2_weightOf 22 = .ok (.aload_n 0, 1) := by decide +kernel
theorem dX2_weightOf_23 : decode cX2_weightOf 23 = .ok (.bipush 7, 2) := by decide +kernel
theorem dX2_weightOf_25 : decode cX2_weightOf 25 = .ok (.iload 5, 2) := by decide +kernel
theorem dX2_weightOf_27 : decode cX2_weightOf 27 = .ok (.iconst 0, 1) := by decide +kernel
theorem dX2_weightOf_28 : decode cX2_weightOf 28 = .ok (.invokevirtual 42, 3) := by decide +kernel
theorem dX2_weightOf_31 : decode cX2_weightOf 31 = .ok (.aload_n 0, 1) := by decide +kernel
theorem dX2_weightOf_32 : decode cX2_weightOf 32 = .ok (.bipush 7, 2) := by decide +kernel
theorem dX2_weightOf_34 : decode cX2_weightOf 34 = .ok (.iload 5, 2) := by decide +kernel
theorem dX2_weightOf_36 : decode cX2_weightOf 36 = .ok (.iconst 1, 1) := by decide +kernel
theorem dX2_weightOf_37 : decode cX2_weightOf 37 = .ok (.invokevirtual 42, 3) := by decide +kernel
theorem dX2_weightOf_40 : decode cX2_weightOf 40 = .ok (.iload_n 1, 1) := by decide +kernel
theorem dX2_weightOf_41 : decode cX2_weightOf 41 = .ok (.invokestatic 46, 3) := by decide +kernel
theorem dX2_weightOf_44 : decode cX2_weightOf 44 = .ok (.istore 6, 2) := by decide +kernel
theorem dX2_weightOf_46 : decode cX2_weightOf 46 = .ok (.lload_n 3, 1) := by decide +kernel
theorem dX2_weightOf_47 : decode cX2_weightOf 47 = .ok (.iload 6, 2) := by decide +kernel
theorem dX2_weightOf_49 : decode cX2_weightOf 49 = .ok (.aload_n 0, 1) := by decide +kernel
theorem dX2_weightOf_50 : decode cX2_weightOf 50 = .ok (.iload 5, 2) := by decide +kernel
theorem dX2_weightOf_52 : decode cX2_weightOf 52 = .ok (.invokevirtual 50, 3) := by decide +kernel
theorem dX2_weightOf_55 : decode cX2_weightOf 55 = .ok (.if_icmp .ne 11, 3) := by decide +kernel
theorem dX2_weightOf_58 : decode cX2_weightOf 58 = .ok (.bipush 100, 2) := by decide +kernel
theorem dX2_weightOf_60 : decode cX2_weightOf 60 = .ok (.iload_n 2, 1) := by decide +kernel
theorem dX2_weightOf_61 : decode cX2_weightOf 61 = .ok (.isub, 1) := by decide +kernel
theorem dX2_weightOf_62 : decode cX2_weightOf 62 = .ok (.i2l, 1) := by decide +kernel
theorem dX2_weightOf_63 : decode cX2_weightOf 63 = .ok (.goto 5, 3) := by decide +kernel
theorem dX2_weightOf_66 : decode cX2_weightOf 66 = .ok (.iload_n 2, 1) := by decide +kernel
theorem dX2_weightOf_67 : decode cX2_weightOf 67 = .ok (.i2l, 1) := by decide +kernel
theorem dX2_weightOf_68 : decode cX2_weightOf 68 = .ok (.lmul, 1) := by decide +kernel
theorem dX2_weightOf_69 : decode cX2_weightOf 69 = .ok (.lstore_n 3, 1) := by decide +kernel
theorem dX2_weightOf_70 : decode cX2_weightOf 70 = .ok (.iinc 5 1, 3) := by decide +kernel
theorem dX2_weightOf_73 : decode cX2_weightOf 73 = .ok (.goto (-63), 3) := by decide +kernel
theorem dX2_weightOf_76 : decode cX2_weightOf 76 = .ok (.lload_n 3, 1) := by decide +kernel
theorem dX2_weightOf_77 : decode cX2_weightOf 77 = .ok (.lreturn, 1) := by decide +kernel
theorem dX2_isBrown_0 : decode cX2_isBrown 0 = .ok (.aload_n 0, 1) := by decide +kernel
theorem dX2_isBrown_1 : decode cX2_isBrown 1 = .ok (.iload_n 1, 1) := by decide +kernel
theorem dX2_isBrown_2 : decode cX2_isBrown 2 = .ok (.iload_n 3, 1) := by decide +kernel
theorem dX2_isBrown_3 : decode cX2_isBrown 3 = .ok (.invokestatic 54, 3) := by decide +kernel
theorem dX2_isBrown_6 : decode cX2_isBrown 6 = .ok (.ifCond .ne 12, 3) := by decide +kernel
theorem dX2_isBrown_9 : decode cX2_isBrown 9 = .ok (.aload_n 0, 1) := by decide +kernel
theorem dX2_isBrown_10 : decode cX2_isBrown 10 = .ok (.iload_n 2, 1) := by decide +kernel
theorem dX2_isBrown_11 : decode cX2_isBrown 11 = .ok (.iload_n 3, 1) := by decide +kernel
theorem dX2_isBrown_12 : decode cX2_isBrown 12 = .ok (.invokestatic 54, 3) := by decide +kernel
theorem dX2_isBrown_15 : decode cX2_isBrown 15 = .ok (.ifCond .eq 7, 3) := by decide +kernel
theorem dX2_isBrown_18 : decode cX2_isBrown 18 = .ok (.iconst 1, 1) := by decide +kernel
theorem dX2_isBrown_19 : decode cX2_isBrown 19 = .ok (.goto 4, 3) := by decide +kernel
theorem dX2_isBrown_22 : decode cX2_isBrown 22 = .ok (.iconst 0, 1) := by decide +kernel
theorem dX2_isBrown_23 : decode cX2_isBrown 23 = .ok (.ireturn, 1) := by decide +kernel
theorem dX2_isLiedOn_0 : decode cX2_isLiedOn 0 = .ok (.iconst 0, 1) := by decide +kernel
theorem dX2_isLiedOn_1 : decode cX2_isLiedOn 1 = .ok (.istore_n 3, 1) := by decide +kernel
theorem dX2_isLiedOn_2 : decode cX2_isLiedOn 2 = .ok (.iload_n 3, 1) := by decide +kernel
theorem dX2_isLiedOn_3 : decode cX2_isLiedOn 3 = .ok (.aload_n 0, 1) := by decide +kernel
theorem dX2_isLiedOn_4 : decode cX2_isLiedOn 4 = .ok (.bipush 6, 2) := by decide +kernel
theorem dX2_isLiedOn_6 : decode cX2_isLiedOn 6 = .ok (.invokevirtual 15, 3) := by decide +kernel
theorem dX2_isLiedOn_9 : decode cX2_isLiedOn 9 = .ok (.if_icmp .ge 27, 3) := by decide +kernel
theorem dX2_isLiedOn_12 : decode cX2_isLiedOn 12 = .ok (.aload_n 0, 1) := by decide +kernel
theorem dX2_isLiedOn_13 : decode cX2_isLiedOn 13 = .ok (.bipush 6, 2) := by decide +kernel
theorem dX2_isLiedOn_15 : decode cX2_isLiedOn 15 = .ok (.iload_n 3, 1) := by decide +kernel
theorem dX2_isLiedOn_16 : decode cX2_isLiedOn 16 = .ok (.iconst 0, 1) := by decide +kernel
theorem dX2_isLiedOn_17 : decode cX2_isLiedOn 17 = .ok (.invokevirtual 42, 3) := by decide +kernel
theorem dX2_isLiedOn_20 : decode cX2_isLiedOn 20 = .ok (.iload_n 1, 1) := by decide +kernel
theorem dX2_isLiedOn_21 : decode cX2_isLiedOn 21 = .ok (.if_icmp .ne 9, 3) := by decide +kernel
theorem dX2_isLiedOn_24 : decode cX2_isLiedOn 24 = .ok (.iload_n 2, 1) := by decide +kernel
theorem dX2_isLiedOn_25 : decode cX2_isLiedOn 25 = .ok (.iload_n 3, 1) := by decide +kernel
theorem dX2_isLiedOn_26 : decode cX2_isLiedOn 26 = .ok (.invokestatic 58, 3) := by decide +kernel
theorem dX2_isLiedOn_29 : decode cX2_isLiedOn 29 = .ok (.ireturn, 1) := by decide +kernel
theorem dX2_isLiedOn_30 : decode cX2_isLiedOn 30 = .ok (.iinc 3 1, 3) := by decide +kernel
theorem dX2_isLiedOn_33 : decode cX2_isLiedOn 33 = .ok (.goto (-31), 3) := by decide +kernel
theorem dX2_isLiedOn_36 : decode cX2_isLiedOn 36 = .ok (.aload_n 0, 1) := by decide +kernel
theorem dX2_isLiedOn_37 : decode cX2_isLiedOn 37 = .ok (.iload_n 1, 1) := by decide +kernel
theorem dX2_isLiedOn_38 : decode cX2_isLiedOn 38 = .ok (.invokevirtual 62, 3) := by decide +kernel
theorem dX2_isLiedOn_41 : decode cX2_isLiedOn 41 = .ok (.ireturn, 1) := by decide +kernel
theorem dX2_fitting_0 : decode cX2_fitting 0 = .ok (.iconst 0, 1) := by decide +kernel
theorem dX2_fitting_1 : decode cX2_fitting 1 = .ok (.istore_n 1, 1) := by decide +kernel
theorem dX2_fitting_2 : decode cX2_fitting 2 = .ok (.iconst 0, 1) := by decide +kernel
theorem dX2_fitting_3 : decode cX2_fitting 3 = .ok (.istore_n 2, 1) := by decide +kernel
theorem dX2_fitting_4 : decode cX2_fitting 4 = .ok (.iload_n 2, 1) := by decide +kernel
theorem dX2_fitting_5 : decode cX2_fitting 5 = .ok (.aload_n 0, 1) := by decide +kernel
theorem dX2_fitting_6 : decode cX2_fitting 6 = .ok (.getfield 31, 3) := by decide +kernel
theorem dX2_fitting_9 : decode cX2_fitting 9 = .ok (.if_icmp .ge 28, 3) := by decide +kernel
theorem dX2_fitting_12 : decode cX2_fitting 12 = .ok (.iload_n 1, 1) := by decide +kernel
theorem dX2_fitting_13 : decode cX2_fitting 13 = .ok (.aload_n 0, 1) := by decide +kernel
theorem dX2_fitting_14 : decode cX2_fitting 14 = .ok (.getfield 11, 3) := by decide +kernel
theorem dX2_fitting_17 : decode cX2_fitting 17 = .ok (.iload_n 2, 1) := by decide +kernel
theorem dX2_fitting_18 : decode cX2_fitting 18 = .ok (.laload, 1) := by decide +kernel
theorem dX2_fitting_19 : decode cX2_fitting 19 = .ok (.lconst 0, 1) := by decide +kernel
theorem dX2_fitting_20 : decode cX2_fitting 20 = .ok (.lcmp, 1) := by decide +kernel
theorem dX2_fitting_21 : decode cX2_fitting 21 = .ok (.ifCond .le 7, 3) := by decide +kernel
theorem dX2_fitting_24 : decode cX2_fitting 24 = .ok (.iconst 1, 1) := by decide +kernel
theorem dX2_fitting_25 : decode cX2_fitting 25 = .ok (.goto 4, 3) := by decide +kernel
theorem dX2_fitting_28 : decode cX2_fitting 28 = .ok (.iconst 0, 1) := by decide +kernel
theorem dX2_fitting_29 : decode cX2_fitting 29 = .ok (.iadd, 1) := by decide +kernel
theorem dX2_fitting_30 : decode cX2_fitting 30 = .ok (.istore_n 1, 1) := by decide +kernel
theorem dX2_fitting_31 : decode cX2_fitting 31 = .ok (.iinc 2 1, 3) := by decide +kernel
theorem dX2_fitting_34 : decode cX2_fitting 34 = .ok (.goto (-30), 3) := by decide +kernel
theorem dX2_fitting_37 : decode cX2_fitting 37 = .ok (.iload_n 1, 1) := by decide +kernel
theorem dX2_fitting_38 : decode cX2_fitting 38 = .ok (.ireturn, 1) := by decide +kernel
theorem dX2_fittingAt_0 : decode cX2_fittingAt 0 = .ok (.iload_n 1, 1) := by decide +kernel
theorem dX2_fittingAt_1 : decode cX2_fittingAt 1 = .ok (.istore_n 2, 1) := by decide +kernel
theorem dX2_fittingAt_2 : decode cX2_fittingAt 2 = .ok (.iconst 0, 1) := by decide +kernel
theorem dX2_fittingAt_3 : decode cX2_fittingAt 3 = .ok (.istore_n 3, 1) := by decide +kernel
theorem dX2_fittingAt_4 : decode cX2_fittingAt 4 = .ok (.iload_n 3, 1) := by decide +kernel
theorem dX2_fittingAt_5 : decode cX2_fittingAt 5 = .ok (.aload_n 0, 1) := by decide +kernel
theorem dX2_fittingAt_6 : decode cX2_fittingAt 6 = .ok (.getfield 31, 3) := by decide +kernel
theorem dX2_fittingAt_9 : decode cX2_fittingAt 9 = .ok (.if_icmp .ge 29, 3) := by decide +kernel
theorem dX2_fittingAt_12 : decode cX2_fittingAt 12 = .ok (.aload_n 0, 1) := by decide +kernel
theorem dX2_fittingAt_13 : decode cX2_fittingAt 13 = .ok (.getfield 11, 3) := by decide +kernel
theorem dX2_fittingAt_16 : decode cX2_fittingAt 16 = .ok (.iload_n 3, 1) := by decide +kernel
theorem dX2_fittingAt_17 : decode cX2_fittingAt 17 = .ok (.laload, 1) := by decide +kernel
theorem dX2_fittingAt_18 : decode cX2_fittingAt 18 = .ok (.lconst 0, 1) := by decide +kernel
theorem dX2_fittingAt_19 : decode cX2_fittingAt 19 = .ok (.lcmp, 1) := by decide +kernel
theorem dX2_fittingAt_20 : decode cX2_fittingAt 20 = .ok (.ifCond .le 12, 3) := by decide +kernel
theorem dX2_fittingAt_23 : decode cX2_fittingAt 23 = .ok (.iload_n 2, 1) := by decide +kernel
theorem dX2_fittingAt_24 : decode cX2_fittingAt 24 = .ok (.ifCond .ne 5, 3) := by decide +kernel
theorem dX2_fittingAt_27 : decode cX2_fittingAt 27 = .ok (.iload_n 3, 1) := by decide +kernel
theorem dX2_fittingAt_28 : decode cX2_fittingAt 28 = .ok (.ireturn, 1) := by decide +kernel
theorem dX2_fittingAt_29 : decode cX2_fittingAt 29 = .ok (.iinc 2 (-1), 3) := by decide +kernel
theorem dX2_fittingAt_32 : decode cX2_fittingAt 32 = .ok (.iinc 3 1, 3) := by decide +kernel
theorem dX2_fittingAt_35 : decode cX2_fittingAt 35 = .ok (.goto (-31), 3) := by decide +kernel
theorem dX2_fittingAt_38 : decode cX2_fittingAt 38 = .ok (.iconst (-1), 1) := by decide +kernel
theorem dX2_fittingAt_39 : decode cX2_fittingAt 39 = .ok (.ireturn, 1) := by decide +kernel
theorem dX2_whole_0 : decode cX2_whole 0 = .ok (.lconst 0, 1) := by decide +kernel
theorem dX2_whole_1 : decode cX2_whole 1 = .ok (.lstore_n 1, 1) := by decide +kernel
theorem dX2_whole_2 : decode cX2_whole 2 = .ok (.iconst 0, 1) := by decide +kernel
theorem dX2_whole_3 : decode cX2_whole 3 = .ok (.istore_n 3, 1) := by decide +kernel
theorem dX2_whole_4 : decode cX2_whole 4 = .ok (.iload_n 3, 1) := by decide +kernel
theorem dX2_whole_5 : decode cX2_whole 5 = .ok (.aload_n 0, 1) := by decide +kernel
theorem dX2_whole_6 : decode cX2_whole 6 = .ok (.getfield 31, 3) := by decide +kernel
theorem dX2_whole_9 : decode cX2_whole 9 = .ok (.if_icmp .ge 18, 3) := by decide +kernel
theorem dX2_whole_12 : decode cX2_whole 12 = .ok (.lload_n 1, 1) := by decide +kernel
theorem dX2_whole_13 : decode cX2_whole 13 = .ok (.aload_n 0, 1) := by decide +kernel
theorem dX2_whole_14 : decode cX2_whole 14 = .ok (.getfield 11, 3) := by decide +kernel
theorem dX2_whole_17 : decode cX2_whole 17 = .ok (.iload_n 3, 1) := by decide +kernel
theorem dX2_whole_18 : decode cX2_whole 18 = .ok (.laload, 1) := by decide +kernel
theorem dX2_whole_19 : decode cX2_whole 19 = .ok (.ladd, 1) := by decide +kernel
theorem dX2_whole_20 : decode cX2_whole 20 = .ok (.lstore_n 1, 1) := by decide +kernel
theorem dX2_whole_21 : decode cX2_whole 21 = .ok (.iinc 3 1, 3) := by decide +kernel
theorem dX2_whole_24 : decode cX2_whole 24 = .ok (.goto (-20), 3) := by decide +kernel
theorem dX2_whole_27 : decode cX2_whole 27 = .ok (.lload_n 1, 1) := by decide +kernel
theorem dX2_whole_28 : decode cX2_whole 28 = .ok (.lreturn, 1) := by decide +kernel
theorem dX2_weightWith_0 : decode cX2_weightWith 0 = .ok (.lconst 0, 1) := by decide +kernel
theorem dX2_weightWith_1 : decode cX2_weightWith 1 = .ok (.lstore_n 2, 1) := by decide +kernel
theorem dX2_weightWith_2 : decode cX2_weightWith 2 = .ok (.iconst 0, 1) := by decide +kernel
theorem dX2_weightWith_3 : decode cX2_weightWith 3 = .ok (.istore 4, 2) := by decide +kernel
theorem dX2_weightWith_5 : decode cX2_weightWith 5 = .ok (.iload 4, 2) := by decide +kernel
theorem dX2_weightWith_7 : decode cX2_weightWith 7 = .ok (.aload_n 0, 1) := by decide +kernel
theorem dX2_weightWith_8 : decode cX2_weightWith 8 = .ok (.getfield 31, 3) := by decide +kernel
theorem dX2_weightWith_11 : decode cX2_weightWith 11 = .ok (.if_icmp .ge 32, 3) := by decide +kernel
theorem dX2_weightWith_14 : decode cX2_weightWith 14 = .ok (.lload_n 2, 1) := by decide +kernel
theorem dX2_weightWith_15 : decode cX2_weightWith 15 = .ok (.iload 4, 2) := by decide +kernel
theorem dX2_weightWith_17 : decode cX2_weightWith 17 = .ok (.iload_n 1, 1) := by decide +kernel
theorem dX2_weightWith_18 : decode cX2_weightWith 18 = .ok (.invokestatic 58, 3) := by decide +kernel
theorem dX2_weightWith_21 : decode cX2_weightWith 21 = .ok (.ifCond .eq 13, 3) := by decide +kernel
theorem dX2_weightWith_24 : decode cX2_weightWith 24 = .ok (.aload_n 0, 1) := by decide +kernel
theorem dX2_weightWith_25 : decode cX2_weightWith 25 = .ok (.getfield 11, 3) := by decide +kernel
theorem dX2_weightWith_28 : decode cX2_weightWith 28 = .ok (.iload 4, 2) := by decide +kernel
theorem dX2_weightWith_30 : decode cX2_weightWith 30 = .ok (.laload, 1) := by decide +kernel
theorem dX2_weightWith_31 : decode cX2_weightWith 31 = .ok (.goto 4, 3) := by decide +kernel
theorem dX2_weightWith_34 : decode cX2_weightWith 34 = .ok (.lconst 0, 1) := by decide +kernel
theorem dX2_weightWith_35 : decode cX2_weightWith 35 = .ok (.ladd, 1) := by decide +kernel
theorem dX2_weightWith_36 : decode cX2_weightWith 36 = .ok (.lstore_n 2, 1) := by decide +kernel
theorem dX2_weightWith_37 : decode cX2_weightWith 37 = .ok (.iinc 4 1, 3) := by decide +kernel
theorem dX2_weightWith_40 : decode cX2_weightWith 40 = .ok (.goto (-35), 3) := by decide +kernel
theorem dX2_weightWith_43 : decode cX2_weightWith 43 = .ok (.lload_n 2, 1) := by decide +kernel
theorem dX2_weightWith_44 : decode cX2_weightWith 44 = .ok (.lreturn, 1) := by decide +kernel
theorem dX2_weightOfBrown_0 : decode cX2_weightOfBrown 0 = .ok (.lconst 0, 1) := by decide +kernel
theorem dX2_weightOfBrown_1 : decode cX2_weightOfBrown 1 = .ok (.lstore 4, 2) := by decide +kernel
theorem dX2_weightOfBrown_3 : decode cX2_weightOfBrown 3 = .ok (.iconst 0, 1) := by decide +kernel
theorem dX2_weightOfBrown_4 : decode cX2_weightOfBrown 4 = .ok (.istore 6, 2) := by decide +kernel
theorem dX2_weightOfBrown_6 : decode cX2_weightOfBrown 6 = .ok (.iload 6, 2) := by decide +kernel
theorem dX2_weightOfBrown_8 : decode cX2_weightOfBrown 8 = .ok (.aload_n 0, 1) := by decide +kernel
theorem dX2_weightOfBrown_9 : decode cX2_weightOfBrown 9 = .ok (.getfield 31, 3) := by decide +kernel
theorem dX2_weightOfBrown_12 : decode cX2_weightOfBrown 12 = .ok (.if_icmp .ge 36, 3) := by decide +kernel
theorem dX2_weightOfBrown_15 : decode cX2_weightOfBrown 15 = .ok (.lload 4, 2) := by decide +kernel
theorem dX2_weightOfBrown_17 : decode cX2_weightOfBrown 17 = .ok (.aload_n 1, 1) := by decide +kernel
theorem dX2_weightOfBrown_18 : decode cX2_weightOfBrown 18 = .ok (.iload_n 2, 1) := by decide +kernel
theorem dX2_weightOfBrown_19 : decode cX2_weightOfBrown 19 = .ok (.iload_n 3, 1) := by decide +kernel
theorem dX2_weightOfBrown_20 : decode cX2_weightOfBrown 20 = .ok (.iload 6, 2) := by decide +kernel
theorem dX2_weightOfBrown_22 : decode cX2_weightOfBrown 22 = .ok (.invokestatic 46, 3) := by decide +kernel
theorem dX2_weightOfBrown_25 : decode cX2_weightOfBrown 25 = .ok (.ifCond .eq 13, 3) := by decide +kernel
theorem dX2_weightOfBrown_28 : decode cX2_weightOfBrown 28 = .ok (.aload_n 0, 1) := by decide +kernel
theorem dX2_weightOfBrown_29 : decode cX2_weightOfBrown 29 = .ok (.getfield 11, 3) := by decide +kernel
theorem dX2_weightOfBrown_32 : decode cX2_weightOfBrown 32 = .ok (.iload 6, 2) := by decide +kernel
theorem dX2_weightOfBrown_34 : decode cX2_weightOfBrown 34 = .ok (.laload, 1) := by decide +kernel
theorem dX2_weightOfBrown_35 : decode cX2_weightOfBrown 35 = .ok (.goto 4, 3) := by decide +kernel
theorem dX2_weightOfBrown_38 : decode cX2_weightOfBrown 38 = .ok (.lconst 0, 1) := by decide +kernel
theorem dX2_weightOfBrown_39 : decode cX2_weightOfBrown 39 = .ok (.ladd, 1) := by decide +kernel
theorem dX2_weightOfBrown_40 : decode cX2_weightOfBrown 40 = .ok (.lstore 4, 2) := by decide +kernel
theorem dX2_weightOfBrown_42 : decode cX2_weightOfBrown 42 = .ok (.iinc 6 1, 3) := by decide +kernel
theorem dX2_weightOfBrown_45 : decode cX2_weightOfBrown 45 = .ok (.goto (-39), 3) := by decide +kernel
theorem dX2_weightOfBrown_48 : decode cX2_weightOfBrown 48 = .ok (.lload 4, 2) := by decide +kernel
theorem dX2_weightOfBrown_50 : decode cX2_weightOfBrown 50 = .ok (.lreturn, 1) := by decide +kernel
theorem dX2_heaviest_0 : decode cX2_heaviest 0 = .ok (.bipush (-2), 2) := by decide +kernel
theorem dX2_heaviest_2 : decode cX2_heaviest 2 = .ok (.istore_n 1, 1) := by decide +kernel
theorem dX2_heaviest_3 : decode cX2_heaviest 3 = .ok (.lconst 0, 1) := by decide +kernel
theorem dX2_heaviest_4 : decode cX2_heaviest 4 = .ok (.lstore_n 2, 1) := by decide +kernel
theorem dX2_heaviest_5 : decode cX2_heaviest 5 = .ok (.iconst 0, 1) := by decide +kernel
theorem dX2_heaviest_6 : decode cX2_heaviest 6 = .ok (.istore 4, 2) := by decide +kernel
theorem dX2_heaviest_8 : decode cX2_heaviest 8 = .ok (.iload 4, 2) := by decide +kernel
theorem dX2_heaviest_10 : decode cX2_heaviest 10 = .ok (.aload_n 0, 1) := by decide +kernel
theorem dX2_heaviest_11 : decode cX2_heaviest 11 = .ok (.getfield 31, 3) := by decide +kernel
theorem dX2_heaviest_14 : decode cX2_heaviest 14 = .ok (.if_icmp .ge 32, 3) := by decide +kernel
theorem dX2_heaviest_17 : decode cX2_heaviest 17 = .ok (.aload_n 0, 1) := by decide +kernel
theorem dX2_heaviest_18 : decode cX2_heaviest 18 = .ok (.getfield 11, 3) := by decide +kernel
theorem dX2_heaviest_21 : decode cX2_heaviest 21 = .ok (.iload 4, 2) := by decide +kernel
theorem dX2_heaviest_23 : decode cX2_heaviest 23 = .ok (.laload, 1) := by decide +kernel
theorem dX2_heaviest_24 : decode cX2_heaviest 24 = .ok (.lload_n 2, 1) := by decide +kernel
theorem dX2_heaviest_25 : decode cX2_heaviest 25 = .ok (.lcmp, 1) := by decide +kernel
theorem dX2_heaviest_26 : decode cX2_heaviest 26 = .ok (.ifCond .le 14, 3) := by decide +kernel
theorem dX2_heaviest_29 : decode cX2_heaviest 29 = .ok (.aload_n 0, 1) := by decide +kernel
theorem dX2_heaviest_30 : decode cX2_heaviest 30 = .ok (.getfield 11, 3) := by decide +kernel
theorem dX2_heaviest_33 : decode cX2_heaviest 33 = .ok (.iload 4, 2) := by decide +kernel
theorem dX2_heaviest_35 : decode cX2_heaviest 35 = .ok (.laload, 1) := by decide +kernel
theorem dX2_heaviest_36 : decode cX2_heaviest 36 = .ok (.lstore_n 2, 1) := by decide +kernel
theorem dX2_heaviest_37 : decode cX2_heaviest 37 = .ok (.iload 4, 2) := by decide +kernel
theorem dX2_heaviest_39 : decode cX2_heaviest 39 = .ok (.istore_n 1, 1) := by decide +kernel
theorem dX2_heaviest_40 : decode cX2_heaviest 40 = .ok (.iinc 4 1, 3) := by decide +kernel
theorem dX2_heaviest_43 : decode cX2_heaviest 43 = .ok (.goto (-35), 3) := by decide +kernel
theorem dX2_heaviest_46 : decode cX2_heaviest 46 = .ok (.iload_n 1, 1) := by decide +kernel
theorem dX2_heaviest_47 : decode cX2_heaviest 47 = .ok (.ireturn, 1) := by decide +kernel
theorem dX2_leftAtMost_0 : decode cX2_leftAtMost 0 = .ok (.iconst 0, 1) := by decide +kernel
theorem dX2_leftAtMost_1 : decode cX2_leftAtMost 1 = .ok (.istore_n 2, 1) := by decide +kernel
theorem dX2_leftAtMost_2 : decode cX2_leftAtMost 2 = .ok (.iconst 0, 1) := by decide +kernel
theorem dX2_leftAtMost_3 : decode cX2_leftAtMost 3 = .ok (.istore_n 3, 1) := by decide +kernel
theorem dX2_leftAtMost_4 : decode cX2_leftAtMost 4 = .ok (.iload_n 3, 1) := by decide +kernel
theorem dX2_leftAtMost_5 : decode cX2_leftAtMost 5 = .ok (.aload_n 0, 1) := by decide +kernel
theorem dX2_leftAtMost_6 : decode cX2_leftAtMost 6 = .ok (.getfield 31, 3) := by decide +kernel
theorem dX2_leftAtMost_9 : decode cX2_leftAtMost 9 = .ok (.if_icmp .ge 36, 3) := by decide +kernel
theorem dX2_leftAtMost_12 : decode cX2_leftAtMost 12 = .ok (.iload_n 2, 1) := by decide +kernel
theorem dX2_leftAtMost_13 : decode cX2_leftAtMost 13 = .ok (.iload_n 3, 1) := by decide +kernel
theorem dX2_leftAtMost_14 : decode cX2_leftAtMost 14 = .ok (.iload_n 1, 1) := by decide +kernel
theorem dX2_leftAtMost_15 : decode cX2_leftAtMost 15 = .ok (.invokestatic 58, 3) := by decide +kernel
theorem dX2_leftAtMost_18 : decode cX2_leftAtMost 18 = .ok (.ifCond .eq 18, 3) := by decide +kernel
theorem dX2_leftAtMost_21 : decode cX2_leftAtMost 21 = .ok (.aload_n 0, 1) := by decide +kernel
theorem dX2_leftAtMost_22 : decode cX2_leftAtMost 22 = .ok (.getfield 11, 3) := by decide +kernel
theorem dX2_leftAtMost_25 : decode cX2_leftAtMost 25 = .ok (.iload_n 3, 1) := by decide +kernel
theorem dX2_leftAtMost_26 : decode cX2_leftAtMost 26 = .ok (.laload, 1) := by decide +kernel
theorem dX2_leftAtMost_27 : decode cX2_leftAtMost 27 = .ok (.lconst 0, 1) := by decide +kernel
theorem dX2_leftAtMost_28 : decode cX2_leftAtMost 28 = .ok (.lcmp, 1) := by decide +kernel
theorem dX2_leftAtMost_29 : decode cX2_leftAtMost 29 = .ok (.ifCond .le 7, 3) := by decide +kernel
theorem dX2_leftAtMost_32 : decode cX2_leftAtMost 32 = .ok (.iconst 1, 1) := by decide +kernel
theorem dX2_leftAtMost_33 : decode cX2_leftAtMost 33 = .ok (.goto 4, 3) := by decide +kernel
theorem dX2_leftAtMost_36 : decode cX2_leftAtMost 36 = .ok (.iconst 0, 1) := by decide +kernel
theorem dX2_leftAtMost_37 : decode cX2_leftAtMost 37 = .ok (.iadd, 1) := by decide +kernel
theorem dX2_leftAtMost_38 : decode cX2_leftAtMost 38 = .ok (.istore_n 2, 1) := by decide +kernel
theorem dX2_leftAtMost_39 : decode cX2_leftAtMost 39 = .ok (.iinc 3 1, 3) := by decide +kernel
theorem dX2_leftAtMost_42 : decode cX2_leftAtMost 42 = .ok (.goto (-38), 3) := by decide +kernel
theorem dX2_leftAtMost_45 : decode cX2_leftAtMost 45 = .ok (.iload_n 2, 1) := by decide +kernel
theorem dX2_leftAtMost_46 : decode cX2_leftAtMost 46 = .ok (.aload_n 0, 1) := by decide +kernel
theorem dX2_leftAtMost_47 : decode cX2_leftAtMost 47 = .ok (.invokevirtual 65, 3) := by decide +kernel
theorem dX2_leftAtMost_50 : decode cX2_leftAtMost 50 = .ok (.iload_n 2, 1) := by decide +kernel
theorem dX2_leftAtMost_51 : decode cX2_leftAtMost 51 = .ok (.isub, 1) := by decide +kernel
theorem dX2_leftAtMost_52 : decode cX2_leftAtMost 52 = .ok (.invokestatic 68, 3) := by decide +kernel
theorem dX2_leftAtMost_55 : decode cX2_leftAtMost 55 = .ok (.ireturn, 1) := by decide +kernel
theorem dX2_bestAsked_0 : decode cX2_bestAsked 0 = .ok (.aload_n 0, 1) := by decide +kernel
theorem dX2_bestAsked_1 : decode cX2_bestAsked 1 = .ok (.invokevirtual 65, 3) := by decide +kernel
theorem dX2_bestAsked_4 : decode cX2_bestAsked 4 = .ok (.ifCond .ne 6, 3) := by decide +kernel
theorem dX2_bestAsked_7 : decode cX2_bestAsked 7 = .ok (.bipush (-2), 2) := by decide +kernel
theorem dX2_bestAsked_9 : decode cX2_bestAsked 9 = .ok (.ireturn, 1) := by decide +kernel
theorem dX2_bestAsked_10 : decode cX2_bestAsked 10 = .ok (.bipush (-2), 2) := by decide +kernel
theorem dX2_bestAsked_12 : decode cX2_bestAsked 12 = .ok (.istore_n 1, 1) := by decide +kernel
theorem dX2_bestAsked_13 : decode cX2_bestAsked 13 = .ok (.iconst 0, 1) := by decide +kernel
theorem dX2_bestAsked_14 : decode cX2_bestAsked 14 = .ok (.istore_n 2, 1) := by decide +kernel
theorem dX2_bestAsked_15 : decode cX2_bestAsked 15 = .ok (.iconst 0, 1) := by decide +kernel
theorem dX2_bestAsked_16 : decode cX2_bestAsked 16 = .ok (.istore_n 3, 1) := by decide +kernel
theorem dX2_bestAsked_17 : decode cX2_bestAsked 17 = .ok (.iload_n 3, 1) := by decide +kernel
theorem dX2_bestAsked_18 : decode cX2_bestAsked 18 = .ok (.aload_n 0, 1) := by decide +kernel
theorem dX2_bestAsked_19 : decode cX2_bestAsked 19 = .ok (.getfield 27, 3) := by decide +kernel
theorem dX2_bestAsked_22 : decode cX2_bestAsked 22 = .ok (.if_icmp .ge 33, 3) := by decide +kernel
theorem dX2_bestAsked_25 : decode cX2_bestAsked 25 = .ok (.aload_n 0, 1) := by decide +kernel
theorem dX2_bestAsked_26 : decode cX2_bestAsked 26 = .ok (.iload_n 3, 1) := by decide +kernel
theorem dX2_bestAsked_27 : decode cX2_bestAsked 27 = .ok (.invokevirtual 71, 3) := by decide +kernel
theorem dX2_bestAsked_30 : decode cX2_bestAsked 30 = .ok (.istore 4, 2) := by decide +kernel
theorem dX2_bestAsked_32 : decode cX2_bestAsked 32 = .ok (.iload_n 1, 1) := by decide +kernel
theorem dX2_bestAsked_33 : decode cX2_bestAsked 33 = .ok (.bipush (-2), 2) := by decide +kernel
theorem dX2_bestAsked_35 : decode cX2_bestAsked 35 = .ok (.if_icmp .eq 9, 3) := by decide +kernel
theorem dX2_bestAsked_38 : decode cX2_bestAsked 38 = .ok (.iload 4, 2) := by decide +kernel
theorem dX2_bestAsked_40 : decode cX2_bestAsked 40 = .ok (.iload_n 2, 1) := by decide +kernel
theorem dX2_bestAsked_41 : decode cX2_bestAsked 41 = .ok (.if_icmp .ge 8, 3) := by decide +kernel
theorem dX2_bestAsked_44 : decode cX2_bestAsked 44 = .ok (.iload 4, 2) := by decide +kernel
theorem dX2_bestAsked_46 : decode cX2_bestAsked 46 = .ok (.istore_n 2, 1) := by decide +kernel
theorem dX2_bestAsked_47 : decode cX2_bestAsked 47 = .ok (.iload_n 3, 1) := by decide +kernel
theorem dX2_bestAsked_48 : decode cX2_bestAsked 48 = .ok (.istore_n 1, 1) := by decide +kernel
theorem dX2_bestAsked_49 : decode cX2_bestAsked 49 = .ok (.iinc 3 1, 3) := by decide +kernel
theorem dX2_bestAsked_52 : decode cX2_bestAsked 52 = .ok (.goto (-35), 3) := by decide +kernel
theorem dX2_bestAsked_55 : decode cX2_bestAsked 55 = .ok (.iload_n 1, 1) := by decide +kernel
theorem dX2_bestAsked_56 : decode cX2_bestAsked 56 = .ok (.ireturn, 1) := by decide +kernel
theorem dX3_init_0 : decode cX3_init 0 = .ok (.aload_n 0, 1) := by decide +kernel
theorem dX3_init_1 : decode cX3_init 1 = .ok (.invokespecial 3, 3) := by decide +kernel
theorem dX3_init_4 : decode cX3_init 4 = .ok (.aload_n 0, 1) := by decide +kernel
theorem dX3_init_5 : decode cX3_init 5 = .ok (.bipush 14, 2) := by decide +kernel
theorem dX3_init_7 : decode cX3_init 7 = .ok (.newarray .long, 2) := by decide +kernel
theorem dX3_init_9 : decode cX3_init 9 = .ok (.putfield 11, 3) := by decide +kernel
theorem dX3_init_12 : decode cX3_init 12 = .ok (.aload_n 0, 1) := by decide +kernel
theorem dX3_init_13 : decode cX3_init 13 = .ok (.bipush 14, 2) := by decide +kernel
theorem dX3_init_15 : decode cX3_init 15 = .ok (.newarray .int, 2) := by decide +kernel
theorem dX3_init_17 : decode cX3_init 17 = .ok (.putfield 15, 3) := by decide +kernel
theorem dX3_init_20 : decode cX3_init 20 = .ok (.aload_n 0, 1) := by decide +kernel
theorem dX3_init_21 : decode cX3_init 21 = .ok (.bipush 14, 2) := by decide +kernel
theorem dX3_init_23 : decode cX3_init 23 = .ok (.newarray .int, 2) := by decide +kernel
theorem dX3_init_25 : decode cX3_init 25 = .ok (.putfield 19, 3) := by decide +kernel
theorem dX3_init_28 : decode cX3_init 28 = .ok (.return_, 1) := by decide +kernel
theorem dX3_clear_0 : decode cX3_clear 0 = .ok (.aload_n 0, 1) := by decide +kernel
theorem dX3_clear_1 : decode cX3_clear 1 = .ok (.iconst 0, 1) := by decide +kernel
theorem dX3_clear_2 : decode cX3_clear 2 = .ok (.putfield 22, 3) := by decide +kernel
theorem dX3_clear_5 : decode cX3_clear 5 = .ok (.return_, 1) := by decide +kernel
theorem dX3_add_0 : decode cX3_add 0 = .ok (.aload_n 0, 1) := by decide +kernel
theorem dX3_add_1 : decode cX3_add 1 = .ok (.getfield 22, 3) := by decide +kernel
theorem dX3_add_4 : decode cX3_add 4 = .ok (.bipush 14, 2) := by decide +kernel
theorem dX3_add_6 : decode cX3_add 6 = .ok (.if_icmp .ge 44, 3) := by decide +kernel
theorem dX3_add_9 : decode cX3_add 9 = .ok (.aload_n 0, 1) := by decide +kernel
theorem dX3_add_10 : decode cX3_add 10 = .ok (.getfield 11, 3) := by decide +kernel
theorem dX3_add_13 : decode cX3_add 13 = .ok (.aload_n 0, 1) := by decide +kernel
theorem dX3_add_14 : decode cX3_add 14 = .ok (.getfield 22, 3) := by decide +kernel
theorem dX3_add_17 : decode cX3_add 17 = .ok (.lload_n 1, 1) := by decide +kernel
theorem dX3_add_18 : decode cX3_add 18 = .ok (.lastore, 1) := by decide +kernel
theorem dX3_add_19 : decode cX3_add 19 = .ok (.aload_n 0, 1) := by decide +kernel
theorem dX3_add_20 : decode cX3_add 20 = .ok (.getfield 15, 3) := by decide +kernel
theorem dX3_add_23 : decode cX3_add 23 = .ok (.aload_n 0, 1) := by decide +kernel
theorem dX3_add_24 : decode cX3_add 24 = .ok (.getfield 22, 3) := by decide +kernel
theorem dX3_add_27 : decode cX3_add 27 = .ok (.iload_n 3, 1) := by decide +kernel
theorem dX3_add_28 : decode cX3_add 28 = .ok (.iastore, 1) := by decide +kernel
theorem dX3_add_29 : decode cX3_add 29 = .ok (.aload_n 0, 1) := by decide +kernel
theorem dX3_add_30 : decode cX3_add 30 = .ok (.getfield 19, 3) := by decide +kernel
theorem dX3_add_33 : decode cX3_add 33 = .ok (.aload_n 0, 1) := by decide +kernel
theorem dX3_add_34 : decode cX3_add 34 = .ok (.getfield 22, 3) := by decide +kernel
theorem dX3_add_37 : decode cX3_add 37 = .ok (.iload 4, 2) := by decide +kernel
theorem dX3_add_39 : decode cX3_add 39 = .ok (.iastore, 1) := by decide +kernel
theorem dX3_add_40 : decode cX3_add 40 = .ok (.aload_n 0, 1) := by decide +kernel
theorem dX3_add_41 : decode cX3_add 41 = .ok (.dup, 1) := by decide +kernel
theorem dX3_add_42 : decode cX3_add 42 = .ok (.getfield 22, 3) := by decide +kernel
theorem dX3_add_45 : decode cX3_add 45 = .ok (.iconst 1, 1) := by decide +kernel
theorem dX3_add_46 : decode cX3_add 46 = .ok (.iadd, 1) := by decide +kernel
theorem dX3_add_47 : decode cX3_add 47 = .ok (.putfield 22, 3) := by decide +kernel
theorem dX3_add_50 : decode cX3_add 50 = .ok (.return_, 1) := by decide +kernel
theorem dX3_isTold_0 : decode cX3_isTold 0 = .ok (.iconst 0, 1) := by decide +kernel
theorem dX3_isTold_1 : decode cX3_isTold 1 = .ok (.istore_n 3, 1) := by decide +kernel
theorem dX3_isTold_2 : decode cX3_isTold 2 = .ok (.iload_n 3, 1) := by decide +kernel
theorem dX3_isTold_3 : decode cX3_isTold 3 = .ok (.aload_n 0, 1) := by decide +kernel
theorem dX3_isTold_4 : decode cX3_isTold 4 = .ok (.getfield 22, 3) := by decide +kernel
theorem dX3_isTold_7 : decode cX3_isTold 7 = .ok (.if_icmp .ge 22, 3) := by decide +kernel
theorem dX3_isTold_10 : decode cX3_isTold 10 = .ok (.aload_n 0, 1) := by decide +kernel
theorem dX3_isTold_11 : decode cX3_isTold 11 = .ok (.getfield 11, 3) := by decide +kernel
theorem dX3_isTold_14 : decode cX3_isTold 14 = .ok (.iload_n 3, 1) := by decide +kernel
theorem dX3_isTold_15 : decode cX3_isTold 15 = .ok (.laload, 1) := by decide +kernel
theorem dX3_isTold_16 : decode cX3_isTold 16 = .ok (.lload_n 1, 1) := by decide +kernel
theorem dX3_isTold_17 : decode cX3_isTold 17 = .ok (.lcmp, 1) := by decide +kernel
theorem dX3_isTold_18 : decode cX3_isTold 18 = .ok (.ifCond .ne 5, 3) := by decide +kernel
theorem dX3_isTold_21 : decode cX3_isTold 21 = .ok (.iconst 1, 1) := by decide +kernel
theorem dX3_isTold_22 : decode cX3_isTold 22 = .ok (.ireturn, 1) := by decide +kernel
theorem dX3_isTold_23 : decode cX3_isTold 23 = .ok (.iinc 3 1, 3) := by decide +kernel
theorem dX3_isTold_26 : decode cX3_isTold 26 = .ok (.goto (-24), 3) := by decide +kernel
theorem dX3_isTold_29 : decode cX3_isTold 29 = .ok (.iconst 0, 1) := by decide +kernel
theorem dX3_isTold_30 : decode cX3_isTold 30 = .ok (.ireturn, 1) := by decide +kernel
theorem dX3_numberOf_0 : decode cX3_numberOf 0 = .ok (.iconst 0, 1) := by decide +kernel
theorem dX3_numberOf_1 : decode cX3_numberOf 1 = .ok (.istore 4, 2) := by decide +kernel
theorem dX3_numberOf_3 : decode cX3_numberOf 3 = .ok (.iload 4, 2) := by decide +kernel
theorem dX3_numberOf_5 : decode cX3_numberOf 5 = .ok (.aload_n 0, 1) := by decide +kernel
theorem dX3_numberOf_6 : decode cX3_numberOf 6 = .ok (.getfield 22, 3) := by decide +kernel
theorem dX3_numberOf_9 : decode cX3_numberOf 9 = .ok (.if_icmp .ge 40, 3) := by decide +kernel
theorem dX3_numberOf_12 : decode cX3_numberOf 12 = .ok (.aload_n 0, 1) := by decide +kernel
theorem dX3_numberOf_13 : decode cX3_numberOf 13 = .ok (.getfield 11, 3) := by decide +kernel
theorem dX3_numberOf_16 : decode cX3_numberOf 16 = .ok (.iload 4, 2) := by decide +kernel
theorem dX3_numberOf_18 : decode cX3_numberOf 18 = .ok (.laload, 1) := by decide +kernel
theorem dX3_numberOf_19 : decode cX3_numberOf 19 = .ok (.lload_n 1, 1) := by decide +kernel
theorem dX3_numberOf_20 : decode cX3_numberOf 20 = .ok (.lcmp, 1) := by decide +kernel
theorem dX3_numberOf_21 : decode cX3_numberOf 21 = .ok (.ifCond .ne 22, 3) := by decide +kernel
theorem dX3_numberOf_24 : decode cX3_numberOf 24 = .ok (.aload_n 0, 1) := by decide +kernel
theorem dX3_numberOf_25 : decode cX3_numberOf 25 = .ok (.getfield 15, 3) := by decide +kernel
theorem dX3_numberOf_28 : decode cX3_numberOf 28 = .ok (.iload 4, 2) := by decide +kernel
theorem dX3_numberOf_30 : decode cX3_numberOf 30 = .ok (.iaload, 1) := by decide +kernel
theorem dX3_numberOf_31 : decode cX3_numberOf 31 = .ok (.iload_n 3, 1) := by decide +kernel
theorem dX3_numberOf_32 : decode cX3_numberOf 32 = .ok (.if_icmp .ne 11, 3) := by decide +kernel
theorem dX3_numberOf_35 : decode cX3_numberOf 35 = .ok (.aload_n 0, 1) := by decide +kernel
theorem dX3_numberOf_36 : decode cX3_numberOf 36 = .ok (.getfield 19, 3) := by decide +kernel
theorem dX3_numberOf_39 : decode cX3_numberOf 39 = .ok (.iload 4, 2) := by decide +kernel
theorem dX3_numberOf_41 : decode cX3_numberOf 41 = .ok (.iaload, 1) := by decide +kernel
theorem dX3_numberOf_42 : decode cX3_numberOf 42 = .ok (.ireturn, 1) := by decide +kernel
theorem dX3_numberOf_43 : decode cX3_numberOf 43 = .ok (.iinc 4 1, 3) := by decide +kernel
theorem dX3_numberOf_46 : decode cX3_numberOf 46 = .ok (.goto (-43), 3) := by decide +kernel
theorem dX3_numberOf_49 : decode cX3_numberOf 49 = .ok (.iconst (-1), 1) := by decide +kernel
theorem dX3_numberOf_50 : decode cX3_numberOf 50 = .ok (.ireturn, 1) := by decide +kernel
theorem dX4_init_0 : decode cX4_init 0 = .ok (.aload_n 0, 1) := by decide +kernel
theorem dX4_init_1 : decode cX4_init 1 = .ok (.invokespecial 1, 3) := by decide +kernel
theorem dX4_init_4 : decode cX4_init 4 = .ok (.aload_n 0, 1) := by decide +kernel
theorem dX4_init_5 : decode cX4_init 5 = .ok (.sipush 816, 3) := by decide +kernel
theorem dX4_init_8 : decode cX4_init 8 = .ok (.newarray .int, 2) := by decide +kernel
theorem dX4_init_10 : decode cX4_init 10 = .ok (.putfield 11, 3) := by decide +kernel
theorem dX4_init_13 : decode cX4_init 13 = .ok (.aload_n 0, 1) := by decide +kernel
theorem dX4_init_14 : decode cX4_init 14 = .ok (.sipush 153, 3) := by decide +kernel
theorem dX4_init_17 : decode cX4_init 17 = .ok (.newarray .int, 2) := by decide +kernel
theorem dX4_init_19 : decode cX4_init 19 = .ok (.putfield 15, 3) := by decide +kernel
theorem dX4_init_22 : decode cX4_init 22 = .ok (.return_, 1) := by decide +kernel
theorem dX4_forget_0 : decode cX4_forget 0 = .ok (.aload_n 0, 1) := by decide +kernel
theorem dX4_forget_1 : decode cX4_forget 1 = .ok (.iconst 0, 1) := by decide +kernel
theorem dX4_forget_2 : decode cX4_forget 2 = .ok (.putfield 18, 3) := by decide +kernel
theorem dX4_forget_5 : decode cX4_forget 5 = .ok (.aload_n 0, 1) := by decide +kernel
theorem dX4_forget_6 : decode cX4_forget 6 = .ok (.iconst 0, 1) := by decide +kernel
theorem dX4_forget_7 : decode cX4_forget 7 = .ok (.putfield 22, 3) := by decide +kernel
theorem dX4_forget_10 : decode cX4_forget 10 = .ok (.return_, 1) := by decide +kernel
theorem dX4_keep_0 : decode cX4_keep 0 = .ok (.aload_n 1, 1) := by decide +kernel
theorem dX4_keep_1 : decode cX4_keep 1 = .ok (.aload_n 0, 1) := by decide +kernel
theorem dX4_keep_2 : decode cX4_keep 2 = .ok (.getfield 11, 3) := by decide +kernel
theorem dX4_keep_5 : decode cX4_keep 5 = .ok (.aload_n 0, 1) := by decide +kernel
theorem dX4_keep_6 : decode cX4_keep 6 = .ok (.getfield 25, 3) := by decide +kernel
theorem dX4_keep_9 : decode cX4_keep 9 = .ok (.invokevirtual 28, 3) := by decide +kernel
theorem dX4_keep_12 : decode cX4_keep 12 = .ok (.aload_n 0, 1) := by decide +kernel
theorem dX4_keep_13 : decode cX4_keep 13 = .ok (.aload_n 0, 1) := by decide +kernel
theorem dX4_keep_14 : decode cX4_keep 14 = .ok (.getfield 25, 3) := by decide +kernel
theorem dX4_keep_17 : decode cX4_keep 17 = .ok (.iconst 1, 1) := by decide +kernel
theorem dX4_keep_18 : decode cX4_keep 18 = .ok (.iadd, 1) := by decide +kernel
theorem dX4_keep_19 : decode cX4_keep 19 = .ok (.bipush 16, 2) := by decide +kernel
theorem dX4_keep_21 : decode cX4_keep 21 = .ok (.irem, 1) := by decide +kernel
theorem dX4_keep_22 : decode cX4_keep 22 = .ok (.putfield 25, 3) := by decide +kernel
theorem dX4_keep_25 : decode cX4_keep 25 = .ok (.aload_n 0, 1) := by decide +kernel
theorem dX4_keep_26 : decode cX4_keep 26 = .ok (.aload_n 0, 1) := by decide +kernel
theorem dX4_keep_27 : decode cX4_keep 27 = .ok (.getfield 18, 3) := by decide +kernel
theorem dX4_keep_30 : decode cX4_keep 30 = .ok (.iconst 1, 1) := by decide +kernel
theorem dX4_keep_31 : decode cX4_keep 31 = .ok (.iadd, 1) := by decide +kernel
theorem dX4_keep_32 : decode cX4_keep 32 = .ok (.bipush 16, 2) := by decide +kernel
theorem dX4_keep_34 : decode cX4_keep 34 = .ok (.invokestatic 32, 3) := by decide +kernel
theorem dX4_keep_37 : decode cX4_keep 37 = .ok (.putfield 18, 3) := by decide +kernel
theorem dX4_keep_40 : decode cX4_keep 40 = .ok (.return_, 1) := by decide +kernel
theorem dX4_takeBack_0 : decode cX4_takeBack 0 = .ok (.aload_n 0, 1) := by decide +kernel
theorem dX4_takeBack_1 : decode cX4_takeBack 1 = .ok (.getfield 18, 3) := by decide +kernel
theorem dX4_takeBack_4 : decode cX4_takeBack 4 = .ok (.ifCond .le 41, 3) := by decide +kernel
theorem dX4_takeBack_7 : decode cX4_takeBack 7 = .ok (.aload_n 0, 1) := by decide +kernel
theorem dX4_takeBack_8 : decode cX4_takeBack 8 = .ok (.aload_n 0, 1) := by decide +kernel
theorem dX4_takeBack_9 : decode cX4_takeBack 9 = .ok (.getfield 25, 3) := by decide +kernel
theorem dX4_takeBack_12 : decode cX4_takeBack 12 = .ok (.bipush 16, 2) := by decide +kernel
theorem dX4_takeBack_14 : decode cX4_takeBack 14 = .ok (.iadd, 1) := by decide +kernel
theorem dX4_takeBack_15 : decode cX4_takeBack 15 = .ok (.iconst 1, 1) := by decide +kernel
theorem dX4_takeBack_16 : decode cX4_takeBack 16 = .ok (.isub, 1) := by decide +kernel
theorem dX4_takeBack_17 : decode cX4_takeBack 17 = .ok (.bipush 16, 2) := by decide +kernel
theorem dX4_takeBack_19 : decode cX4_takeBack 19 = .ok (.irem, 1) := by decide +kernel
theorem dX4_takeBack_20 : decode cX4_takeBack 20 = .ok (.putfield 25, 3) := by decide +kernel
theorem dX4_takeBack_23 : decode cX4_takeBack 23 = .ok (.aload_n 0, 1) := by decide +kernel
theorem dX4_takeBack_24 : decode cX4_takeBack 24 = .ok (.dup, 1) := by decide +kernel
theorem dX4_takeBack_25 : decode cX4_takeBack 25 = .ok (.getfield 18, 3) := by decide +kernel
theorem dX4_takeBack_28 : decode cX4_takeBack 28 = .ok (.iconst 1, 1) := by decide +kernel
theorem dX4_takeBack_29 : decode cX4_takeBack 29 = .ok (.isub, 1) := by decide +kernel
theorem dX4_takeBack_30 : decode cX4_takeBack 30 = .ok (.putfield 18, 3) := by decide +kernel
theorem dX4_takeBack_33 : decode cX4_takeBack 33 = .ok (.aload_n 1, 1) := by decide +kernel
theorem dX4_takeBack_34 : decode cX4_takeBack 34 = .ok (.aload_n 0, 1) := by decide +kernel
theorem dX4_takeBack_35 : decode cX4_takeBack 35 = .ok (.getfield 11, 3) := by decide +kernel
theorem dX4_takeBack_38 : decode cX4_takeBack 38 = .ok (.aload_n 0, 1) := by decide +kernel
theorem dX4_takeBack_39 : decode cX4_takeBack 39 = .ok (.getfield 25, 3) := by decide +kernel
theorem dX4_takeBack_42 : decode cX4_takeBack 42 = .ok (.invokevirtual 38, 3) := by decide +kernel
theorem dX4_takeBack_45 : decode cX4_takeBack 45 = .ok (.return_, 1) := by decide +kernel
theorem dX4_takeImage_0 : decode cX4_takeImage 0 = .ok (.aload_n 0, 1) := by decide +kernel
theorem dX4_takeImage_1 : decode cX4_takeImage 1 = .ok (.getfield 22, 3) := by decide +kernel
theorem dX4_takeImage_4 : decode cX4_takeImage 4 = .ok (.iconst 3, 1) := by decide +kernel
theorem dX4_takeImage_5 : decode cX4_takeImage 5 = .ok (.if_icmp .ge 25, 3) := by decide +kernel
theorem dX4_takeImage_8 : decode cX4_takeImage 8 = .ok (.aload_n 1, 1) := by decide +kernel
theorem dX4_takeImage_9 : decode cX4_takeImage 9 = .ok (.aload_n 0, 1) := by decide +kernel
theorem dX4_takeImage_10 : decode cX4_takeImage 10 = .ok (.getfield 15, 3) := by decide +kernel
theorem dX4_takeImage_13 : decode cX4_takeImage 13 = .ok (.aload_n 0, 1) := by decide +kernel
theorem dX4_takeImage_14 : decode cX4_takeImage 14 = .ok (.getfield 22, 3) := by decide +kernel
theorem dX4_takeImage_17 : decode cX4_takeImage 17 = .ok (.invokevirtual 28, 3) := by decide +kernel
theorem dX4_takeImage_20 : decode cX4_takeImage 20 = .ok (.aload_n 0, 1) := by decide +kernel
theorem dX4_takeImage_21 : decode cX4_takeImage 21 = .ok (.dup, 1) := by decide +kernel
theorem dX4_takeImage_22 : decode cX4_takeImage 22 = .ok (.getfield 22, 3) := by decide +kernel
theorem dX4_takeImage_25 : decode cX4_takeImage 25 = .ok (.iconst 1, 1) := by decide +kernel
theorem dX4_takeImage_26 : decode cX4_takeImage 26 = .ok (.iadd, 1) := by decide +kernel
theorem dX4_takeImage_27 : decode cX4_takeImage 27 = .ok (.putfield 22, 3) := by decide +kernel
theorem dX4_takeImage_30 : decode cX4_takeImage 30 = .ok (.return_, 1) := by decide +kernel
theorem dX4_goBack_0 : decode cX4_goBack 0 = .ok (.iload_n 2, 1) := by decide +kernel
theorem dX4_goBack_1 : decode cX4_goBack 1 = .ok (.ifCond .lt 25, 3) := by decide +kernel
theorem dX4_goBack_4 : decode cX4_goBack 4 = .ok (.iload_n 2, 1) := by decide +kernel
theorem dX4_goBack_5 : decode cX4_goBack 5 = .ok (.aload_n 0, 1) := by decide +kernel
theorem dX4_goBack_6 : decode cX4_goBack 6 = .ok (.getfield 22, 3) := by decide +kernel
theorem dX4_goBack_9 : decode cX4_goBack 9 = .ok (.if_icmp .ge 17, 3) := by decide +kernel
theorem dX4_goBack_12 : decode cX4_goBack 12 = .ok (.aload_n 1, 1) := by decide +kernel
theorem dX4_goBack_13 : decode cX4_goBack 13 = .ok (.aload_n 0, 1) := by decide +kernel
theorem dX4_goBack_14 : decode cX4_goBack 14 = .ok (.getfield 15, 3) := by decide +kernel
theorem dX4_goBack_17 : decode cX4_goBack 17 = .ok (.iload_n 2, 1) := by decide +kernel
theorem dX4_goBack_18 : decode cX4_goBack 18 = .ok (.invokevirtual 38, 3) := by decide +kernel
theorem dX4_goBack_21 : decode cX4_goBack 21 = .ok (.aload_n 0, 1) := by decide +kernel
theorem dX4_goBack_22 : decode cX4_goBack 22 = .ok (.iconst 0, 1) := by decide +kernel
theorem dX4_goBack_23 : decode cX4_goBack 23 = .ok (.putfield 18, 3) := by decide +kernel
theorem dX4_goBack_26 : decode cX4_goBack 26 = .ok (.return_, 1) := by decide +kernel
theorem dX5_init_0 : decode cX5_init 0 = .ok (.aload_n 0, 1) := by decide +kernel
theorem dX5_init_1 : decode cX5_init 1 = .ok (.invokespecial 3, 3) := by decide +kernel
theorem dX5_init_4 : decode cX5_init 4 = .ok (.aload_n 0, 1) := by decide +kernel
theorem dX5_init_5 : decode cX5_init 5 = .ok (.new 9, 3) := by decide +kernel
theorem dX5_init_8 : decode cX5_init 8 = .ok (.dup, 1) := by decide +kernel
theorem dX5_init_9 : decode cX5_init 9 = .ok (.invokespecial 11, 3) := by decide +kernel
theorem dX5_init_12 : decode cX5_init 12 = .ok (.putfield 12, 3) := by decide +kernel
theorem dX5_init_15 : decode cX5_init 15 = .ok (.aload_n 0, 1) := by decide +kernel
theorem dX5_init_16 : decode cX5_init 16 = .ok (.bipush 6, 2) := by decide +kernel
theorem dX5_init_18 : decode cX5_init 18 = .ok (.newarray .int, 2) := by decide +kernel
theorem dX5_init_20 : decode cX5_init 20 = .ok (.putfield 18, 3) := by decide +kernel
theorem dX5_init_23 : decode cX5_init 23 = .ok (.aload_n 0, 1) := by decide +kernel
theorem dX5_init_24 : decode cX5_init 24 = .ok (.new 22, 3) := by decide +kernel
theorem dX5_init_27 : decode cX5_init 27 = .ok (.dup, 1) := by decide +kernel
theorem dX5_init_28 : decode cX5_init 28 = .ok (.invokespecial 24, 3) := by decide +kernel
theorem dX5_init_31 : decode cX5_init 31 = .ok (.putfield 25, 3) := by decide +kernel
theorem dX5_init_34 : decode cX5_init 34 = .ok (.aload_n 0, 1) := by decide +kernel
theorem dX5_init_35 : decode cX5_init 35 = .ok (.new 29, 3) := by decide +kernel
theorem dX5_init_38 : decode cX5_init 38 = .ok (.dup, 1) := by decide +kernel
theorem dX5_init_39 : decode cX5_init 39 = .ok (.invokespecial 31, 3) := by decide +kernel
theorem dX5_init_42 : decode cX5_init 42 = .ok (.putfield 32, 3) := by decide +kernel
theorem dX5_init_45 : decode cX5_init 45 = .ok (.return_, 1) := by decide +kernel
theorem dX5_read_0 : decode cX5_read 0 = .ok (.aload_n 0, 1) := by decide +kernel
theorem dX5_read_1 : decode cX5_read 1 = .ok (.iconst 0, 1) := by decide +kernel
theorem dX5_read_2 : decode cX5_read 2 = .ok (.putfield 36, 3) := by decide +kernel
theorem dX5_read_5 : decode cX5_read 5 = .ok (.aload_n 0, 1) := by decide +kernel
theorem dX5_read_6 : decode cX5_read 6 = .ok (.iconst (-1), 1) := by decide +kernel
theorem dX5_read_7 : decode cX5_read 7 = .ok (.putfield 40, 3) := by decide +kernel
theorem dX5_read_10 : decode cX5_read 10 = .ok (.aload_n 0, 1) := by decide +kernel
theorem dX5_read_11 : decode cX5_read 11 = .ok (.getfield 32, 3) := by decide +kernel
theorem dX5_read_14 : decode cX5_read 14 = .ok (.invokevirtual 43, 3) := by decide +kernel
theorem dX5_read_17 : decode cX5_read 17 = .ok (.aload_n 0, 1) := by decide +kernel
theorem dX5_read_18 : decode cX5_read 18 = .ok (.getfield 12, 3) := by decide +kernel
theorem dX5_read_21 : decode cX5_read 21 = .ok (.invokevirtual 46, 3) := by decide +kernel
theorem dX5_read_24 : decode cX5_read 24 = .ok (.aload_n 0, 1) := by decide +kernel
theorem dX5_read_25 : decode cX5_read 25 = .ok (.getfield 25, 3) := by decide +kernel
theorem dX5_read_28 : decode cX5_read 28 = .ok (.iload_n 1, 1) := by decide +kernel
theorem dX5_read_29 : decode cX5_read 29 = .ok (.invokevirtual 47, 3) := by decide +kernel
theorem dX5_read_32 : decode cX5_read 32 = .ok (.iconst 1, 1) := by decide +kernel
theorem dX5_read_33 : decode cX5_read 33 = .ok (.istore_n 2, 1) := by decide +kernel
theorem dX5_read_34 : decode cX5_read 34 = .ok (.iconst 0, 1) := by decide +kernel
theorem dX5_read_35 : decode cX5_read 35 = .ok (.istore_n 3, 1) := by decide +kernel
theorem dX5_read_36 : decode cX5_read 36 = .ok (.iload_n 3, 1) := by decide +kernel
theorem dX5_read_37 : decode cX5_read 37 = .ok (.iload_n 1, 1) := by decide +kernel
theorem dX5_read_38 : decode cX5_read 38 = .ok (.if_icmp .gt 33, 3) := by decide +kernel
theorem dX5_read_41 : decode cX5_read 41 = .ok (.iload_n 2, 1) := by decide +kernel
theorem dX5_read_42 : decode cX5_read 42 = .ok (.ifCond .eq 29, 3) := by decide +kernel
theorem dX5_read_45 : decode cX5_read 45 = .ok (.aload_n 0, 1) := by decide +kernel
theorem dX5_read_46 : decode cX5_read 46 = .ok (.invokevirtual 51, 3) := by decide +kernel
theorem dX5_read_49 : decode cX5_read 49 = .ok (.ifCond .eq 14, 3) := by decide +kernel
theorem dX5_read_52 : decode cX5_read 52 = .ok (.aload_n 0, 1) := by decide +kernel
theorem dX5_read_53 : decode cX5_read 53 = .ok (.invokevirtual 55, 3) := by decide +kernel
theorem dX5_read_56 : decode cX5_read 56 = .ok (.ifCond .eq 7, 3) := by decide +kernel
theorem dX5_read_59 : decode cX5_read 59 = .ok (.iconst 1, 1) := by decide +kernel
theorem dX5_read_60 : decode cX5_read 60 = .ok (.goto 4, 3) := by decide +kernel
theorem dX5_read_63 : decode cX5_read 63 = .ok (.iconst 0, 1) := by decide +kernel
theorem dX5_read_64 : decode cX5_read 64 = .ok (.istore_n 2, 1) := by decide +kernel
theorem dX5_read_65 : decode cX5_read 65 = .ok (.iinc 3 1, 3) := by decide +kernel
theorem dX5_read_68 : decode cX5_read 68 = .ok (.goto (-32), 3) := by decide +kernel
theorem dX5_read_71 : decode cX5_read 71 = .ok (.aload_n 0, 1) := by decide +kernel
theorem dX5_read_72 : decode cX5_read 72 = .ok (.getfield 36, 3) := by decide +kernel
theorem dX5_read_75 : decode cX5_read 75 = .ok (.ifCond .ne 21, 3) := by decide +kernel
theorem dX5_read_78 : decode cX5_read 78 = .ok (.aload_n 0, 1) := by decide +kernel
theorem dX5_read_79 : decode cX5_read 79 = .ok (.getfield 32, 3) := by decide +kernel
theorem dX5_read_82 : decode cX5_read 82 = .ok (.iconst 1, 1) := by decide +kernel
theorem dX5_read_83 : decode cX5_read 83 = .ok (.invokevirtual 58, 3) := by decide +kernel
theorem dX5_read_86 : decode cX5_read 86 = .ok (.ifCond .ne 10, 3) := by decide +kernel
theorem dX5_read_89 : decode cX5_read 89 = .ok (.aload_n 0, 1) := by decide +kernel
theorem dX5_read_90 : decode cX5_read 90 = .ok (.bipush 6, 2) := by decide +kernel
theorem dX5_read_92 : decode cX5_read 92 = .ok (.invokevirtual 62, 3) := by decide +kernel
theorem dX5_read_95 : decode cX5_read 95 = .ok (.pop, 1) := by decide +kernel
theorem dX5_read_96 : decode cX5_read 96 = .ok (.return_, 1) := by decide +kernel
theorem dX5_fail_0 : decode cX5_fail 0 = .ok (.aload_n 0, 1) := by decide +kernel
theorem dX5_fail_1 : decode cX5_fail 1 = .ok (.iload_n 1, 1) := by decide +kernel
theorem dX5_fail_2 : decode cX5_fail 2 = .ok (.putfield 36, 3) := by decide +kernel
theorem dX5_fail_5 : decode cX5_fail 5 = .ok (.aload_n 0, 1) := by decide +kernel
theorem dX5_fail_6 : decode cX5_fail 6 = .ok (.aload_n 0, 1) := by decide +kernel
theorem dX5_fail_7 : decode cX5_fail 7 = .ok (.getfield 25, 3) := by decide +kernel
theorem dX5_fail_10 : decode cX5_fail 10 = .ok (.getfield 66, 3) := by decide +kernel
theorem dX5_fail_13 : decode cX5_fail 13 = .ok (.putfield 40, 3) := by decide +kernel
theorem dX5_fail_16 : decode cX5_fail 16 = .ok (.iconst 0, 1) := by decide +kernel
theorem dX5_fail_17 : decode cX5_fail 17 = .ok (.ireturn, 1) := by decide +kernel
theorem dX5_goesOn_0 : decode cX5_goesOn 0 = .ok (.aload_n 0, 1) := by decide +kernel
theorem dX5_goesOn_1 : decode cX5_goesOn 1 = .ok (.getfield 25, 3) := by decide +kernel
theorem dX5_goesOn_4 : decode cX5_goesOn 4 = .ok (.invokevirtual 69, 3) := by decide +kernel
theorem dX5_goesOn_7 : decode cX5_goesOn 7 = .ok (.aload_n 0, 1) := by decide +kernel
theorem dX5_goesOn_8 : decode cX5_goesOn 8 = .ok (.getfield 25, 3) := by decide +kernel
theorem dX5_goesOn_11 : decode cX5_goesOn 11 = .ok (.getfield 72, 3) := by decide +kernel
theorem dX5_goesOn_14 : decode cX5_goesOn 14 = .ok (.ifCond .ne 5, 3) := by decide +kernel
theorem dX5_goesOn_17 : decode cX5_goesOn 17 = .ok (.iconst 0, 1) := by decide +kernel
theorem dX5_goesOn_18 : decode cX5_goesOn 18 = .ok (.ireturn, 1) := by decide +kernel
theorem dX5_goesOn_19 : decode cX5_goesOn 19 = .ok (.aload_n 0, 1) := by decide +kernel
theorem dX5_goesOn_20 : decode cX5_goesOn 20 = .ok (.getfield 25, 3) := by decide +kernel
theorem dX5_goesOn_23 : decode cX5_goesOn 23 = .ok (.getfield 72, 3) := by decide +kernel
theorem dX5_goesOn_26 : decode cX5_goesOn 26 = .ok (.iconst 3, 1) := by decide +kernel
theorem dX5_goesOn_27 : decode cX5_goesOn 27 = .ok (.if_icmp .eq 11, 3) := by decide +kernel
theorem dX5_goesOn_30 : decode cX5_goesOn 30 = .ok (.aload_n 0, 1) := by decide +kernel
theorem dX5_goesOn_31 : decode cX5_goesOn 31 = .ok (.iconst 1, 1) := by decide +kernel
theorem dX5_goesOn_32 : decode cX5_goesOn 32 = .ok (.invokevirtual 62, 3) := by decide +kernel
theorem dX5_goesOn_35 : decode cX5_goesOn 35 = .ok (.ifCond .eq 7, 3) := by decide +kernel
theorem dX5_goesOn_38 : decode cX5_goesOn 38 = .ok (.iconst 1, 1) := by decide +kernel
theorem dX5_goesOn_39 : decode cX5_goesOn 39 = .ok (.goto 4, 3) := by decide +kernel
theorem dX5_goesOn_42 : decode cX5_goesOn 42 = .ok (.iconst 0, 1) := by decide +kernel
theorem dX5_goesOn_43 : decode cX5_goesOn 43 = .ok (.ireturn, 1) := by decide +kernel
theorem dX5_readLine_0 : decode cX5_readLine 0 = .ok (.aload_n 0, 1) := by decide +kernel
theorem dX5_readLine_1 : decode cX5_readLine 1 = .ok (.getfield 25, 3) := by decide +kernel
theorem dX5_readLine_4 : decode cX5_readLine 4 = .ok (.invokevirtual 69, 3) := by decide +kernel
theorem dX5_readLine_7 : decode cX5_readLine 7 = .ok (.aload_n 0, 1) := by decide +kernel
theorem dX5_readLine_8 : decode cX5_readLine 8 = .ok (.invokevirtual 75, 3) := by decide +kernel
theorem dX5_readLine_11 : decode cX5_readLine 11 = .ok (.istore_n 1, 1) := by decide +kernel
theorem dX5_readLine_12 : decode cX5_readLine 12 = .ok (.iload_n 1, 1) := by decide +kernel
theorem dX5_readLine_13 : decode cX5_readLine 13 = .ok (.ifCond .lt 11, 3) := by decide +kernel
theorem dX5_readLine_16 : decode cX5_readLine 16 = .ok (.iload_n 1, 1) := by decide +kernel
theorem dX5_readLine_17 : decode cX5_readLine 17 = .ok (.getstatic 79, 3) := by decide +kernel
theorem dX5_readLine_20 : decode cX5_readLine 20 = .ok (.arraylength, 1) := by decide +kernel
theorem dX5_readLine_21 : decode cX5_readLine 21 = .ok (.if_icmp .lt 9, 3) := by decide +kernel
theorem dX5_readLine_24 : decode cX5_readLine 24 = .ok (.aload_n 0, 1) := by decide +kernel
theorem dX5_readLine_25 : decode cX5_readLine 25 = .ok (.iconst 1, 1) := by decide +kernel
theorem dX5_readLine_26 : decode cX5_readLine 26 = .ok (.invokevirtual 62, 3) := by decide +kernel
theorem dX5_readLine_29 : decode cX5_readLine 29 = .ok (.ireturn, 1) := by decide +kernel
theorem dX5_readLine_30 : decode cX5_readLine 30 = .ok (.aload_n 0, 1) := by decide +kernel
theorem dX5_readLine_31 : decode cX5_readLine 31 = .ok (.getfield 32, 3) := by decide +kernel
theorem dX5_readLine_34 : decode cX5_readLine 34 = .ok (.iconst 0, 1) := by decide +kernel
theorem dX5_readLine_35 : decode cX5_readLine 35 = .ok (.invokevirtual 58, 3) := by decide +kernel
theorem dX5_readLine_38 : decode cX5_readLine 38 = .ok (.ifCond .le 7, 3) := by decide +kernel
theorem dX5_readLine_41 : decode cX5_readLine 41 = .ok (.iconst 1, 1) := by decide +kernel
theorem dX5_readLine_42 : decode cX5_readLine 42 = .ok (.goto 4, 3) := by decide +kernel
theorem dX5_readLine_45 : decode cX5_readLine 45 = .ok (.iconst 0, 1) := by decide +kernel
theorem dX5_readLine_46 : decode cX5_readLine 46 = .ok (.istore_n 2, 1) := by decide +kernel
theorem dX5_readLine_47 : decode cX5_readLine 47 = .ok (.iload_n 1, 1) := by decide +kernel
theorem dX5_readLine_48 : decode cX5_readLine 48 = .ok (.ifCond .ne 13, 3) := by decide +kernel
theorem dX5_readLine_51 : decode cX5_readLine 51 = .ok (.iload_n 2, 1) := by decide +kernel
theorem dX5_readLine_52 : decode cX5_readLine 52 = .ok (.ifCond .eq 9, 3) := by decide +kernel
theorem dX5_readLine_55 : decode cX5_readLine 55 = .ok (.aload_n 0, 1) := by decide +kernel
theorem dX5_readLine_56 : decode cX5_readLine 56 = .ok (.iconst 3, 1) := by decide +kernel
theorem dX5_readLine_57 : decode cX5_readLine 57 = .ok (.invokevirtual 62, 3) := by decide +kernel
theorem dX5_readLine_60 : decode cX5_readLine 60 = .ok (.ireturn, 1) := by decide +kernel
theorem dX5_readLine_61 : decode cX5_readLine 61 = .ok (.aload_n 0, 1) := by decide +kernel
theorem dX5_readLine_62 : decode cX5_readLine 62 = .ok (.getfield 32, 3) := by decide +kernel
theorem dX5_readLine_65 : decode cX5_readLine 65 = .ok (.iload_n 1, 1) := by decide +kernel
theorem dX5_readLine_66 : decode cX5_readLine 66 = .ok (.invokevirtual 58, 3) := by decide +kernel
theorem dX5_readLine_69 : decode cX5_readLine 69 = .ok (.getstatic 79, 3) := by decide +kernel
theorem dX5_readLine_72 : decode cX5_readLine 72 = .ok (.iload_n 1, 1) := by decide +kernel
theorem dX5_readLine_73 : decode cX5_readLine 73 = .ok (.iaload, 1) := by decide +kernel
theorem dX5_readLine_74 : decode cX5_readLine 74 = .ok (.if_icmp .lt 9, 3) := by decide +kernel
theorem dX5_readLine_77 : decode cX5_readLine 77 = .ok (.aload_n 0, 1) := by decide +kernel
theorem dX5_readLine_78 : decode cX5_readLine 78 = .ok (.iconst 5, 1) := by decide +kernel
theorem dX5_readLine_79 : decode cX5_readLine 79 = .ok (.invokevirtual 62, 3) := by decide +kernel
theorem dX5_readLine_82 : decode cX5_readLine 82 = .ok (.ireturn, 1) := by decide +kernel
theorem dX5_readLine_83 : decode cX5_readLine 83 = .ok (.iload_n 1, 1) := by decide +kernel
theorem dX5_readLine_84 : decode cX5_readLine 84 = .ok (.ifCond .eq 14, 3) := by decide +kernel
theorem dX5_readLine_87 : decode cX5_readLine 87 = .ok (.iload_n 2, 1) := by decide +kernel
theorem dX5_readLine_88 : decode cX5_readLine 88 = .ok (.ifCond .ne 10, 3) := by decide +kernel
theorem dX5_readLine_91 : decode cX5_readLine 91 = .ok (.aload_n 0, 1) := by decide +kernel
theorem dX5_readLine_92 : decode cX5_readLine 92 = .ok (.bipush 6, 2) := by decide +kernel
theorem dX5_readLine_94 : decode cX5_readLine 94 = .ok (.invokevirtual 62, 3) := by decide +kernel
theorem dX5_readLine_97 : decode cX5_readLine 97 = .ok (.ireturn, 1) := by decide +kernel
theorem dX5_readLine_98 : decode cX5_readLine 98 = .ok (.aload_n 0, 1) := by decide +kernel
theorem dX5_readLine_99 : decode cX5_readLine 99 = .ok (.invokevirtual 82, 3) := by decide +kernel
theorem dX5_readLine_102 : decode cX5_readLine 102 = .ok (.aload_n 0, 1) := by decide +kernel
theorem dX5_readLine_103 : decode cX5_readLine 103 = .ok (.iload_n 1, 1) := by decide +kernel
theorem dX5_readLine_104 : decode cX5_readLine 104 = .ok (.invokevirtual 85, 3) := by decide +kernel
theorem dX5_readLine_107 : decode cX5_readLine 107 = .ok (.ifCond .ne 5, 3) := by decide +kernel
theorem dX5_readLine_110 : decode cX5_readLine 110 = .ok (.iconst 0, 1) := by decide +kernel
theorem dX5_readLine_111 : decode cX5_readLine 111 = .ok (.ireturn, 1) := by decide +kernel
theorem dX5_readLine_112 : decode cX5_readLine 112 = .ok (.aload_n 0, 1) := by decide +kernel
theorem dX5_readLine_113 : decode cX5_readLine 113 = .ok (.getfield 32, 3) := by decide +kernel
theorem dX5_readLine_116 : decode cX5_readLine 116 = .ok (.iload_n 1, 1) := by decide +kernel
theorem dX5_readLine_117 : decode cX5_readLine 117 = .ok (.aload_n 0, 1) := by decide +kernel
theorem dX5_readLine_118 : decode cX5_readLine 118 = .ok (.getfield 18, 3) := by decide +kernel
theorem dX5_readLine_121 : decode cX5_readLine 121 = .ok (.invokevirtual 88, 3) := by decide +kernel
theorem dX5_readLine_124 : decode cX5_readLine 124 = .ok (.iconst 1, 1) := by decide +kernel
theorem dX5_readLine_125 : decode cX5_readLine 125 = .ok (.ireturn, 1) := by decide +kernel
theorem dX5_sortOfLine_0 : decode cX5_sortOfLine 0 = .ok (.aload_n 0, 1) := by decide +kernel
theorem dX5_sortOfLine_1 : decode cX5_sortOfLine 1 = .ok (.getfield 25, 3) := by decide +kernel
theorem dX5_sortOfLine_4 : decode cX5_sortOfLine 4 = .ok (.ldc 92, 2) := by decide +kernel
theorem dX5_sortOfLine_6 : decode cX5_sortOfLine 6 = .ok (.invokevirtual 94, 3) := by decide +kernel
theorem dX5_sortOfLine_9 : decode cX5_sortOfLine 9 = .ok (.ifCond .eq 5, 3) := by decide +kernel
theorem dX5_sortOfLine_12 : decode cX5_sortOfLine 12 = .ok (.iconst 0, 1) := by decide +kernel
theorem dX5_sortOfLine_13 : decode cX5_sortOfLine 13 = .ok (.ireturn, 1) := by decide +kernel
theorem dX5_sortOfLine_14 : decode cX5_sortOfLine 14 = .ok (.aload_n 0, 1) := by decide +kernel
theorem dX5_sortOfLine_15 : decode cX5_sortOfLine 15 = .ok (.getfield 25, 3) := by decide +kernel
theorem dX5_sortOfLine_18 : decode cX5_sortOfLine 18 = .ok (.ldc 98, 2) := by decide +kernel
theorem dX5_sortOfLine_20 : decode cX5_sortOfLine 20 = .ok (.invokevirtual 94, 3) := by decide +kernel
theorem dX5_sortOfLine_23 : decode cX5_sortOfLine 23 = .ok (.ifCond .eq 5, 3) := by decide +kernel
theorem dX5_sortOfLine_26 : decode cX5_sortOfLine 26 = .ok (.iconst 1, 1) := by decide +kernel
theorem dX5_sortOfLine_27 : decode cX5_sortOfLine 27 = .ok (.ireturn, 1) := by decide +kernel
theorem dX5_sortOfLine_28 : decode cX5_sortOfLine 28 = .ok (.aload_n 0, 1) := by decide +kernel
theorem dX5_sortOfLine_29 : decode cX5_sortOfLine 29 = .ok (.getfield 25, 3) := by decide +kernel
theorem dX5_sortOfLine_32 : decode cX5_sortOfLine 32 = .ok (.ldc 100, 2) := by decide +kernel
theorem dX5_sortOfLine_34 : decode cX5_sortOfLine 34 = .ok (.invokevirtual 94, 3) := by decide +kernel
theorem dX5_sortOfLine_37 : decode cX5_sortOfLine 37 = .ok (.ifCond .eq 5, 3) := by decide +kernel
theorem dX5_sortOfLine_40 : decode cX5_sortOfLine 40 = .ok (.iconst 2, 1) := by decide +kernel
theorem dX5_sortOfLine_41 : decode cX5_sortOfLine 41 = .ok (.ireturn, 1) := by decide +kernel
theorem dX5_sortOfLine_42 : decode cX5_sortOfLine 42 = .ok (.aload_n 0, 1) := by decide +kernel
theorem dX5_sortOfLine_43 : decode cX5_sortOfLine 43 = .ok (.getfield 25, 3) := by decide +kernel
theorem dX5_sortOfLine_46 : decode cX5_sortOfLine 46 = .ok (.ldc 102, 2) := by decide +kernel
theorem dX5_sortOfLine_48 : decode cX5_sortOfLine 48 = .ok (.invokevirtual 94, 3) := by decide +kernel
theorem dX5_sortOfLine_51 : decode cX5_sortOfLine 51 = .ok (.ifCond .eq 5, 3) := by decide +kernel
theorem dX5_sortOfLine_54 : decode cX5_sortOfLine 54 = .ok (.iconst 3, 1) := by decide +kernel
theorem dX5_sortOfLine_55 : decode cX5_sortOfLine 55 = .ok (.ireturn, 1) := by decide +kernel
theorem dX5_sortOfLine_56 : decode cX5_sortOfLine 56 = .ok (.aload_n 0, 1) := by decide +kernel
theorem dX5_sortOfLine_57 : decode cX5_sortOfLine 57 = .ok (.getfield 25, 3) := by decide +kernel
theorem dX5_sortOfLine_60 : decode cX5_sortOfLine 60 = .ok (.ldc 104, 2) := by decide +kernel
theorem dX5_sortOfLine_62 : decode cX5_sortOfLine 62 = .ok (.invokevirtual 94, 3) := by decide +kernel
theorem dX5_sortOfLine_65 : decode cX5_sortOfLine 65 = .ok (.ifCond .eq 5, 3) := by decide +kernel
theorem dX5_sortOfLine_68 : decode cX5_sortOfLine 68 = .ok (.iconst 4, 1) := by decide +kernel
theorem dX5_sortOfLine_69 : decode cX5_sortOfLine 69 = .ok (.ireturn, 1) := by decide +kernel
theorem dX5_sortOfLine_70 : decode cX5_sortOfLine 70 = .ok (.aload_n 0, 1) := by decide +kernel
theorem dX5_sortOfLine_71 : decode cX5_sortOfLine 71 = .ok (.getfield 25, 3) := by decide +kernel
theorem dX5_sortOfLine_74 : decode cX5_sortOfLine 74 = .ok (.ldc 106, 2) := by decide +kernel
theorem dX5_sortOfLine_76 : decode cX5_sortOfLine 76 = .ok (.invokevirtual 94, 3) := by decide +kernel
theorem dX5_sortOfLine_79 : decode cX5_sortOfLine 79 = .ok (.ifCond .eq 5, 3) := by decide +kernel
theorem dX5_sortOfLine_82 : decode cX5_sortOfLine 82 = .ok (.iconst 5, 1) := by decide +kernel
theorem dX5_sortOfLine_83 : decode cX5_sortOfLine 83 = .ok (.ireturn, 1) := by decide +kernel
theorem dX5_sortOfLine_84 : decode cX5_sortOfLine 84 = .ok (.aload_n 0, 1) := by decide +kernel
theorem dX5_sortOfLine_85 : decode cX5_sortOfLine 85 = .ok (.getfield 25, 3) := by decide +kernel
theorem dX5_sortOfLine_88 : decode cX5_sortOfLine 88 = .ok (.ldc 108, 2) := by decide +kernel
theorem dX5_sortOfLine_90 : decode cX5_sortOfLine 90 = .ok (.invokevirtual 94, 3) := by decide +kernel
theorem dX5_sortOfLine_93 : decode cX5_sortOfLine 93 = .ok (.ifCond .eq 6, 3) := by decide +kernel
theorem dX5_sortOfLine_96 : decode cX5_sortOfLine 96 = .ok (.bipush 6, 2) := by decide +kernel
theorem dX5_sortOfLine_98 : decode cX5_sortOfLine 98 = .ok (.ireturn, 1) := by decide +kernel
theorem dX5_sortOfLine_99 : decode cX5_sortOfLine 99 = .ok (.aload_n 0, 1) := by decide +kernel
theorem dX5_sortOfLine_100 : decode cX5_sortOfLine 100 = .ok (.getfield 25, 3) := by decide +kernel
theorem dX5_sortOfLine_103 : decode cX5_sortOfLine 103 = .ok (.ldc 110, 2) := by decide +kernel
theorem dX5_sortOfLine_105 : decode cX5_sortOfLine 105 = .ok (.invokevirtual 94, 3) := by decide +kernel
theorem dX5_sortOfLine_108 : decode cX5_sortOfLine 108 = .ok (.ifCond .eq 8, 3) := by decide +kernel
theorem dX5_sortOfLine_111 : decode cX5_sortOfLine 111 = .ok (.bipush 7, 2) := by decide +kernel
theorem dX5_sortOfLine_113 : decode cX5_sortOfLine 113 = .ok (.goto 4, 3) := by decide +kernel
theorem dX5_sortOfLine_116 : decode cX5_sortOfLine 116 = .ok (.iconst (-1), 1) := by decide +kernel
theorem dX5_sortOfLine_117 : decode cX5_sortOfLine 117 = .ok (.ireturn, 1) := by decide +kernel
theorem dX5_readBehind_0 : decode cX5_readBehind 0 = .ok (.iload_n 1, 1) := by decide +kernel
theorem dX5_readBehind_1 : decode cX5_readBehind 1 = .ok (.tableswitch 339 0 6 #[43, 87, 93, 175, 211, 251, 318], 43) := by decide +kernel
theorem dX5_readBehind_44 : decode cX5_readBehind 44 = .ok (.aload_n 0, 1) := by decide +kernel
theorem dX5_readBehind_45 : decode cX5_readBehind 45 = .ok (.ldc 112, 2) := by decide +kernel
theorem dX5_readBehind_47 : decode cX5_readBehind 47 = .ok (.invokevirtual 114, 3) := by decide +kernel
theorem dX5_readBehind_50 : decode cX5_readBehind 50 = .ok (.ifCond .eq 36, 3) := by decide +kernel
theorem dX5_readBehind_53 : decode cX5_readBehind 53 = .ok (.aload_n 0, 1) := by decide +kernel
theorem dX5_readBehind_54 : decode cX5_readBehind 54 = .ok (.iconst 0, 1) := by decide +kernel
theorem dX5_readBehind_55 : decode cX5_readBehind 55 = .ok (.bipush 100, 2) := by decide +kernel
theorem dX5_readBehind_57 : decode cX5_readBehind 57 = .ok (.invokevirtual 117, 3) := by decide +kernel
theorem dX5_readBehind_60 : decode cX5_readBehind 60 = .ok (.ifCond .eq 26, 3) := by decide +kernel
theorem dX5_readBehind_63 : decode cX5_readBehind 63 = .ok (.aload_n 0, 1) := by decide +kernel
theorem dX5_readBehind_64 : decode cX5_readBehind 64 = .ok (.ldc 121, 2) := by decide +kernel
theorem dX5_readBehind_66 : decode cX5_readBehind 66 = .ok (.invokevirtual 114, 3) := by decide +kernel
theorem dX5_readBehind_69 : decode cX5_readBehind 69 = .ok (.ifCond .eq 17, 3) := by decide +kernel
theorem dX5_readBehind_72 : decode cX5_readBehind 72 = .ok (.aload_n 0, 1) := by decide +kernel
theorem dX5_readBehind_73 : decode cX5_readBehind 73 = .ok (.iconst 0, 1) := by decide +kernel
theorem dX5_readBehind_74 : decode cX5_readBehind 74 = .ok (.bipush 100, 2) := by decide +kernel
theorem dX5_readBehind_76 : decode cX5_readBehind 76 = .ok (.invokevirtual 117, 3) := by decide +kernel
theorem dX5_readBehind_79 : decode cX5_readBehind 79 = .ok (.ifCond .eq 7, 3) := by decide +kernel
theorem dX5_readBehind_82 : decode cX5_readBehind 82 = .ok (.iconst 1, 1) := by decide +kernel
theorem dX5_readBehind_83 : decode cX5_readBehind 83 = .ok (.goto 4, 3) := by decide +kernel
theorem dX5_readBehind_86 : decode cX5_readBehind 86 = .ok (.iconst 0, 1) := by decide +kernel
theorem dX5_readBehind_87 : decode cX5_readBehind 87 = .ok (.ireturn, 1) := by decide +kernel
theorem dX5_readBehind_88 : decode cX5_readBehind 88 = .ok (.aload_n 0, 1) := by decide +kernel
theorem dX5_readBehind_89 : decode cX5_readBehind 89 = .ok (.iconst 1, 1) := by decide +kernel
theorem dX5_readBehind_90 : decode cX5_readBehind 90 = .ok (.invokevirtual 123, 3) := by decide +kernel
theorem dX5_readBehind_93 : decode cX5_readBehind 93 = .ok (.ireturn, 1) := by decide +kernel
theorem dX5_readBehind_94 : decode cX5_readBehind 94 = .ok (.aload_n 0, 1) := by decide +kernel
theorem dX5_readBehind_95 : decode cX5_readBehind 95 = .ok (.iconst 2, 1) := by decide +kernel
theorem dX5_readBehind_96 : decode cX5_readBehind 96 = .ok (.invokevirtual 123, 3) := by decide +kernel
theorem dX5_readBehind_99 : decode cX5_readBehind 99 = .ok (.ifCond .eq 75, 3) := by decide +kernel
theorem dX5_readBehind_102 : decode cX5_readBehind 102 = .ok (.aload_n 0, 1) := by decide +kernel
theorem dX5_readBehind_103 : decode cX5_readBehind 103 = .ok (.invokevirtual 126, 3) := by decide +kernel
theorem dX5_readBehind_106 : decode cX5_readBehind 106 = .ok (.ifCond .eq 68, 3) := by decide +kernel
theorem dX5_readBehind_109 : decode cX5_readBehind 109 = .ok (.aload_n 0, 1) := by decide +kernel
theorem dX5_readBehind_110 : decode cX5_readBehind 110 = .ok (.iconst 1, 1) := by decide +kernel
theorem dX5_readBehind_111 : decode cX5_readBehind 111 = .ok (.invokevirtual 129, 3) := by decide +kernel
theorem dX5_readBehind_114 : decode cX5_readBehind 114 = .ok (.ifCond .eq 60, 3) := by decide +kernel
theorem dX5_readBehind_117 : decode cX5_readBehind 117 = .ok (.aload_n 0, 1) := by decide +kernel
theorem dX5_readBehind_118 : decode cX5_readBehind 118 = .ok (.iconst 1, 1) := by decide +kernel
theorem dX5_readBehind_119 : decode cX5_readBehind 119 = .ok (.invokevirtual 129, 3) := by decide +kernel
theorem dX5_readBehind_122 : decode cX5_readBehind 122 = .ok (.ifCond .eq 52, 3) := by decide +kernel
theorem dX5_readBehind_125 : decode cX5_readBehind 125 = .ok (.aload_n 0, 1) := by decide +kernel
theorem dX5_readBehind_126 : decode cX5_readBehind 126 = .ok (.invokevirtual 132, 3) := by decide +kernel
theorem dX5_readBehind_129 : decode cX5_readBehind 129 = .ok (.ifCond .eq 45, 3) := by decide +kernel
theorem dX5_readBehind_132 : decode cX5_readBehind 132 = .ok (.aload_n 0, 1) := by decide +kernel
theorem dX5_readBehind_133 : decode cX5_readBehind 133 = .ok (.ldc 135, 2) := by decide +kernel
theorem dX5_readBehind_135 : decode cX5_readBehind 135 = .ok (.invokevirtual 114, 3) := by decide +kernel
theorem dX5_readBehind_138 : decode cX5_readBehind 138 = .ok (.ifCond .eq 36, 3) := by decide +kernel
theorem dX5_readBehind_141 : decode cX5_readBehind 141 = .ok (.aload_n 0, 1) := by decide +kernel
theorem dX5_readBehind_142 : decode cX5_readBehind 142 = .ok (.iconst 1, 1) := by decide +kernel
theorem dX5_readBehind_143 : decode cX5_readBehind 143 = .ok (.bipush 99, 2) := by decide +kernel
theorem dX5_readBehind_145 : decode cX5_readBehind 145 = .ok (.invokevirtual 117, 3) := by decide +kernel
theorem dX5_readBehind_148 : decode cX5_readBehind 148 = .ok (.ifCond .eq 26, 3) := by decide +kernel
theorem dX5_readBehind_151 : decode cX5_readBehind 151 = .ok (.aload_n 0, 1) := by decide +kernel
theorem dX5_readBehind_152 : decode cX5_readBehind 152 = .ok (.ldc 137, 2) := by decide +kernel
theorem dX5_readBehind_154 : decode cX5_readBehind 154 = .ok (.invokevirtual 114, 3) := by decide +kernel
theorem dX5_readBehind_157 : decode cX5_readBehind 157 = .ok (.ifCond .eq 17, 3) := by decide +kernel
theorem dX5_readBehind_160 : decode cX5_readBehind 160 = .ok (.aload_n 0, 1) := by decide +kernel
theorem dX5_readBehind_161 : decode cX5_readBehind 161 = .ok (.iconst 0, 1) := by decide +kernel
theorem dX5_readBehind_162 : decode cX5_readBehind 162 = .ok (.bipush 20, 2) := by decide +kernel
theorem dX5_readBehind_164 : decode cX5_readBehind 164 = .ok (.invokevirtual 117, 3) := by decide +kernel
theorem dX5_readBehind_167 : decode cX5_readBehind 167 = .ok (.ifCond .eq 7, 3) := by decide +kernel
theorem dX5_readBehind_170 : decode cX5_readBehind 170 = .ok (.iconst 1, 1) := by decide +kernel
theorem dX5_readBehind_171 : decode cX5_readBehind 171 = .ok (.goto 4, 3) := by decide +kernel
theorem dX5_readBehind_174 : decode cX5_readBehind 174 = .ok (.iconst 0, 1) := by decide +kernel
theorem dX5_readBehind_175 : decode cX5_readBehind 175 = .ok (.ireturn, 1) := by decide +kernel
theorem dX5_readBehind_176 : decode cX5_readBehind 176 = .ok (.aload_n 0, 1) := by decide +kernel
theorem dX5_readBehind_177 : decode cX5_readBehind 177 = .ok (.iconst 2, 1) := by decide +kernel
theorem dX5_readBehind_178 : decode cX5_readBehind 178 = .ok (.invokevirtual 129, 3) := by decide +kernel
theorem dX5_readBehind_181 : decode cX5_readBehind 181 = .ok (.ifCond .eq 29, 3) := by decide +kernel
theorem dX5_readBehind_184 : decode cX5_readBehind 184 = .ok (.aload_n 0, 1) := by decide +kernel
theorem dX5_readBehind_185 : decode cX5_readBehind 185 = .ok (.iconst 2, 1) := by decide +kernel
theorem dX5_readBehind_186 : decode cX5_readBehind 186 = .ok (.invokevirtual 129, 3) := by decide +kernel
theorem dX5_readBehind_189 : decode cX5_readBehind 189 = .ok (.ifCond .eq 21, 3) := by decide +kernel
theorem dX5_readBehind_192 : decode cX5_readBehind 192 = .ok (.aload_n 0, 1) := by decide +kernel
theorem dX5_readBehind_193 : decode cX5_readBehind 193 = .ok (.invokevirtual 132, 3) := by decide +kernel
theorem dX5_readBehind_196 : decode cX5_readBehind 196 = .ok (.ifCond .eq 14, 3) := by decide +kernel
theorem dX5_readBehind_199 : decode cX5_readBehind 199 = .ok (.aload_n 0, 1) := by decide +kernel
theorem dX5_readBehind_200 : decode cX5_readBehind 200 = .ok (.invokevirtual 139, 3) := by decide +kernel
theorem dX5_readBehind_203 : decode cX5_readBehind 203 = .ok (.ifCond .eq 7, 3) := by decide +kernel
theorem dX5_readBehind_206 : decode cX5_readBehind 206 = .ok (.iconst 1, 1) := by decide +kernel
theorem dX5_readBehind_207 : decode cX5_readBehind 207 = .ok (.goto 4, 3) := by decide +kernel
theorem dX5_readBehind_210 : decode cX5_readBehind 210 = .ok (.iconst 0, 1) := by decide +kernel
theorem dX5_readBehind_211 : decode cX5_readBehind 211 = .ok (.ireturn, 1) := by decide +kernel
theorem dX5_readBehind_212 : decode cX5_readBehind 212 = .ok (.aload_n 0, 1) := by decide +kernel
theorem dX5_readBehind_213 : decode cX5_readBehind 213 = .ok (.iconst 1, 1) := by decide +kernel
theorem dX5_readBehind_214 : decode cX5_readBehind 214 = .ok (.invokevirtual 129, 3) := by decide +kernel
theorem dX5_readBehind_217 : decode cX5_readBehind 217 = .ok (.ifCond .eq 33, 3) := by decide +kernel
theorem dX5_readBehind_220 : decode cX5_readBehind 220 = .ok (.aload_n 0, 1) := by decide +kernel
theorem dX5_readBehind_221 : decode cX5_readBehind 221 = .ok (.iconst 1, 1) := by decide +kernel
theorem dX5_readBehind_222 : decode cX5_readBehind 222 = .ok (.invokevirtual 129, 3) := by decide +kernel
theorem dX5_readBehind_225 : decode cX5_readBehind 225 = .ok (.ifCond .eq 25, 3) := by decide +kernel
theorem dX5_readBehind_228 : decode cX5_readBehind 228 = .ok (.aload_n 0, 1) := by decide +kernel
theorem dX5_readBehind_229 : decode cX5_readBehind 229 = .ok (.invokevirtual 132, 3) := by decide +kernel
theorem dX5_readBehind_232 : decode cX5_readBehind 232 = .ok (.ifCond .eq 18, 3) := by decide +kernel
theorem dX5_readBehind_235 : decode cX5_readBehind 235 = .ok (.aload_n 0, 1) := by decide +kernel
theorem dX5_readBehind_236 : decode cX5_readBehind 236 = .ok (.iconst 1, 1) := by decide +kernel
theorem dX5_readBehind_237 : decode cX5_readBehind 237 = .ok (.sipush 300, 3) := by decide +kernel
theorem dX5_readBehind_240 : decode cX5_readBehind 240 = .ok (.invokevirtual 117, 3) := by decide +kernel
theorem dX5_readBehind_243 : decode cX5_readBehind 243 = .ok (.ifCond .eq 7, 3) := by decide +kernel
theorem dX5_readBehind_246 : decode cX5_readBehind 246 = .ok (.iconst 1, 1) := by decide +kernel
theorem dX5_readBehind_247 : decode cX5_readBehind 247 = .ok (.goto 4, 3) := by decide +kernel
theorem dX5_readBehind_250 : decode cX5_readBehind 250 = .ok (.iconst 0, 1) := by decide +kernel
theorem dX5_readBehind_251 : decode cX5_readBehind 251 = .ok (.ireturn, 1) := by decide +kernel
theorem dX5_readBehind_252 : decode cX5_readBehind 252 = .ok (.aload_n 0, 1) := by decide +kernel
theorem dX5_readBehind_253 : decode cX5_readBehind 253 = .ok (.iconst 1, 1) := by decide +kernel
theorem dX5_readBehind_254 : decode cX5_readBehind 254 = .ok (.invokevirtual 129, 3) := by decide +kernel
theorem dX5_readBehind_257 : decode cX5_readBehind 257 = .ok (.ifCond .eq 60, 3) := by decide +kernel
theorem dX5_readBehind_260 : decode cX5_readBehind 260 = .ok (.aload_n 0, 1) := by decide +kernel
theorem dX5_readBehind_261 : decode cX5_readBehind 261 = .ok (.iconst 1, 1) := by decide +kernel
theorem dX5_readBehind_262 : decode cX5_readBehind 262 = .ok (.invokevirtual 129, 3) := by decide +kernel
theorem dX5_readBehind_265 : decode cX5_readBehind 265 = .ok (.ifCond .eq 52, 3) := by decide +kernel
theorem dX5_readBehind_268 : decode cX5_readBehind 268 = .ok (.aload_n 0, 1) := by decide +kernel
theorem dX5_readBehind_269 : decode cX5_readBehind 269 = .ok (.invokevirtual 132, 3) := by decide +kernel
theorem dX5_readBehind_272 : decode cX5_readBehind 272 = .ok (.ifCond .eq 45, 3) := by decide +kernel
theorem dX5_readBehind_275 : decode cX5_readBehind 275 = .ok (.aload_n 0, 1) := by decide +kernel
theorem dX5_readBehind_276 : decode cX5_readBehind 276 = .ok (.ldc 135, 2) := by decide +kernel
theorem dX5_readBehind_278 : decode cX5_readBehind 278 = .ok (.invokevirtual 114, 3) := by decide +kernel
theorem dX5_readBehind_281 : decode cX5_readBehind 281 = .ok (.ifCond .eq 36, 3) := by decide +kernel
theorem dX5_readBehind_284 : decode cX5_readBehind 284 = .ok (.aload_n 0, 1) := by decide +kernel
theorem dX5_readBehind_285 : decode cX5_readBehind 285 = .ok (.iconst 1, 1) := by decide +kernel
theorem dX5_readBehind_286 : decode cX5_readBehind 286 = .ok (.bipush 99, 2) := by decide +kernel
theorem dX5_readBehind_288 : decode cX5_readBehind 288 = .ok (.invokevirtual 117, 3) := by decide +kernel
theorem dX5_readBehind_291 : decode cX5_readBehind 291 = .ok (.ifCond .eq 26, 3) := by decide +kernel
theorem dX5_readBehind_294 : decode cX5_readBehind 294 = .ok (.aload_n 0, 1) := by decide +kernel
theorem dX5_readBehind_295 : decode cX5_readBehind 295 = .ok (.ldc 142, 2) := by decide +kernel
theorem dX5_readBehind_297 : decode cX5_readBehind 297 = .ok (.invokevirtual 114, 3) := by decide +kernel
theorem dX5_readBehind_300 : decode cX5_readBehind 300 = .ok (.ifCond .eq 17, 3) := by decide +kernel
theorem dX5_readBehind_303 : decode cX5_readBehind 303 = .ok (.aload_n 0, 1) := by decide +kernel
theorem dX5_readBehind_304 : decode cX5_readBehind 304 = .ok (.iconst 0, 1) := by decide +kernel
theorem dX5_readBehind_305 : decode cX5_readBehind 305 = .ok (.bipush 99, 2) := by decide +kernel
theorem dX5_readBehind_307 : decode cX5_readBehind 307 = .ok (.invokevirtual 117, 3) := by decide +kernel
theorem dX5_readBehind_310 : decode cX5_readBehind 310 = .ok (.ifCond .eq 7, 3) := by decide +kernel
theorem dX5_readBehind_313 : decode cX5_readBehind 313 = .ok (.iconst 1, 1) := by decide +kernel
theorem dX5_readBehind_314 : decode cX5_readBehind 314 = .ok (.goto 4, 3) := by decide +kernel
theorem dX5_readBehind_317 : decode cX5_readBehind 317 = .ok (.iconst 0, 1) := by decide +kernel
theorem dX5_readBehind_318 : decode cX5_readBehind 318 = .ok (.ireturn, 1) := by decide +kernel
theorem dX5_readBehind_319 : decode cX5_readBehind 319 = .ok (.aload_n 0, 1) := by decide +kernel
theorem dX5_readBehind_320 : decode cX5_readBehind 320 = .ok (.iconst 2, 1) := by decide +kernel
theorem dX5_readBehind_321 : decode cX5_readBehind 321 = .ok (.invokevirtual 129, 3) := by decide +kernel
theorem dX5_readBehind_324 : decode cX5_readBehind 324 = .ok (.ifCond .eq 14, 3) := by decide +kernel
theorem dX5_readBehind_327 : decode cX5_readBehind 327 = .ok (.aload_n 0, 1) := by decide +kernel
theorem dX5_readBehind_328 : decode cX5_readBehind 328 = .ok (.invokevirtual 144, 3) := by decide +kernel
theorem dX5_readBehind_331 : decode cX5_readBehind 331 = .ok (.ifCond .eq 7, 3) := by decide +kernel
theorem dX5_readBehind_334 : decode cX5_readBehind 334 = .ok (.iconst 1, 1) := by decide +kernel
theorem dX5_readBehind_335 : decode cX5_readBehind 335 = .ok (.goto 4, 3) := by decide +kernel
theorem dX5_readBehind_338 : decode cX5_readBehind 338 = .ok (.iconst 0, 1) := by decide +kernel
theorem dX5_readBehind_339 : decode cX5_readBehind 339 = .ok (.ireturn, 1) := by decide +kernel
theorem dX5_readBehind_340 : decode cX5_readBehind 340 = .ok (.aload_n 0, 1) := by decide +kernel
theorem dX5_readBehind_341 : decode cX5_readBehind 341 = .ok (.iconst 2, 1) := by decide +kernel
theorem dX5_readBehind_342 : decode cX5_readBehind 342 = .ok (.invokevirtual 129, 3) := by decide +kernel
theorem dX5_readBehind_345 : decode cX5_readBehind 345 = .ok (.ifCond .eq 22, 3) := by decide +kernel
theorem dX5_readBehind_348 : decode cX5_readBehind 348 = .ok (.aload_n 0, 1) := by decide +kernel
theorem dX5_readBehind_349 : decode cX5_readBehind 349 = .ok (.iconst 2, 1) := by decide +kernel
theorem dX5_readBehind_350 : decode cX5_readBehind 350 = .ok (.invokevirtual 129, 3) := by decide +kernel
theorem dX5_readBehind_353 : decode cX5_readBehind 353 = .ok (.ifCond .eq 14, 3) := by decide +kernel
theorem dX5_readBehind_356 : decode cX5_readBehind 356 = .ok (.aload_n 0, 1) := by decide +kernel
theorem dX5_readBehind_357 : decode cX5_readBehind 357 = .ok (.invokevirtual 147, 3) := by decide +kernel
theorem dX5_readBehind_360 : decode cX5_readBehind 360 = .ok (.ifCond .eq 7, 3) := by decide +kernel
theorem dX5_readBehind_363 : decode cX5_readBehind 363 = .ok (.iconst 1, 1) := by decide +kernel
theorem dX5_readBehind_364 : decode cX5_readBehind 364 = .ok (.goto 4, 3) := by decide +kernel
theorem dX5_readBehind_367 : decode cX5_readBehind 367 = .ok (.iconst 0, 1) := by decide +kernel
theorem dX5_readBehind_368 : decode cX5_readBehind 368 = .ok (.ireturn, 1) := by decide +kernel
theorem dX5_clearRow_0 : decode cX5_clearRow 0 = .ok (.iconst 0, 1) := by decide +kernel
theorem dX5_clearRow_1 : decode cX5_clearRow 1 = .ok (.istore_n 1, 1) := by decide +kernel
theorem dX5_clearRow_2 : decode cX5_clearRow 2 = .ok (.iload_n 1, 1) := by decide +kernel
theorem dX5_clearRow_3 : decode cX5_clearRow 3 = .ok (.bipush 6, 2) := by decide +kernel
theorem dX5_clearRow_5 : decode cX5_clearRow 5 = .ok (.if_icmp .ge 16, 3) := by decide +kernel
theorem dX5_clearRow_8 : decode cX5_clearRow 8 = .ok (.aload_n 0, 1) := by decide +kernel
theorem dX5_clearRow_9 : decode cX5_clearRow 9 = .ok (.getfield 18, 3) := by decide +kernel
theorem dX5_clearRow_12 : decode cX5_clearRow 12 = .ok (.iload_n 1, 1) := by decide +kernel
theorem dX5_clearRow_13 : decode cX5_clearRow 13 = .ok (.iconst 0, 1) := by decide +kernel
theorem dX5_clearRow_14 : decode cX5_clearRow 14 = .ok (.iastore, 1) := by decide +kernel
theorem dX5_clearRow_15 : decode cX5_clearRow 15 = .ok (.iinc 1 1, 3) := by decide +kernel
theorem dX5_clearRow_18 : decode cX5_clearRow 18 = .ok (.goto (-16), 3) := by decide +kernel
theorem dX5_clearRow_21 : decode cX5_clearRow 21 = .ok (.aload_n 0, 1) := by decide +kernel
theorem dX5_clearRow_22 : decode cX5_clearRow 22 = .ok (.iconst 0, 1) := by decide +kernel
theorem dX5_clearRow_23 : decode cX5_clearRow 23 = .ok (.putfield 150, 3) := by decide +kernel
theorem dX5_clearRow_26 : decode cX5_clearRow 26 = .ok (.return_, 1) := by decide +kernel
theorem dX5_put_0 : decode cX5_put 0 = .ok (.aload_n 0, 1) := by decide +kernel
theorem dX5_put_1 : decode cX5_put 1 = .ok (.getfield 150, 3) := by decide +kernel
theorem dX5_put_4 : decode cX5_put 4 = .ok (.bipush 6, 2) := by decide +kernel
theorem dX5_put_6 : decode cX5_put 6 = .ok (.if_icmp .ge 23, 3) := by decide +kernel
theorem dX5_put_9 : decode cX5_put 9 = .ok (.aload_n 0, 1) := by decide +kernel
theorem dX5_put_10 : decode cX5_put 10 = .ok (.getfield 18, 3) := by decide +kernel
theorem dX5_put_13 : decode cX5_put 13 = .ok (.aload_n 0, 1) := by decide +kernel
theorem dX5_put_14 : decode cX5_put 14 = .ok (.getfield 150, 3) := by decide +kernel
theorem dX5_put_17 : decode cX5_put 17 = .ok (.iload_n 1, 1) := by decide +kernel
theorem dX5_put_18 : decode cX5_put 18 = .ok (.iastore, 1) := by decide +kernel
theorem dX5_put_19 : decode cX5_put 19 = .ok (.aload_n 0, 1) := by decide +kernel
theorem dX5_put_20 : decode cX5_put 20 = .ok (.dup, 1) := by decide +kernel
theorem dX5_put_21 : decode cX5_put 21 = .ok (.getfield 150, 3) := by decide +kernel
theorem dX5_put_24 : decode cX5_put 24 = .ok (.iconst 1, 1) := by decide +kernel
theorem dX5_put_25 : decode cX5_put 25 = .ok (.iadd, 1) := by decide +kernel
theorem dX5_put_26 : decode cX5_put 26 = .ok (.putfield 150, 3) := by decide +kernel
theorem dX5_put_29 : decode cX5_put 29 = .ok (.iconst 1, 1) := by decide +kernel
theorem dX5_put_30 : decode cX5_put 30 = .ok (.ireturn, 1) := by decide +kernel
theorem dX5_takeWord_0 : decode cX5_takeWord 0 = .ok (.aload_n 0, 1) := by decide +kernel
theorem dX5_takeWord_1 : decode cX5_takeWord 1 = .ok (.getfield 25, 3) := by decide +kernel
theorem dX5_takeWord_4 : decode cX5_takeWord 4 = .ok (.invokevirtual 69, 3) := by decide +kernel
theorem dX5_takeWord_7 : decode cX5_takeWord 7 = .ok (.aload_n 0, 1) := by decide +kernel
theorem dX5_takeWord_8 : decode cX5_takeWord 8 = .ok (.getfield 25, 3) := by decide +kernel
theorem dX5_takeWord_11 : decode cX5_takeWord 11 = .ok (.aload_n 1, 1) := by decide +kernel
theorem dX5_takeWord_12 : decode cX5_takeWord 12 = .ok (.invokevirtual 94, 3) := by decide +kernel
theorem dX5_takeWord_15 : decode cX5_takeWord 15 = .ok (.ifCond .ne 11, 3) := by decide +kernel
theorem dX5_takeWord_18 : decode cX5_takeWord 18 = .ok (.aload_n 0, 1) := by decide +kernel
theorem dX5_takeWord_19 : decode cX5_takeWord 19 = .ok (.iconst 1, 1) := by decide +kernel
theorem dX5_takeWord_20 : decode cX5_takeWord 20 = .ok (.invokevirtual 62, 3) := by decide +kernel
theorem dX5_takeWord_23 : decode cX5_takeWord 23 = .ok (.ifCond .eq 7, 3) := by decide +kernel
theorem dX5_takeWord_26 : decode cX5_takeWord 26 = .ok (.iconst 1, 1) := by decide +kernel
theorem dX5_takeWord_27 : decode cX5_takeWord 27 = .ok (.goto 4, 3) := by decide +kernel
theorem dX5_takeWord_30 : decode cX5_takeWord 30 = .ok (.iconst 0, 1) := by decide +kernel
theorem dX5_takeWord_31 : decode cX5_takeWord 31 = .ok (.ireturn, 1) := by decide +kernel
theorem dX5_takeWhole_0 : decode cX5_takeWhole 0 = .ok (.aload_n 0, 1) := by decide +kernel
theorem dX5_takeWhole_1 : decode cX5_takeWhole 1 = .ok (.getfield 25, 3) := by decide +kernel
theorem dX5_takeWhole_4 : decode cX5_takeWhole 4 = .ok (.invokevirtual 69, 3) := by decide +kernel
theorem dX5_takeWhole_7 : decode cX5_takeWhole 7 = .ok (.aload_n 0, 1) := by decide +kernel
theorem dX5_takeWhole_8 : decode cX5_takeWhole 8 = .ok (.getfield 25, 3) := by decide +kernel
theorem dX5_takeWhole_11 : decode cX5_takeWhole 11 = .ok (.getfield 72, 3) := by decide +kernel
theorem dX5_takeWhole_14 : decode cX5_takeWhole 14 = .ok (.iconst 2, 1) := by decide +kernel
theorem dX5_takeWhole_15 : decode cX5_takeWhole 15 = .ok (.if_icmp .eq 9, 3) := by decide +kernel
theorem dX5_takeWhole_18 : decode cX5_takeWhole 18 = .ok (.aload_n 0, 1) := by decide +kernel
theorem dX5_takeWhole_19 : decode cX5_takeWhole 19 = .ok (.iconst 1, 1) := by decide +kernel
theorem dX5_takeWhole_20 : decode cX5_takeWhole 20 = .ok (.invokevirtual 62, 3) := by decide +kernel
theorem dX5_takeWhole_23 : decode cX5_takeWhole 23 = .ok (.ireturn, 1) := by decide +kernel
theorem dX5_takeWhole_24 : decode cX5_takeWhole 24 = .ok (.aload_n 0, 1) := by decide +kernel
theorem dX5_takeWhole_25 : decode cX5_takeWhole 25 = .ok (.getfield 25, 3) := by decide +kernel
theorem dX5_takeWhole_28 : decode cX5_takeWhole 28 = .ok (.getfield 153, 3) := by decide +kernel
theorem dX5_takeWhole_31 : decode cX5_takeWhole 31 = .ok (.iload_n 1, 1) := by decide +kernel
theorem dX5_takeWhole_32 : decode cX5_takeWhole 32 = .ok (.if_icmp .lt 14, 3) := by decide +kernel
theorem dX5_takeWhole_35 : decode cX5_takeWhole 35 = .ok (.aload_n 0, 1) := by decide +kernel
theorem dX5_takeWhole_36 : decode cX5_takeWhole 36 = .ok (.getfield 25, 3) := by decide +kernel
theorem dX5_takeWhole_39 : decode cX5_takeWhole 39 = .ok (.getfield 153, 3) := by decide +kernel
theorem dX5_takeWhole_42 : decode cX5_takeWhole 42 = .ok (.iload_n 2, 1) := by decide +kernel
theorem dX5_takeWhole_43 : decode cX5_takeWhole 43 = .ok (.if_icmp .le 9, 3) := by decide +kernel
theorem dX5_takeWhole_46 : decode cX5_takeWhole 46 = .ok (.aload_n 0, 1) := by decide +kernel
theorem dX5_takeWhole_47 : decode cX5_takeWhole 47 = .ok (.iconst 4, 1) := by decide +kernel
theorem dX5_takeWhole_48 : decode cX5_takeWhole 48 = .ok (.invokevirtual 62, 3) := by decide +kernel
theorem dX5_takeWhole_51 : decode cX5_takeWhole 51 = .ok (.ireturn, 1) := by decide +kernel
theorem dX5_takeWhole_52 : decode cX5_takeWhole 52 = .ok (.aload_n 0, 1) := by decide +kernel
theorem dX5_takeWhole_53 : decode cX5_takeWhole 53 = .ok (.aload_n 0, 1) := by decide +kernel
theorem dX5_takeWhole_54 : decode cX5_takeWhole 54 = .ok (.getfield 25, 3) := by decide +kernel
theorem dX5_takeWhole_57 : decode cX5_takeWhole 57 = .ok (.getfield 153, 3) := by decide +kernel
theorem dX5_takeWhole_60 : decode cX5_takeWhole 60 = .ok (.invokevirtual 156, 3) := by decide +kernel
theorem dX5_takeWhole_63 : decode cX5_takeWhole 63 = .ok (.ireturn, 1) := by decide +kernel
theorem dX5_takeNewName_0 : decode cX5_takeNewName 0 = .ok (.aload_n 0, 1) := by decide +kernel
theorem dX5_takeNewName_1 : decode cX5_takeNewName 1 = .ok (.getfield 25, 3) := by decide +kernel
theorem dX5_takeNewName_4 : decode cX5_takeNewName 4 = .ok (.invokevirtual 69, 3) := by decide +kernel
theorem dX5_takeNewName_7 : decode cX5_takeNewName 7 = .ok (.aload_n 0, 1) := by decide +kernel
theorem dX5_takeNewName_8 : decode cX5_takeNewName 8 = .ok (.getfield 25, 3) := by decide +kernel
theorem dX5_takeNewName_11 : decode cX5_takeNewName 11 = .ok (.getfield 72, 3) := by decide +kernel
theorem dX5_takeNewName_14 : decode cX5_takeNewName 14 = .ok (.iconst 1, 1) := by decide +kernel
theorem dX5_takeNewName_15 : decode cX5_takeNewName 15 = .ok (.if_icmp .ne 11, 3) := by decide +kernel
theorem dX5_takeNewName_18 : decode cX5_takeNewName 18 = .ok (.aload_n 0, 1) := by decide +kernel
theorem dX5_takeNewName_19 : decode cX5_takeNewName 19 = .ok (.invokevirtual 75, 3) := by decide +kernel
theorem dX5_takeNewName_22 : decode cX5_takeNewName 22 = .ok (.iconst (-1), 1) := by decide +kernel
theorem dX5_takeNewName_23 : decode cX5_takeNewName 23 = .ok (.if_icmp .eq 9, 3) := by decide +kernel
theorem dX5_takeNewName_26 : decode cX5_takeNewName 26 = .ok (.aload_n 0, 1) := by decide +kernel
theorem dX5_takeNewName_27 : decode cX5_takeNewName 27 = .ok (.iconst 1, 1) := by decide +kernel
theorem dX5_takeNewName_28 : decode cX5_takeNewName 28 = .ok (.invokevirtual 62, 3) := by decide +kernel
theorem dX5_takeNewName_31 : decode cX5_takeNewName 31 = .ok (.ireturn, 1) := by decide +kernel
theorem dX5_takeNewName_32 : decode cX5_takeNewName 32 = .ok (.aload_n 0, 1) := by decide +kernel
theorem dX5_takeNewName_33 : decode cX5_takeNewName 33 = .ok (.getfield 12, 3) := by decide +kernel
theorem dX5_takeNewName_36 : decode cX5_takeNewName 36 = .ok (.aload_n 0, 1) := by decide +kernel
theorem dX5_takeNewName_37 : decode cX5_takeNewName 37 = .ok (.getfield 25, 3) := by decide +kernel
theorem dX5_takeNewName_40 : decode cX5_takeNewName 40 = .ok (.getfield 159, 3) := by decide +kernel
theorem dX5_takeNewName_43 : decode cX5_takeNewName 43 = .ok (.invokevirtual 163, 3) := by decide +kernel
theorem dX5_takeNewName_46 : decode cX5_takeNewName 46 = .ok (.ifCond .eq 9, 3) := by decide +kernel
theorem dX5_takeNewName_49 : decode cX5_takeNewName 49 = .ok (.aload_n 0, 1) := by decide +kernel
theorem dX5_takeNewName_50 : decode cX5_takeNewName 50 = .ok (.iconst 3, 1) := by decide +kernel
theorem dX5_takeNewName_51 : decode cX5_takeNewName 51 = .ok (.invokevirtual 62, 3) := by decide +kernel
theorem dX5_takeNewName_54 : decode cX5_takeNewName 54 = .ok (.ireturn, 1) := by decide +kernel
theorem dX5_takeNewName_55 : decode cX5_takeNewName 55 = .ok (.aload_n 0, 1) := by decide +kernel
theorem dX5_takeNewName_56 : decode cX5_takeNewName 56 = .ok (.getfield 12, 3) := by decide +kernel
theorem dX5_takeNewName_59 : decode cX5_takeNewName 59 = .ok (.aload_n 0, 1) := by decide +kernel
theorem dX5_takeNewName_60 : decode cX5_takeNewName 60 = .ok (.getfield 25, 3) := by decide +kernel
theorem dX5_takeNewName_63 : decode cX5_takeNewName 63 = .ok (.getfield 159, 3) := by decide +kernel
theorem dX5_takeNewName_66 : decode cX5_takeNewName 66 = .ok (.iload_n 1, 1) := by decide +kernel
theorem dX5_takeNewName_67 : decode cX5_takeNewName 67 = .ok (.aload_n 0, 1) := by decide +kernel
theorem dX5_takeNewName_68 : decode cX5_takeNewName 68 = .ok (.getfield 32, 3) := by decide +kernel
theorem dX5_takeNewName_71 : decode cX5_takeNewName 71 = .ok (.iload_n 1, 1) := by decide +kernel
theorem dX5_takeNewName_72 : decode cX5_takeNewName 72 = .ok (.invokevirtual 58, 3) := by decide +kernel
theorem dX5_takeNewName_75 : decode cX5_takeNewName 75 = .ok (.invokevirtual 167, 3) := by decide +kernel
theorem dX5_takeNewName_78 : decode cX5_takeNewName 78 = .ok (.iconst 1, 1) := by decide +kernel
theorem dX5_takeNewName_79 : decode cX5_takeNewName 79 = .ok (.ireturn, 1) := by decide +kernel
theorem dX5_takeName_0 : decode cX5_takeName 0 = .ok (.aload_n 0, 1) := by decide +kernel
theorem dX5_takeName_1 : decode cX5_takeName 1 = .ok (.getfield 25, 3) := by decide +kernel
theorem dX5_takeName_4 : decode cX5_takeName 4 = .ok (.invokevirtual 69, 3) := by decide +kernel
theorem dX5_takeName_7 : decode cX5_takeName 7 = .ok (.aload_n 0, 1) := by decide +kernel
theorem dX5_takeName_8 : decode cX5_takeName 8 = .ok (.getfield 25, 3) := by decide +kernel
theorem dX5_takeName_11 : decode cX5_takeName 11 = .ok (.getfield 72, 3) := by decide +kernel
theorem dX5_takeName_14 : decode cX5_takeName 14 = .ok (.iconst 1, 1) := by decide +kernel
theorem dX5_takeName_15 : decode cX5_takeName 15 = .ok (.if_icmp .ne 11, 3) := by decide +kernel
theorem dX5_takeName_18 : decode cX5_takeName 18 = .ok (.aload_n 0, 1) := by decide +kernel
theorem dX5_takeName_19 : decode cX5_takeName 19 = .ok (.invokevirtual 75, 3) := by decide +kernel
theorem dX5_takeName_22 : decode cX5_takeName 22 = .ok (.iconst (-1), 1) := by decide +kernel
theorem dX5_takeName_23 : decode cX5_takeName 23 = .ok (.if_icmp .eq 9, 3) := by decide +kernel
theorem dX5_takeName_26 : decode cX5_takeName 26 = .ok (.aload_n 0, 1) := by decide +kernel
theorem dX5_takeName_27 : decode cX5_takeName 27 = .ok (.iconst 1, 1) := by decide +kernel
theorem dX5_takeName_28 : decode cX5_takeName 28 = .ok (.invokevirtual 62, 3) := by decide +kernel
theorem dX5_takeName_31 : decode cX5_takeName 31 = .ok (.ireturn, 1) := by decide +kernel
theorem dX5_takeName_32 : decode cX5_takeName 32 = .ok (.aload_n 0, 1) := by decide +kernel
theorem dX5_takeName_33 : decode cX5_takeName 33 = .ok (.getfield 12, 3) := by decide +kernel
theorem dX5_takeName_36 : decode cX5_takeName 36 = .ok (.aload_n 0, 1) := by decide +kernel
theorem dX5_takeName_37 : decode cX5_takeName 37 = .ok (.getfield 25, 3) := by decide +kernel
theorem dX5_takeName_40 : decode cX5_takeName 40 = .ok (.getfield 159, 3) := by decide +kernel
theorem dX5_takeName_43 : decode cX5_takeName 43 = .ok (.iload_n 1, 1) := by decide +kernel
theorem dX5_takeName_44 : decode cX5_takeName 44 = .ok (.invokevirtual 170, 3) := by decide +kernel
theorem dX5_takeName_47 : decode cX5_takeName 47 = .ok (.istore_n 2, 1) := by decide +kernel
theorem dX5_takeName_48 : decode cX5_takeName 48 = .ok (.iload_n 2, 1) := by decide +kernel
theorem dX5_takeName_49 : decode cX5_takeName 49 = .ok (.iconst (-1), 1) := by decide +kernel
theorem dX5_takeName_50 : decode cX5_takeName 50 = .ok (.if_icmp .ne 11, 3) := by decide +kernel
theorem dX5_takeName_53 : decode cX5_takeName 53 = .ok (.aload_n 0, 1) := by decide +kernel
theorem dX5_takeName_54 : decode cX5_takeName 54 = .ok (.iconst 2, 1) := by decide +kernel
theorem dX5_takeName_55 : decode cX5_takeName 55 = .ok (.invokevirtual 62, 3) := by decide +kernel
theorem dX5_takeName_58 : decode cX5_takeName 58 = .ok (.goto 8, 3) := by decide +kernel
theorem dX5_takeName_61 : decode cX5_takeName 61 = .ok (.aload_n 0, 1) := by decide +kernel
theorem dX5_takeName_62 : decode cX5_takeName 62 = .ok (.iload_n 2, 1) := by decide +kernel
theorem dX5_takeName_63 : decode cX5_takeName 63 = .ok (.invokevirtual 156, 3) := by decide +kernel
theorem dX5_takeName_66 : decode cX5_takeName 66 = .ok (.ireturn, 1) := by decide +kernel
theorem dX5_areUnlike_0 : decode cX5_areUnlike 0 = .ok (.aload_n 0, 1) := by decide +kernel
theorem dX5_areUnlike_1 : decode cX5_areUnlike 1 = .ok (.getfield 150, 3) := by decide +kernel
theorem dX5_areUnlike_4 : decode cX5_areUnlike 4 = .ok (.iconst 2, 1) := by decide +kernel
theorem dX5_areUnlike_5 : decode cX5_areUnlike 5 = .ok (.if_icmp .lt 41, 3) := by decide +kernel
theorem dX5_areUnlike_8 : decode cX5_areUnlike 8 = .ok (.aload_n 0, 1) := by decide +kernel
theorem dX5_areUnlike_9 : decode cX5_areUnlike 9 = .ok (.getfield 150, 3) := by decide +kernel
theorem dX5_areUnlike_12 : decode cX5_areUnlike 12 = .ok (.bipush 6, 2) := by decide +kernel
theorem dX5_areUnlike_14 : decode cX5_areUnlike 14 = .ok (.if_icmp .gt 32, 3) := by decide +kernel
theorem dX5_areUnlike_17 : decode cX5_areUnlike 17 = .ok (.aload_n 0, 1) := by decide +kernel
theorem dX5_areUnlike_18 : decode cX5_areUnlike 18 = .ok (.getfield 18, 3) := by decide +kernel
theorem dX5_areUnlike_21 : decode cX5_areUnlike 21 = .ok (.aload_n 0, 1) := by decide +kernel
theorem dX5_areUnlike_22 : decode cX5_areUnlike 22 = .ok (.getfield 150, 3) := by decide +kernel
theorem dX5_areUnlike_25 : decode cX5_areUnlike 25 = .ok (.iconst 1, 1) := by decide +kernel
theorem dX5_areUnlike_26 : decode cX5_areUnlike 26 = .ok (.isub, 1) := by decide +kernel
theorem dX5_areUnlike_27 : decode cX5_areUnlike 27 = .ok (.iaload, 1) := by decide +kernel
theorem dX5_areUnlike_28 : decode cX5_areUnlike 28 = .ok (.aload_n 0, 1) := by decide +kernel
theorem dX5_areUnlike_29 : decode cX5_areUnlike 29 = .ok (.getfield 18, 3) := by decide +kernel
theorem dX5_areUnlike_32 : decode cX5_areUnlike 32 = .ok (.aload_n 0, 1) := by decide +kernel
theorem dX5_areUnlike_33 : decode cX5_areUnlike 33 = .ok (.getfield 150, 3) := by decide +kernel
theorem dX5_areUnlike_36 : decode cX5_areUnlike 36 = .ok (.iconst 2, 1) := by decide +kernel
theorem dX5_areUnlike_37 : decode cX5_areUnlike 37 = .ok (.isub, 1) := by decide +kernel
theorem dX5_areUnlike_38 : decode cX5_areUnlike 38 = .ok (.iaload, 1) := by decide +kernel
theorem dX5_areUnlike_39 : decode cX5_areUnlike 39 = .ok (.if_icmp .ne 7, 3) := by decide +kernel
theorem dX5_areUnlike_42 : decode cX5_areUnlike 42 = .ok (.iconst 1, 1) := by decide +kernel
theorem dX5_areUnlike_43 : decode cX5_areUnlike 43 = .ok (.goto 4, 3) := by decide +kernel
theorem dX5_areUnlike_46 : decode cX5_areUnlike 46 = .ok (.iconst 0, 1) := by decide +kernel
theorem dX5_areUnlike_47 : decode cX5_areUnlike 47 = .ok (.istore_n 1, 1) := by decide +kernel
theorem dX5_areUnlike_48 : decode cX5_areUnlike 48 = .ok (.iload_n 1, 1) := by decide +kernel
theorem dX5_areUnlike_49 : decode cX5_areUnlike 49 = .ok (.ifCond .eq 11, 3) := by decide +kernel
theorem dX5_areUnlike_52 : decode cX5_areUnlike 52 = .ok (.aload_n 0, 1) := by decide +kernel
theorem dX5_areUnlike_53 : decode cX5_areUnlike 53 = .ok (.iconst 3, 1) := by decide +kernel
theorem dX5_areUnlike_54 : decode cX5_areUnlike 54 = .ok (.invokevirtual 62, 3) := by decide +kernel
theorem dX5_areUnlike_57 : decode cX5_areUnlike 57 = .ok (.ifCond .eq 7, 3) := by decide +kernel
theorem dX5_areUnlike_60 : decode cX5_areUnlike 60 = .ok (.iconst 1, 1) := by decide +kernel
theorem dX5_areUnlike_61 : decode cX5_areUnlike 61 = .ok (.goto 4, 3) := by decide +kernel
theorem dX5_areUnlike_64 : decode cX5_areUnlike 64 = .ok (.iconst 0, 1) := by decide +kernel
theorem dX5_areUnlike_65 : decode cX5_areUnlike 65 = .ok (.ireturn, 1) := by decide +kernel
theorem dX5_takeKind_0 : decode cX5_takeKind 0 = .ok (.aload_n 0, 1) := by decide +kernel
theorem dX5_takeKind_1 : decode cX5_takeKind 1 = .ok (.getfield 25, 3) := by decide +kernel
theorem dX5_takeKind_4 : decode cX5_takeKind 4 = .ok (.invokevirtual 69, 3) := by decide +kernel
theorem dX5_takeKind_7 : decode cX5_takeKind 7 = .ok (.aload_n 0, 1) := by decide +kernel
theorem dX5_takeKind_8 : decode cX5_takeKind 8 = .ok (.getfield 25, 3) := by decide +kernel
theorem dX5_takeKind_11 : decode cX5_takeKind 11 = .ok (.ldc 174, 2) := by decide +kernel
theorem dX5_takeKind_13 : decode cX5_takeKind 13 = .ok (.invokevirtual 94, 3) := by decide +kernel
theorem dX5_takeKind_16 : decode cX5_takeKind 16 = .ok (.ifCond .eq 9, 3) := by decide +kernel
theorem dX5_takeKind_19 : decode cX5_takeKind 19 = .ok (.aload_n 0, 1) := by decide +kernel
theorem dX5_takeKind_20 : decode cX5_takeKind 20 = .ok (.iconst 0, 1) := by decide +kernel
theorem dX5_takeKind_21 : decode cX5_takeKind 21 = .ok (.invokevirtual 156, 3) := by decide +kernel
theorem dX5_takeKind_24 : decode cX5_takeKind 24 = .ok (.ireturn, 1) := by decide +kernel
theorem dX5_takeKind_25 : decode cX5_takeKind 25 = .ok (.aload_n 0, 1) := by decide +kernel
theorem dX5_takeKind_26 : decode cX5_takeKind 26 = .ok (.getfield 25, 3) := by decide +kernel
theorem dX5_takeKind_29 : decode cX5_takeKind 29 = .ok (.ldc 176, 2) := by decide +kernel
theorem dX5_takeKind_31 : decode cX5_takeKind 31 = .ok (.invokevirtual 94, 3) := by decide +kernel
theorem dX5_takeKind_34 : decode cX5_takeKind 34 = .ok (.ifCond .eq 9, 3) := by decide +kernel
theorem dX5_takeKind_37 : decode cX5_takeKind 37 = .ok (.aload_n 0, 1) := by decide +kernel
theorem dX5_takeKind_38 : decode cX5_takeKind 38 = .ok (.iconst 1, 1) := by decide +kernel
theorem dX5_takeKind_39 : decode cX5_takeKind 39 = .ok (.invokevirtual 156, 3) := by decide +kernel
theorem dX5_takeKind_42 : decode cX5_takeKind 42 = .ok (.ireturn, 1) := by decide +kernel
theorem dX5_takeKind_43 : decode cX5_takeKind 43 = .ok (.aload_n 0, 1) := by decide +kernel
theorem dX5_takeKind_44 : decode cX5_takeKind 44 = .ok (.getfield 25, 3) := by decide +kernel
theorem dX5_takeKind_47 : decode cX5_takeKind 47 = .ok (.ldc 178, 2) := by decide +kernel
theorem dX5_takeKind_49 : decode cX5_takeKind 49 = .ok (.invokevirtual 94, 3) := by decide +kernel
theorem dX5_takeKind_52 : decode cX5_takeKind 52 = .ok (.ifCond .eq 9, 3) := by decide +kernel
theorem dX5_takeKind_55 : decode cX5_takeKind 55 = .ok (.aload_n 0, 1) := by decide +kernel
theorem dX5_takeKind_56 : decode cX5_takeKind 56 = .ok (.iconst 2, 1) := by decide +kernel
theorem dX5_takeKind_57 : decode cX5_takeKind 57 = .ok (.invokevirtual 156, 3) := by decide +kernel
theorem dX5_takeKind_60 : decode cX5_takeKind 60 = .ok (.ireturn, 1) := by decide +kernel
theorem dX5_takeKind_61 : decode cX5_takeKind 61 = .ok (.aload_n 0, 1) := by decide +kernel
theorem dX5_takeKind_62 : decode cX5_takeKind 62 = .ok (.getfield 25, 3) := by decide +kernel
theorem dX5_takeKind_65 : decode cX5_takeKind 65 = .ok (.ldc 180, 2) := by decide +kernel
theorem dX5_takeKind_67 : decode cX5_takeKind 67 = .ok (.invokevirtual 94, 3) := by decide +kernel
theorem dX5_takeKind_70 : decode cX5_takeKind 70 = .ok (.ifCond .eq 11, 3) := by decide +kernel
theorem dX5_takeKind_73 : decode cX5_takeKind 73 = .ok (.aload_n 0, 1) := by decide +kernel
theorem dX5_takeKind_74 : decode cX5_takeKind 74 = .ok (.iconst 3, 1) := by decide +kernel
theorem dX5_takeKind_75 : decode cX5_takeKind 75 = .ok (.invokevirtual 156, 3) := by decide +kernel
theorem dX5_takeKind_78 : decode cX5_takeKind 78 = .ok (.goto 8, 3) := by decide +kernel
theorem dX5_takeKind_81 : decode cX5_takeKind 81 = .ok (.aload_n 0, 1) := by decide +kernel
theorem dX5_takeKind_82 : decode cX5_takeKind 82 = .ok (.iconst 1, 1) := by decide +kernel
theorem dX5_takeKind_83 : decode cX5_takeKind 83 = .ok (.invokevirtual 62, 3) := by decide +kernel
theorem dX5_takeKind_86 : decode cX5_takeKind 86 = .ok (.ireturn, 1) := by decide +kernel
theorem dX5_takeHow_0 : decode cX5_takeHow 0 = .ok (.aload_n 0, 1) := by decide +kernel
theorem dX5_takeHow_1 : decode cX5_takeHow 1 = .ok (.getfield 25, 3) := by decide +kernel
theorem dX5_takeHow_4 : decode cX5_takeHow 4 = .ok (.invokevirtual 69, 3) := by decide +kernel
theorem dX5_takeHow_7 : decode cX5_takeHow 7 = .ok (.aload_n 0, 1) := by decide +kernel
theorem dX5_takeHow_8 : decode cX5_takeHow 8 = .ok (.getfield 25, 3) := by decide +kernel
theorem dX5_takeHow_11 : decode cX5_takeHow 11 = .ok (.ldc 182, 2) := by decide +kernel
theorem dX5_takeHow_13 : decode cX5_takeHow 13 = .ok (.invokevirtual 94, 3) := by decide +kernel
theorem dX5_takeHow_16 : decode cX5_takeHow 16 = .ok (.ifCond .eq 9, 3) := by decide +kernel
theorem dX5_takeHow_19 : decode cX5_takeHow 19 = .ok (.aload_n 0, 1) := by decide +kernel
theorem dX5_takeHow_20 : decode cX5_takeHow 20 = .ok (.iconst 1, 1) := by decide +kernel
theorem dX5_takeHow_21 : decode cX5_takeHow 21 = .ok (.invokevirtual 156, 3) := by decide +kernel
theorem dX5_takeHow_24 : decode cX5_takeHow 24 = .ok (.ireturn, 1) := by decide +kernel
theorem dX5_takeHow_25 : decode cX5_takeHow 25 = .ok (.aload_n 0, 1) := by decide +kernel
theorem dX5_takeHow_26 : decode cX5_takeHow 26 = .ok (.getfield 25, 3) := by decide +kernel
theorem dX5_takeHow_29 : decode cX5_takeHow 29 = .ok (.ldc 184, 2) := by decide +kernel
theorem dX5_takeHow_31 : decode cX5_takeHow 31 = .ok (.invokevirtual 94, 3) := by decide +kernel
theorem dX5_takeHow_34 : decode cX5_takeHow 34 = .ok (.ifCond .eq 11, 3) := by decide +kernel
theorem dX5_takeHow_37 : decode cX5_takeHow 37 = .ok (.aload_n 0, 1) := by decide +kernel
theorem dX5_takeHow_38 : decode cX5_takeHow 38 = .ok (.iconst 0, 1) := by decide +kernel
theorem dX5_takeHow_39 : decode cX5_takeHow 39 = .ok (.invokevirtual 156, 3) := by decide +kernel
theorem dX5_takeHow_42 : decode cX5_takeHow 42 = .ok (.goto 8, 3) := by decide +kernel
theorem dX5_takeHow_45 : decode cX5_takeHow 45 = .ok (.aload_n 0, 1) := by decide +kernel
theorem dX5_takeHow_46 : decode cX5_takeHow 46 = .ok (.iconst 1, 1) := by decide +kernel
theorem dX5_takeHow_47 : decode cX5_takeHow 47 = .ok (.invokevirtual 62, 3) := by decide +kernel
theorem dX5_takeHow_50 : decode cX5_takeHow 50 = .ok (.ireturn, 1) := by decide +kernel
theorem dX5_isNewClash_0 : decode cX5_isNewClash 0 = .ok (.aload_n 0, 1) := by decide +kernel
theorem dX5_isNewClash_1 : decode cX5_isNewClash 1 = .ok (.getfield 32, 3) := by decide +kernel
theorem dX5_isNewClash_4 : decode cX5_isNewClash 4 = .ok (.aload_n 0, 1) := by decide +kernel
theorem dX5_isNewClash_5 : decode cX5_isNewClash 5 = .ok (.getfield 18, 3) := by decide +kernel
theorem dX5_isNewClash_8 : decode cX5_isNewClash 8 = .ok (.iconst 0, 1) := by decide +kernel
theorem dX5_isNewClash_9 : decode cX5_isNewClash 9 = .ok (.iaload, 1) := by decide +kernel
theorem dX5_isNewClash_10 : decode cX5_isNewClash 10 = .ok (.invokevirtual 185, 3) := by decide +kernel
theorem dX5_isNewClash_13 : decode cX5_isNewClash 13 = .ok (.aload_n 0, 1) := by decide +kernel
theorem dX5_isNewClash_14 : decode cX5_isNewClash 14 = .ok (.getfield 18, 3) := by decide +kernel
theorem dX5_isNewClash_17 : decode cX5_isNewClash 17 = .ok (.iconst 1, 1) := by decide +kernel
theorem dX5_isNewClash_18 : decode cX5_isNewClash 18 = .ok (.iaload, 1) := by decide +kernel
theorem dX5_isNewClash_19 : decode cX5_isNewClash 19 = .ok (.invokestatic 188, 3) := by decide +kernel
theorem dX5_isNewClash_22 : decode cX5_isNewClash 22 = .ok (.istore_n 1, 1) := by decide +kernel
theorem dX5_isNewClash_23 : decode cX5_isNewClash 23 = .ok (.iload_n 1, 1) := by decide +kernel
theorem dX5_isNewClash_24 : decode cX5_isNewClash 24 = .ok (.ifCond .eq 11, 3) := by decide +kernel
theorem dX5_isNewClash_27 : decode cX5_isNewClash 27 = .ok (.aload_n 0, 1) := by decide +kernel
theorem dX5_isNewClash_28 : decode cX5_isNewClash 28 = .ok (.iconst 3, 1) := by decide +kernel
theorem dX5_isNewClash_29 : decode cX5_isNewClash 29 = .ok (.invokevirtual 62, 3) := by decide +kernel
theorem dX5_isNewClash_32 : decode cX5_isNewClash 32 = .ok (.ifCond .eq 7, 3) := by decide +kernel
theorem dX5_isNewClash_35 : decode cX5_isNewClash 35 = .ok (.iconst 1, 1) := by decide +kernel
theorem dX5_isNewClash_36 : decode cX5_isNewClash 36 = .ok (.goto 4, 3) := by decide +kernel
theorem dX5_isNewClash_39 : decode cX5_isNewClash 39 = .ok (.iconst 0, 1) := by decide +kernel
theorem dX5_isNewClash_40 : decode cX5_isNewClash 40 = .ok (.ireturn, 1) := by decide +kernel
theorem dX5_isNewUnsure_0 : decode cX5_isNewUnsure 0 = .ok (.iconst 0, 1) := by decide +kernel
theorem dX5_isNewUnsure_1 : decode cX5_isNewUnsure 1 = .ok (.istore_n 1, 1) := by decide +kernel
theorem dX5_isNewUnsure_2 : decode cX5_isNewUnsure 2 = .ok (.iload_n 1, 1) := by decide +kernel
theorem dX5_isNewUnsure_3 : decode cX5_isNewUnsure 3 = .ok (.aload_n 0, 1) := by decide +kernel
theorem dX5_isNewUnsure_4 : decode cX5_isNewUnsure 4 = .ok (.getfield 32, 3) := by decide +kernel
theorem dX5_isNewUnsure_7 : decode cX5_isNewUnsure 7 = .ok (.bipush 6, 2) := by decide +kernel
theorem dX5_isNewUnsure_9 : decode cX5_isNewUnsure 9 = .ok (.invokevirtual 58, 3) := by decide +kernel
theorem dX5_isNewUnsure_12 : decode cX5_isNewUnsure 12 = .ok (.if_icmp .ge 35, 3) := by decide +kernel
theorem dX5_isNewUnsure_15 : decode cX5_isNewUnsure 15 = .ok (.aload_n 0, 1) := by decide +kernel
theorem dX5_isNewUnsure_16 : decode cX5_isNewUnsure 16 = .ok (.getfield 32, 3) := by decide +kernel
theorem dX5_isNewUnsure_19 : decode cX5_isNewUnsure 19 = .ok (.bipush 6, 2) := by decide +kernel
theorem dX5_isNewUnsure_21 : decode cX5_isNewUnsure 21 = .ok (.iload_n 1, 1) := by decide +kernel
theorem dX5_isNewUnsure_22 : decode cX5_isNewUnsure 22 = .ok (.iconst 0, 1) := by decide +kernel
theorem dX5_isNewUnsure_23 : decode cX5_isNewUnsure 23 = .ok (.invokevirtual 191, 3) := by decide +kernel
theorem dX5_isNewUnsure_26 : decode cX5_isNewUnsure 26 = .ok (.aload_n 0, 1) := by decide +kernel
theorem dX5_isNewUnsure_27 : decode cX5_isNewUnsure 27 = .ok (.getfield 18, 3) := by decide +kernel
theorem dX5_isNewUnsure_30 : decode cX5_isNewUnsure 30 = .ok (.iconst 0, 1) := by decide +kernel
theorem dX5_isNewUnsure_31 : decode cX5_isNewUnsure 31 = .ok (.iaload, 1) := by decide +kernel
theorem dX5_isNewUnsure_32 : decode cX5_isNewUnsure 32 = .ok (.if_icmp .ne 9, 3) := by decide +kernel
theorem dX5_isNewUnsure_35 : decode cX5_isNewUnsure 35 = .ok (.aload_n 0, 1) := by decide +kernel
theorem dX5_isNewUnsure_36 : decode cX5_isNewUnsure 36 = .ok (.iconst 3, 1) := by decide +kernel
theorem dX5_isNewUnsure_37 : decode cX5_isNewUnsure 37 = .ok (.invokevirtual 62, 3) := by decide +kernel
theorem dX5_isNewUnsure_40 : decode cX5_isNewUnsure 40 = .ok (.ireturn, 1) := by decide +kernel
theorem dX5_isNewUnsure_41 : decode cX5_isNewUnsure 41 = .ok (.iinc 1 1, 3) := by decide +kernel
theorem dX5_isNewUnsure_44 : decode cX5_isNewUnsure 44 = .ok (.goto (-42), 3) := by decide +kernel
theorem dX5_isNewUnsure_47 : decode cX5_isNewUnsure 47 = .ok (.iconst 1, 1) := by decide +kernel
theorem dX5_isNewUnsure_48 : decode cX5_isNewUnsure 48 = .ok (.ireturn, 1) := by decide +kernel
theorem dX6_init_0 : decode cX6_init 0 = .ok (.aload_n 0, 1) := by decide +kernel
theorem dX6_init_1 : decode cX6_init 1 = .ok (.invokespecial 1, 3) := by decide +kernel
theorem dX6_init_4 : decode cX6_init 4 = .ok (.return_, 1) := by decide +kernel
theorem dX6_set_0 : decode cX6_set 0 = .ok (.lload_n 1, 1) := by decide +kernel
theorem dX6_set_1 : decode cX6_set 1 = .ok (.lload_n 3, 1) := by decide +kernel
theorem dX6_set_2 : decode cX6_set 2 = .ok (.invokestatic 7, 3) := by decide +kernel
theorem dX6_set_5 : decode cX6_set 5 = .ok (.lstore 5, 2) := by decide +kernel
theorem dX6_set_7 : decode cX6_set 7 = .ok (.lload_n 3, 1) := by decide +kernel
theorem dX6_set_8 : decode cX6_set 8 = .ok (.lconst 0, 1) := by decide +kernel
theorem dX6_set_9 : decode cX6_set 9 = .ok (.lcmp, 1) := by decide +kernel
theorem dX6_set_10 : decode cX6_set 10 = .ok (.ifCond .eq 10, 3) := by decide +kernel
theorem dX6_set_13 : decode cX6_set 13 = .ok (.lload 5, 2) := by decide +kernel
theorem dX6_set_15 : decode cX6_set 15 = .ok (.lconst 0, 1) := by decide +kernel
theorem dX6_set_16 : decode cX6_set 16 = .ok (.lcmp, 1) := by decide +kernel
theorem dX6_set_17 : decode cX6_set 17 = .ok (.ifCond .ne 7, 3) := by decide +kernel
theorem dX6_set_20 : decode cX6_set 20 = .ok (.iconst 1, 1) := by decide +kernel
theorem dX6_set_21 : decode cX6_set 21 = .ok (.goto 4, 3) := by decide +kernel
theorem dX6_set_24 : decode cX6_set 24 = .ok (.iconst 0, 1) := by decide +kernel
theorem dX6_set_25 : decode cX6_set 25 = .ok (.istore 7, 2) := by decide +kernel
theorem dX6_set_27 : decode cX6_set 27 = .ok (.aload_n 0, 1) := by decide +kernel
theorem dX6_set_28 : decode cX6_set 28 = .ok (.iload 7, 2) := by decide +kernel
theorem dX6_set_30 : decode cX6_set 30 = .ok (.ifCond .eq 7, 3) := by decide +kernel
theorem dX6_set_33 : decode cX6_set 33 = .ok (.lconst 0, 1) := by decide +kernel
theorem dX6_set_34 : decode cX6_set 34 = .ok (.goto 7, 3) := by decide +kernel
theorem dX6_set_37 : decode cX6_set 37 = .ok (.lload_n 1, 1) := by decide +kernel
theorem dX6_set_38 : decode cX6_set 38 = .ok (.lload 5, 2) := by decide +kernel
theorem dX6_set_40 : decode cX6_set 40 = .ok (.ldiv, 1) := by decide +kernel
theorem dX6_set_41 : decode cX6_set 41 = .ok (.putfield 13, 3) := by decide +kernel
theorem dX6_set_44 : decode cX6_set 44 = .ok (.aload_n 0, 1) := by decide +kernel
theorem dX6_set_45 : decode cX6_set 45 = .ok (.iload 7, 2) := by decide +kernel
theorem dX6_set_47 : decode cX6_set 47 = .ok (.ifCond .eq 7, 3) := by decide +kernel
theorem dX6_set_50 : decode cX6_set 50 = .ok (.lconst 1, 1) := by decide +kernel
theorem dX6_set_51 : decode cX6_set 51 = .ok (.goto 7, 3) := by decide +kernel
theorem dX6_set_54 : decode cX6_set 54 = .ok (.lload_n 3, 1) := by decide +kernel
theorem dX6_set_55 : decode cX6_set 55 = .ok (.lload 5, 2) := by decide +kernel
theorem dX6_set_57 : decode cX6_set 57 = .ok (.ldiv, 1) := by decide +kernel
theorem dX6_set_58 : decode cX6_set 58 = .ok (.putfield 17, 3) := by decide +kernel
theorem dX6_set_61 : decode cX6_set 61 = .ok (.return_, 1) := by decide +kernel
theorem dX6_commonOf_0 : decode cX6_commonOf 0 = .ok (.lload_n 0, 1) := by decide +kernel
theorem dX6_commonOf_1 : decode cX6_commonOf 1 = .ok (.lstore 4, 2) := by decide +kernel
theorem dX6_commonOf_3 : decode cX6_commonOf 3 = .ok (.lload_n 2, 1) := by decide +kernel
theorem dX6_commonOf_4 : decode cX6_commonOf 4 = .ok (.lstore 6, 2) := by decide +kernel
theorem dX6_commonOf_6 : decode cX6_commonOf 6 = .ok (.iconst 0, 1) := by decide +kernel
theorem dX6_commonOf_7 : decode cX6_commonOf 7 = .ok (.istore 8, 2) := by decide +kernel
theorem dX6_commonOf_9 : decode cX6_commonOf 9 = .ok (.iload 8, 2) := by decide +kernel
theorem dX6_commonOf_11 : decode cX6_commonOf 11 = .ok (.sipush 200, 3) := by decide +kernel
theorem dX6_commonOf_14 : decode cX6_commonOf 14 = .ok (.if_icmp .ge 31, 3) := by decide +kernel
theorem dX6_commonOf_17 : decode cX6_commonOf 17 = .ok (.lload 6, 2) := by decide +kernel
theorem dX6_commonOf_19 : decode cX6_commonOf 19 = .ok (.lconst 0, 1) := by decide +kernel
theorem dX6_commonOf_20 : decode cX6_commonOf 20 = .ok (.lcmp, 1) := by decide +kernel
theorem dX6_commonOf_21 : decode cX6_commonOf 21 = .ok (.ifCond .eq 24, 3) := by decide +kernel
theorem dX6_commonOf_24 : decode cX6_commonOf 24 = .ok (.lload 4, 2) := by decide +kernel
theorem dX6_commonOf_26 : decode cX6_commonOf 26 = .ok (.lload 6, 2) := by decide +kernel
theorem dX6_commonOf_28 : decode cX6_commonOf 28 = .ok (.lrem, 1) := by decide +kernel
theorem dX6_commonOf_29 : decode cX6_commonOf 29 = .ok (.lstore 9, 2) := by decide +kernel
theorem dX6_commonOf_31 : decode cX6_commonOf 31 = .ok (.lload 6, 2) := by decide +kernel
theorem dX6_commonOf_33 : decode cX6_commonOf 33 = .ok (.lstore 4, 2) := by decide +kernel
theorem dX6_commonOf_35 : decode cX6_commonOf 35 = .ok (.lload 9, 2) := by decide +kernel
theorem dX6_commonOf_37 : decode cX6_commonOf 37 = .ok (.lstore 6, 2) := by decide +kernel
theorem dX6_commonOf_39 : decode cX6_commonOf 39 = .ok (.iinc 8 1, 3) := by decide +kernel
theorem dX6_commonOf_42 : decode cX6_commonOf 42 = .ok (.goto (-33), 3) := by decide +kernel
theorem dX6_commonOf_45 : decode cX6_commonOf 45 = .ok (.lload 4, 2) := by decide +kernel
theorem dX6_commonOf_47 : decode cX6_commonOf 47 = .ok (.lreturn, 1) := by decide +kernel
theorem dX6_part_0 : decode cX6_part 0 = .ok (.iload_n 1, 1) := by decide +kernel
theorem dX6_part_1 : decode cX6_part 1 = .ok (.ifCond .eq 10, 3) := by decide +kernel
theorem dX6_part_4 : decode cX6_part 4 = .ok (.aload_n 0, 1) := by decide +kernel
theorem dX6_part_5 : decode cX6_part 5 = .ok (.getfield 17, 3) := by decide +kernel
theorem dX6_part_8 : decode cX6_part 8 = .ok (.goto 7, 3) := by decide +kernel
theorem dX6_part_11 : decode cX6_part 11 = .ok (.aload_n 0, 1) := by decide +kernel
theorem dX6_part_12 : decode cX6_part 12 = .ok (.getfield 13, 3) := by decide +kernel
theorem dX6_part_15 : decode cX6_part 15 = .ok (.lreturn, 1) := by decide +kernel
theorem dX7_init_0 : decode cX7_init 0 = .ok (.aload_n 0, 1) := by decide +kernel
theorem dX7_init_1 : decode cX7_init 1 = .ok (.invokespecial 5, 3) := by decide +kernel
theorem dX7_init_4 : decode cX7_init 4 = .ok (.aload_n 0, 1) := by decide +kernel
theorem dX7_init_5 : decode cX7_init 5 = .ok (.bipush 51, 2) := by decide +kernel
theorem dX7_init_7 : decode cX7_init 7 = .ok (.newarray .int, 2) := by decide +kernel
theorem dX7_init_9 : decode cX7_init 9 = .ok (.putfield 11, 3) := by decide +kernel
theorem dX7_init_12 : decode cX7_init 12 = .ok (.return_, 1) := by decide +kernel
theorem dX7_begin_0 : decode cX7_begin 0 = .ok (.aload_n 0, 1) := by decide +kernel
theorem dX7_begin_1 : decode cX7_begin 1 = .ok (.getfield 11, 3) := by decide +kernel
theorem dX7_begin_4 : decode cX7_begin 4 = .ok (.iconst 0, 1) := by decide +kernel
theorem dX7_begin_5 : decode cX7_begin 5 = .ok (.iconst 0, 1) := by decide +kernel
theorem dX7_begin_6 : decode cX7_begin 6 = .ok (.iastore, 1) := by decide +kernel
theorem dX7_begin_7 : decode cX7_begin 7 = .ok (.aload_n 0, 1) := by decide +kernel
theorem dX7_begin_8 : decode cX7_begin 8 = .ok (.getfield 11, 3) := by decide +kernel
theorem dX7_begin_11 : decode cX7_begin 11 = .ok (.iconst 1, 1) := by decide +kernel
theorem dX7_begin_12 : decode cX7_begin 12 = .ok (.iconst 0, 1) := by decide +kernel
theorem dX7_begin_13 : decode cX7_begin 13 = .ok (.iastore, 1) := by decide +kernel
theorem dX7_begin_14 : decode cX7_begin 14 = .ok (.aload_n 0, 1) := by decide +kernel
theorem dX7_begin_15 : decode cX7_begin 15 = .ok (.getfield 11, 3) := by decide +kernel
theorem dX7_begin_18 : decode cX7_begin 18 = .ok (.iconst 2, 1) := by decide +kernel
theorem dX7_begin_19 : decode cX7_begin 19 = .ok (.iconst 0, 1) := by decide +kernel
theorem dX7_begin_20 : decode cX7_begin 20 = .ok (.iastore, 1) := by decide +kernel
theorem dX7_begin_21 : decode cX7_begin 21 = .ok (.iconst 0, 1) := by decide +kernel
theorem dX7_begin_22 : decode cX7_begin 22 = .ok (.istore_n 2, 1) := by decide +kernel
theorem dX7_begin_23 : decode cX7_begin 23 = .ok (.iload_n 2, 1) := by decide +kernel
theorem dX7_begin_24 : decode cX7_begin 24 = .ok (.aload_n 1, 1) := by decide +kernel
theorem dX7_begin_25 : decode cX7_begin 25 = .ok (.iconst 2, 1) := by decide +kernel
theorem dX7_begin_26 : decode cX7_begin 26 = .ok (.invokevirtual 15, 3) := by decide +kernel
theorem dX7_begin_29 : decode cX7_begin 29 = .ok (.if_icmp .ge 60, 3) := by decide +kernel
theorem dX7_begin_32 : decode cX7_begin 32 = .ok (.aload_n 0, 1) := by decide +kernel
theorem dX7_begin_33 : decode cX7_begin 33 = .ok (.aload_n 1, 1) := by decide +kernel
theorem dX7_begin_34 : decode cX7_begin 34 = .ok (.iconst 2, 1) := by decide +kernel
theorem dX7_begin_35 : decode cX7_begin 35 = .ok (.iload_n 2, 1) := by decide +kernel
theorem dX7_begin_36 : decode cX7_begin 36 = .ok (.iconst 1, 1) := by decide +kernel
theorem dX7_begin_37 : decode cX7_begin 37 = .ok (.invokevirtual 21, 3) := by decide +kernel
theorem dX7_begin_40 : decode cX7_begin 40 = .ok (.aload_n 1, 1) := by decide +kernel
theorem dX7_begin_41 : decode cX7_begin 41 = .ok (.iconst 2, 1) := by decide +kernel
theorem dX7_begin_42 : decode cX7_begin 42 = .ok (.iload_n 2, 1) := by decide +kernel
theorem dX7_begin_43 : decode cX7_begin 43 = .ok (.iconst 2, 1) := by decide +kernel
theorem dX7_begin_44 : decode cX7_begin 44 = .ok (.invokevirtual 21, 3) := by decide +kernel
theorem dX7_begin_47 : decode cX7_begin 47 = .ok (.aload_n 1, 1) := by decide +kernel
theorem dX7_begin_48 : decode cX7_begin 48 = .ok (.iconst 2, 1) := by decide +kernel
theorem dX7_begin_49 : decode cX7_begin 49 = .ok (.iload_n 2, 1) := by decide +kernel
theorem dX7_begin_50 : decode cX7_begin 50 = .ok (.iconst 3, 1) := by decide +kernel
theorem dX7_begin_51 : decode cX7_begin 51 = .ok (.invokevirtual 21, 3) := by decide +kernel
theorem dX7_begin_54 : decode cX7_begin 54 = .ok (.invokevirtual 25, 3) := by decide +kernel
theorem dX7_begin_57 : decode cX7_begin 57 = .ok (.aload_n 0, 1) := by decide +kernel
theorem dX7_begin_58 : decode cX7_begin 58 = .ok (.iload_n 2, 1) := by decide +kernel
theorem dX7_begin_59 : decode cX7_begin 59 = .ok (.iconst 0, 1) := by decide +kernel
theorem dX7_begin_60 : decode cX7_begin 60 = .ok (.aload_n 1, 1) := by decide +kernel
theorem dX7_begin_61 : decode cX7_begin 61 = .ok (.iconst 2, 1) := by decide +kernel
theorem dX7_begin_62 : decode cX7_begin 62 = .ok (.iload_n 2, 1) := by decide +kernel
theorem dX7_begin_63 : decode cX7_begin 63 = .ok (.iconst 0, 1) := by decide +kernel
theorem dX7_begin_64 : decode cX7_begin 64 = .ok (.invokevirtual 21, 3) := by decide +kernel
theorem dX7_begin_67 : decode cX7_begin 67 = .ok (.invokevirtual 29, 3) := by decide +kernel
theorem dX7_begin_70 : decode cX7_begin 70 = .ok (.aload_n 0, 1) := by decide +kernel
theorem dX7_begin_71 : decode cX7_begin 71 = .ok (.iload_n 2, 1) := by decide +kernel
theorem dX7_begin_72 : decode cX7_begin 72 = .ok (.iconst 4, 1) := by decide +kernel
theorem dX7_begin_73 : decode cX7_begin 73 = .ok (.aload_n 1, 1) := by decide +kernel
theorem dX7_begin_74 : decode cX7_begin 74 = .ok (.iconst 2, 1) := by decide +kernel
theorem dX7_begin_75 : decode cX7_begin 75 = .ok (.iload_n 2, 1) := by decide +kernel
theorem dX7_begin_76 : decode cX7_begin 76 = .ok (.iconst 4, 1) := by decide +kernel
theorem dX7_begin_77 : decode cX7_begin 77 = .ok (.invokevirtual 21, 3) := by decide +kernel
theorem dX7_begin_80 : decode cX7_begin 80 = .ok (.invokevirtual 29, 3) := by decide +kernel
theorem dX7_begin_83 : decode cX7_begin 83 = .ok (.iinc 2 1, 3) := by decide +kernel
theorem dX7_begin_86 : decode cX7_begin 86 = .ok (.goto (-63), 3) := by decide +kernel
theorem dX7_begin_89 : decode cX7_begin 89 = .ok (.return_, 1) := by decide +kernel
theorem dX7_addKept_0 : decode cX7_addKept 0 = .ok (.aload_n 0, 1) := by decide +kernel
theorem dX7_addKept_1 : decode cX7_addKept 1 = .ok (.getfield 11, 3) := by decide +kernel
theorem dX7_addKept_4 : decode cX7_addKept 4 = .ok (.iconst 1, 1) := by decide +kernel
theorem dX7_addKept_5 : decode cX7_addKept 5 = .ok (.iaload, 1) := by decide +kernel
theorem dX7_addKept_6 : decode cX7_addKept 6 = .ok (.istore 4, 2) := by decide +kernel
theorem dX7_addKept_8 : decode cX7_addKept 8 = .ok (.iload 4, 2) := by decide +kernel
theorem dX7_addKept_10 : decode cX7_addKept 10 = .ok (.bipush 8, 2) := by decide +kernel
theorem dX7_addKept_12 : decode cX7_addKept 12 = .ok (.if_icmp .ge 66, 3) := by decide +kernel
theorem dX7_addKept_15 : decode cX7_addKept 15 = .ok (.aload_n 0, 1) := by decide +kernel
theorem dX7_addKept_16 : decode cX7_addKept 16 = .ok (.getfield 11, 3) := by decide +kernel
theorem dX7_addKept_19 : decode cX7_addKept 19 = .ok (.iconst 1, 1) := by decide +kernel
theorem dX7_addKept_20 : decode cX7_addKept 20 = .ok (.iload 4, 2) := by decide +kernel
theorem dX7_addKept_22 : decode cX7_addKept 22 = .ok (.iconst 1, 1) := by decide +kernel
theorem dX7_addKept_23 : decode cX7_addKept 23 = .ok (.iadd, 1) := by decide +kernel
theorem dX7_addKept_24 : decode cX7_addKept 24 = .ok (.iastore, 1) := by decide +kernel
theorem dX7_addKept_25 : decode cX7_addKept 25 = .ok (.aload_n 0, 1) := by decide +kernel
theorem dX7_addKept_26 : decode cX7_addKept 26 = .ok (.iload 4, 2) := by decide +kernel
theorem dX7_addKept_28 : decode cX7_addKept 28 = .ok (.iconst 0, 1) := by decide +kernel
theorem dX7_addKept_29 : decode cX7_addKept 29 = .ok (.iconst 0, 1) := by decide +kernel
theorem dX7_addKept_30 : decode cX7_addKept 30 = .ok (.invokevirtual 29, 3) := by decide +kernel
theorem dX7_addKept_33 : decode cX7_addKept 33 = .ok (.aload_n 0, 1) := by decide +kernel
theorem dX7_addKept_34 : decode cX7_addKept 34 = .ok (.iload 4, 2) := by decide +kernel
theorem dX7_addKept_36 : decode cX7_addKept 36 = .ok (.iconst 1, 1) := by decide +kernel
theorem dX7_addKept_37 : decode cX7_addKept 37 = .ok (.iload_n 1, 1) := by decide +kernel
theorem dX7_addKept_38 : decode cX7_addKept 38 = .ok (.invokevirtual 29, 3) := by decide +kernel
theorem dX7_addKept_41 : decode cX7_addKept 41 = .ok (.aload_n 0, 1) := by decide +kernel
theorem dX7_addKept_42 : decode cX7_addKept 42 = .ok (.iload 4, 2) := by decide +kernel
theorem dX7_addKept_44 : decode cX7_addKept 44 = .ok (.iconst 2, 1) := by decide +kernel
theorem dX7_addKept_45 : decode cX7_addKept 45 = .ok (.iload_n 2, 1) := by decide +kernel
theorem dX7_addKept_46 : decode cX7_addKept 46 = .ok (.invokevirtual 29, 3) := by decide +kernel
theorem dX7_addKept_49 : decode cX7_addKept 49 = .ok (.aload_n 0, 1) := by decide +kernel
theorem dX7_addKept_50 : decode cX7_addKept 50 = .ok (.iload 4, 2) := by decide +kernel
theorem dX7_addKept_52 : decode cX7_addKept 52 = .ok (.iconst 3, 1) := by decide +kernel
theorem dX7_addKept_53 : decode cX7_addKept 53 = .ok (.iload_n 3, 1) := by decide +kernel
theorem dX7_addKept_54 : decode cX7_addKept 54 = .ok (.invokevirtual 29, 3) := by decide +kernel
theorem dX7_addKept_57 : decode cX7_addKept 57 = .ok (.aload_n 0, 1) := by decide +kernel
theorem dX7_addKept_58 : decode cX7_addKept 58 = .ok (.iload 4, 2) := by decide +kernel
theorem dX7_addKept_60 : decode cX7_addKept 60 = .ok (.iconst 4, 1) := by decide +kernel
theorem dX7_addKept_61 : decode cX7_addKept 61 = .ok (.iconst 0, 1) := by decide +kernel
theorem dX7_addKept_62 : decode cX7_addKept 62 = .ok (.invokevirtual 29, 3) := by decide +kernel
theorem dX7_addKept_65 : decode cX7_addKept 65 = .ok (.aload_n 0, 1) := by decide +kernel
theorem dX7_addKept_66 : decode cX7_addKept 66 = .ok (.iload 4, 2) := by decide +kernel
theorem dX7_addKept_68 : decode cX7_addKept 68 = .ok (.iconst 5, 1) := by decide +kernel
theorem dX7_addKept_69 : decode cX7_addKept 69 = .ok (.aload_n 0, 1) := by decide +kernel
theorem dX7_addKept_70 : decode cX7_addKept 70 = .ok (.getfield 11, 3) := by decide +kernel
theorem dX7_addKept_73 : decode cX7_addKept 73 = .ok (.iconst 0, 1) := by decide +kernel
theorem dX7_addKept_74 : decode cX7_addKept 74 = .ok (.iaload, 1) := by decide +kernel
theorem dX7_addKept_75 : decode cX7_addKept 75 = .ok (.invokevirtual 29, 3) := by decide +kernel
theorem dX7_addKept_78 : decode cX7_addKept 78 = .ok (.return_, 1) := by decide +kernel
theorem dX7_isThere_0 : decode cX7_isThere 0 = .ok (.iload_n 1, 1) := by decide +kernel
theorem dX7_isThere_1 : decode cX7_isThere 1 = .ok (.ifCond .lt 33, 3) := by decide +kernel
theorem dX7_isThere_4 : decode cX7_isThere 4 = .ok (.iload_n 1, 1) := by decide +kernel
theorem dX7_isThere_5 : decode cX7_isThere 5 = .ok (.aload_n 0, 1) := by decide +kernel
theorem dX7_isThere_6 : decode cX7_isThere 6 = .ok (.getfield 11, 3) := by decide +kernel
theorem dX7_isThere_9 : decode cX7_isThere 9 = .ok (.iconst 1, 1) := by decide +kernel
theorem dX7_isThere_10 : decode cX7_isThere 10 = .ok (.iaload, 1) := by decide +kernel
theorem dX7_isThere_11 : decode cX7_isThere 11 = .ok (.if_icmp .ge 23, 3) := by decide +kernel
theorem dX7_isThere_14 : decode cX7_isThere 14 = .ok (.iload_n 1, 1) := by decide +kernel
theorem dX7_isThere_15 : decode cX7_isThere 15 = .ok (.bipush 8, 2) := by decide +kernel
theorem dX7_isThere_17 : decode cX7_isThere 17 = .ok (.if_icmp .ge 17, 3) := by decide +kernel
theorem dX7_isThere_20 : decode cX7_isThere 20 = .ok (.iload_n 2, 1) := by decide +kernel
theorem dX7_isThere_21 : decode cX7_isThere 21 = .ok (.ifCond .lt 13, 3) := by decide +kernel
theorem dX7_isThere_24 : decode cX7_isThere 24 = .ok (.iload_n 2, 1) := by decide +kernel
theorem dX7_isThere_25 : decode cX7_isThere 25 = .ok (.bipush 6, 2) := by decide +kernel
theorem dX7_isThere_27 : decode cX7_isThere 27 = .ok (.if_icmp .ge 7, 3) := by decide +kernel
theorem dX7_isThere_30 : decode cX7_isThere 30 = .ok (.iconst 1, 1) := by decide +kernel
theorem dX7_isThere_31 : decode cX7_isThere 31 = .ok (.goto 4, 3) := by decide +kernel
theorem dX7_isThere_34 : decode cX7_isThere 34 = .ok (.iconst 0, 1) := by decide +kernel
theorem dX7_isThere_35 : decode cX7_isThere 35 = .ok (.ireturn, 1) := by decide +kernel
theorem dX7_setCell_0 : decode cX7_setCell 0 = .ok (.aload_n 0, 1) := by decide +kernel
theorem dX7_setCell_1 : decode cX7_setCell 1 = .ok (.iload_n 1, 1) := by decide +kernel
theorem dX7_setCell_2 : decode cX7_setCell 2 = .ok (.iload_n 2, 1) := by decide +kernel
theorem dX7_setCell_3 : decode cX7_setCell 3 = .ok (.invokevirtual 32, 3) := by decide +kernel
theorem dX7_setCell_6 : decode cX7_setCell 6 = .ok (.ifCond .eq 17, 3) := by decide +kernel
theorem dX7_setCell_9 : decode cX7_setCell 9 = .ok (.aload_n 0, 1) := by decide +kernel
theorem dX7_setCell_10 : decode cX7_setCell 10 = .ok (.getfield 11, 3) := by decide +kernel
theorem dX7_setCell_13 : decode cX7_setCell 13 = .ok (.iconst 3, 1) := by decide +kernel
theorem dX7_setCell_14 : decode cX7_setCell 14 = .ok (.iload_n 1, 1) := by decide +kernel
theorem dX7_setCell_15 : decode cX7_setCell 15 = .ok (.bipush 6, 2) := by decide +kernel
theorem dX7_setCell_17 : decode cX7_setCell 17 = .ok (.imul, 1) := by decide +kernel
theorem dX7_setCell_18 : decode cX7_setCell 18 = .ok (.iadd, 1) := by decide +kernel
theorem dX7_setCell_19 : decode cX7_setCell 19 = .ok (.iload_n 2, 1) := by decide +kernel
theorem dX7_setCell_20 : decode cX7_setCell 20 = .ok (.iadd, 1) := by decide +kernel
theorem dX7_setCell_21 : decode cX7_setCell 21 = .ok (.iload_n 3, 1) := by decide +kernel
theorem dX7_setCell_22 : decode cX7_setCell 22 = .ok (.iastore, 1) := by decide +kernel
theorem dX7_setCell_23 : decode cX7_setCell 23 = .ok (.return_, 1) := by decide +kernel
theorem dX7_cell_0 : decode cX7_cell 0 = .ok (.aload_n 0, 1) := by decide +kernel
theorem dX7_cell_1 : decode cX7_cell 1 = .ok (.iload_n 1, 1) := by decide +kernel
theorem dX7_cell_2 : decode cX7_cell 2 = .ok (.iload_n 2, 1) := by decide +kernel
theorem dX7_cell_3 : decode cX7_cell 3 = .ok (.invokevirtual 32, 3) := by decide +kernel
theorem dX7_cell_6 : decode cX7_cell 6 = .ok (.ifCond .eq 19, 3) := by decide +kernel
theorem dX7_cell_9 : decode cX7_cell 9 = .ok (.aload_n 0, 1) := by decide +kernel
theorem dX7_cell_10 : decode cX7_cell 10 = .ok (.getfield 11, 3) := by decide +kernel
theorem dX7_cell_13 : decode cX7_cell 13 = .ok (.iconst 3, 1) := by decide +kernel
theorem dX7_cell_14 : decode cX7_cell 14 = .ok (.iload_n 1, 1) := by decide +kernel
theorem dX7_cell_15 : decode cX7_cell 15 = .ok (.bipush 6, 2) := by decide +kernel
theorem dX7_cell_17 : decode cX7_cell 17 = .ok (.imul, 1) := by decide +kernel
theorem dX7_cell_18 : decode cX7_cell 18 = .ok (.iadd, 1) := by decide +kernel
theorem dX7_cell_19 : decode cX7_cell 19 = .ok (.iload_n 2, 1) := by decide +kernel
theorem dX7_cell_20 : decode cX7_cell 20 = .ok (.iadd, 1) := by decide +kernel
theorem dX7_cell_21 : decode cX7_cell 21 = .ok (.iaload, 1) := by decide +kernel
theorem dX7_cell_22 : decode cX7_cell 22 = .ok (.goto 4, 3) := by decide +kernel
theorem dX7_cell_25 : decode cX7_cell 25 = .ok (.iconst 0, 1) := by decide +kernel
theorem dX7_cell_26 : decode cX7_cell 26 = .ok (.ireturn, 1) := by decide +kernel
theorem dX7_threads_0 : decode cX7_threads 0 = .ok (.aload_n 0, 1) := by decide +kernel
theorem dX7_threads_1 : decode cX7_threads 1 = .ok (.getfield 11, 3) := by decide +kernel
theorem dX7_threads_4 : decode cX7_threads 4 = .ok (.iconst 1, 1) := by decide +kernel
theorem dX7_threads_5 : decode cX7_threads 5 = .ok (.iaload, 1) := by decide +kernel
theorem dX7_threads_6 : decode cX7_threads 6 = .ok (.ireturn, 1) := by decide +kernel
theorem dX7_yearsGone_0 : decode cX7_yearsGone 0 = .ok (.aload_n 0, 1) := by decide +kernel
theorem dX7_yearsGone_1 : decode cX7_yearsGone 1 = .ok (.getfield 11, 3) := by decide +kernel
theorem dX7_yearsGone_4 : decode cX7_yearsGone 4 = .ok (.iconst 0, 1) := by decide +kernel
theorem dX7_yearsGone_5 : decode cX7_yearsGone 5 = .ok (.iaload, 1) := by decide +kernel
theorem dX7_yearsGone_6 : decode cX7_yearsGone 6 = .ok (.ireturn, 1) := by decide +kernel
theorem dX7_age_0 : decode cX7_age 0 = .ok (.aload_n 0, 1) := by decide +kernel
theorem dX7_age_1 : decode cX7_age 1 = .ok (.getfield 11, 3) := by decide +kernel
theorem dX7_age_4 : decode cX7_age 4 = .ok (.iconst 0, 1) := by decide +kernel
theorem dX7_age_5 : decode cX7_age 5 = .ok (.iaload, 1) := by decide +kernel
theorem dX7_age_6 : decode cX7_age 6 = .ok (.aload_n 0, 1) := by decide +kernel
theorem dX7_age_7 : decode cX7_age 7 = .ok (.iload_n 1, 1) := by decide +kernel
theorem dX7_age_8 : decode cX7_age 8 = .ok (.iconst 5, 1) := by decide +kernel
theorem dX7_age_9 : decode cX7_age 9 = .ok (.invokevirtual 36, 3) := by decide +kernel
theorem dX7_age_12 : decode cX7_age 12 = .ok (.isub, 1) := by decide +kernel
theorem dX7_age_13 : decode cX7_age 13 = .ok (.ireturn, 1) := by decide +kernel
theorem dX7_isSnapped_0 : decode cX7_isSnapped 0 = .ok (.aload_n 0, 1) := by decide +kernel
theorem dX7_isSnapped_1 : decode cX7_isSnapped 1 = .ok (.getfield 11, 3) := by decide +kernel
theorem dX7_isSnapped_4 : decode cX7_isSnapped 4 = .ok (.iconst 2, 1) := by decide +kernel
theorem dX7_isSnapped_5 : decode cX7_isSnapped 5 = .ok (.iaload, 1) := by decide +kernel
theorem dX7_isSnapped_6 : decode cX7_isSnapped 6 = .ok (.iload_n 1, 1) := by decide +kernel
theorem dX7_isSnapped_7 : decode cX7_isSnapped 7 = .ok (.invokestatic 39, 3) := by decide +kernel
theorem dX7_isSnapped_10 : decode cX7_isSnapped 10 = .ok (.ireturn, 1) := by decide +kernel
theorem dX7_strength_0 : decode cX7_strength 0 = .ok (.aload_n 0, 1) := by decide +kernel
theorem dX7_strength_1 : decode cX7_strength 1 = .ok (.iload_n 1, 1) := by decide +kernel
theorem dX7_strength_2 : decode cX7_strength 2 = .ok (.invokevirtual 42, 3) := by decide +kernel
theorem dX7_strength_5 : decode cX7_strength 5 = .ok (.ifCond .eq 5, 3) := by decide +kernel
theorem dX7_strength_8 : decode cX7_strength 8 = .ok (.iconst 0, 1) := by decide +kernel
theorem dX7_strength_9 : decode cX7_strength 9 = .ok (.ireturn, 1) := by decide +kernel
theorem dX7_strength_10 : decode cX7_strength 10 = .ok (.aload_n 0, 1) := by decide +kernel
theorem dX7_strength_11 : decode cX7_strength 11 = .ok (.iload_n 1, 1) := by decide +kernel
theorem dX7_strength_12 : decode cX7_strength 12 = .ok (.iconst 3, 1) := by decide +kernel
theorem dX7_strength_13 : decode cX7_strength 13 = .ok (.invokevirtual 36, 3) := by decide +kernel
theorem dX7_strength_16 : decode cX7_strength 16 = .ok (.istore_n 3, 1) := by decide +kernel
theorem dX7_strength_17 : decode cX7_strength 17 = .ok (.aload_n 0, 1) := by decide +kernel
theorem dX7_strength_18 : decode cX7_strength 18 = .ok (.iload_n 1, 1) := by decide +kernel
theorem dX7_strength_19 : decode cX7_strength 19 = .ok (.iconst 4, 1) := by decide +kernel
theorem dX7_strength_20 : decode cX7_strength 20 = .ok (.invokevirtual 36, 3) := by decide +kernel
theorem dX7_strength_23 : decode cX7_strength 23 = .ok (.istore 4, 2) := by decide +kernel
theorem dX7_strength_25 : decode cX7_strength 25 = .ok (.aload_n 0, 1) := by decide +kernel
theorem dX7_strength_26 : decode cX7_strength 26 = .ok (.getfield 11, 3) := by decide +kernel
theorem dX7_strength_29 : decode cX7_strength 29 = .ok (.iconst 0, 1) := by decide +kernel
theorem dX7_strength_30 : decode cX7_strength 30 = .ok (.iaload, 1) := by decide +kernel
theorem dX7_strength_31 : decode cX7_strength 31 = .ok (.aload_n 0, 1) := by decide +kernel
theorem dX7_strength_32 : decode cX7_strength 32 = .ok (.iload_n 1, 1) := by decide +kernel
theorem dX7_strength_33 : decode cX7_strength 33 = .ok (.iconst 5, 1) := by decide +kernel
theorem dX7_strength_34 : decode cX7_strength 34 = .ok (.invokevirtual 36, 3) := by decide +kernel
theorem dX7_strength_37 : decode cX7_strength 37 = .ok (.isub, 1) := by decide +kernel
theorem dX7_strength_38 : decode cX7_strength 38 = .ok (.iload_n 2, 1) := by decide +kernel
theorem dX7_strength_39 : decode cX7_strength 39 = .ok (.iadd, 1) := by decide +kernel
theorem dX7_strength_40 : decode cX7_strength 40 = .ok (.istore 5, 2) := by decide +kernel
theorem dX7_strength_42 : decode cX7_strength 42 = .ok (.aload_n 0, 1) := by decide +kernel
theorem dX7_strength_43 : decode cX7_strength 43 = .ok (.iload_n 1, 1) := by decide +kernel
theorem dX7_strength_44 : decode cX7_strength 44 = .ok (.iconst 0, 1) := by decide +kernel
theorem dX7_strength_45 : decode cX7_strength 45 = .ok (.invokevirtual 36, 3) := by decide +kernel
theorem dX7_strength_48 : decode cX7_strength 48 = .ok (.tableswitch 66 1 3 #[28, 40, 53], 28) := by decide +kernel
theorem dX7_strength_76 : decode cX7_strength 76 = .ok (.iconst 0, 1) := by decide +kernel
theorem dX7_strength_77 : decode cX7_strength 77 = .ok (.iload_n 3, 1) := by decide +kernel
theorem dX7_strength_78 : decode cX7_strength 78 = .ok (.iload 4, 2) := by decide +kernel
theorem dX7_strength_80 : decode cX7_strength 80 = .ok (.iload 5, 2) := by decide +kernel
theorem dX7_strength_82 : decode cX7_strength 82 = .ok (.imul, 1) := by decide +kernel
theorem dX7_strength_83 : decode cX7_strength 83 = .ok (.isub, 1) := by decide +kernel
theorem dX7_strength_84 : decode cX7_strength 84 = .ok (.invokestatic 46, 3) := by decide +kernel
theorem dX7_strength_87 : decode cX7_strength 87 = .ok (.ireturn, 1) := by decide +kernel
theorem dX7_strength_88 : decode cX7_strength 88 = .ok (.bipush 99, 2) := by decide +kernel
theorem dX7_strength_90 : decode cX7_strength 90 = .ok (.iload_n 3, 1) := by decide +kernel
theorem dX7_strength_91 : decode cX7_strength 91 = .ok (.iload 4, 2) := by decide +kernel
theorem dX7_strength_93 : decode cX7_strength 93 = .ok (.iload 5, 2) := by decide +kernel
theorem dX7_strength_95 : decode cX7_strength 95 = .ok (.imul, 1) := by decide +kernel
theorem dX7_strength_96 : decode cX7_strength 96 = .ok (.iadd, 1) := by decide +kernel
theorem dX7_strength_97 : decode cX7_strength 97 = .ok (.invokestatic 51, 3) := by decide +kernel
theorem dX7_strength_100 : decode cX7_strength 100 = .ok (.ireturn, 1) := by decide +kernel
theorem dX7_strength_101 : decode cX7_strength 101 = .ok (.iload 5, 2) := by decide +kernel
theorem dX7_strength_103 : decode cX7_strength 103 = .ok (.iload 4, 2) := by decide +kernel
theorem dX7_strength_105 : decode cX7_strength 105 = .ok (.if_icmp .lt 7, 3) := by decide +kernel
theorem dX7_strength_108 : decode cX7_strength 108 = .ok (.iconst 0, 1) := by decide +kernel
theorem dX7_strength_109 : decode cX7_strength 109 = .ok (.goto 4, 3) := by decide +kernel
theorem dX7_strength_112 : decode cX7_strength 112 = .ok (.iload_n 3, 1) := by decide +kernel
theorem dX7_strength_113 : decode cX7_strength 113 = .ok (.ireturn, 1) := by decide +kernel
theorem dX7_strength_114 : decode cX7_strength 114 = .ok (.iload_n 3, 1) := by decide +kernel
theorem dX7_strength_115 : decode cX7_strength 115 = .ok (.ireturn, 1) := by decide +kernel
theorem dX7_passYear_0 : decode cX7_passYear 0 = .ok (.aload_n 0, 1) := by decide +kernel
theorem dX7_passYear_1 : decode cX7_passYear 1 = .ok (.getfield 11, 3) := by decide +kernel
theorem dX7_passYear_4 : decode cX7_passYear 4 = .ok (.iconst 0, 1) := by decide +kernel
theorem dX7_passYear_5 : decode cX7_passYear 5 = .ok (.dup2, 1) := by decide +kernel
theorem dX7_passYear_6 : decode cX7_passYear 6 = .ok (.iaload, 1) := by decide +kernel
theorem dX7_passYear_7 : decode cX7_passYear 7 = .ok (.iconst 1, 1) := by decide +kernel
theorem dX7_passYear_8 : decode cX7_passYear 8 = .ok (.iadd, 1) := by decide +kernel
theorem dX7_passYear_9 : decode cX7_passYear 9 = .ok (.iastore, 1) := by decide +kernel
theorem dX7_passYear_10 : decode cX7_passYear 10 = .ok (.return_, 1) := by decide +kernel
theorem dX7_setSnapped_0 : decode cX7_setSnapped 0 = .ok (.aload_n 0, 1) := by decide +kernel
theorem dX7_setSnapped_1 : decode cX7_setSnapped 1 = .ok (.getfield 11, 3) := by decide +kernel
theorem dX7_setSnapped_4 : decode cX7_setSnapped 4 = .ok (.iconst 2, 1) := by decide +kernel
theorem dX7_setSnapped_5 : decode cX7_setSnapped 5 = .ok (.dup2, 1) := by decide +kernel
theorem dX7_setSnapped_6 : decode cX7_setSnapped 6 = .ok (.iaload, 1) := by decide +kernel
theorem dX7_setSnapped_7 : decode cX7_setSnapped 7 = .ok (.iconst 1, 1) := by decide +kernel
theorem dX7_setSnapped_8 : decode cX7_setSnapped 8 = .ok (.iload_n 1, 1) := by decide +kernel
theorem dX7_setSnapped_9 : decode cX7_setSnapped 9 = .ok (.ishl, 1) := by decide +kernel
theorem dX7_setSnapped_10 : decode cX7_setSnapped 10 = .ok (.ior, 1) := by decide +kernel
theorem dX7_setSnapped_11 : decode cX7_setSnapped 11 = .ok (.iastore, 1) := by decide +kernel
theorem dX7_setSnapped_12 : decode cX7_setSnapped 12 = .ok (.return_, 1) := by decide +kernel
theorem dX7_renew_0 : decode cX7_renew 0 = .ok (.aload_n 0, 1) := by decide +kernel
theorem dX7_renew_1 : decode cX7_renew 1 = .ok (.getfield 11, 3) := by decide +kernel
theorem dX7_renew_4 : decode cX7_renew 4 = .ok (.iconst 2, 1) := by decide +kernel
theorem dX7_renew_5 : decode cX7_renew 5 = .ok (.dup2, 1) := by decide +kernel
theorem dX7_renew_6 : decode cX7_renew 6 = .ok (.iaload, 1) := by decide +kernel
theorem dX7_renew_7 : decode cX7_renew 7 = .ok (.iconst 1, 1) := by decide +kernel
theorem dX7_renew_8 : decode cX7_renew 8 = .ok (.iload_n 1, 1) := by decide +kernel
theorem dX7_renew_9 : decode cX7_renew 9 = .ok (.ishl, 1) := by decide +kernel
theorem dX7_renew_10 : decode cX7_renew 10 = .ok (.iconst (-1), 1) := by decide +kernel
theorem dX7_renew_11 : decode cX7_renew 11 = .ok (.ixor, 1) := by decide +kernel
theorem dX7_renew_12 : decode cX7_renew 12 = .ok (.iand, 1) := by decide +kernel
theorem dX7_renew_13 : decode cX7_renew 13 = .ok (.iastore, 1) := by decide +kernel
theorem dX7_renew_14 : decode cX7_renew 14 = .ok (.aload_n 0, 1) := by decide +kernel
theorem dX7_renew_15 : decode cX7_renew 15 = .ok (.iload_n 1, 1) := by decide +kernel
theorem dX7_renew_16 : decode cX7_renew 16 = .ok (.iconst 5, 1) := by decide +kernel
theorem dX7_renew_17 : decode cX7_renew 17 = .ok (.aload_n 0, 1) := by decide +kernel
theorem dX7_renew_18 : decode cX7_renew 18 = .ok (.getfield 11, 3) := by decide +kernel
theorem dX7_renew_21 : decode cX7_renew 21 = .ok (.iconst 0, 1) := by decide +kernel
theorem dX7_renew_22 : decode cX7_renew 22 = .ok (.iaload, 1) := by decide +kernel
theorem dX7_renew_23 : decode cX7_renew 23 = .ok (.invokevirtual 29, 3) := by decide +kernel
theorem dX7_renew_26 : decode cX7_renew 26 = .ok (.return_, 1) := by decide +kernel
theorem dX7_copyTo_0 : decode cX7_copyTo 0 = .ok (.iload_n 2, 1) := by decide +kernel
theorem dX7_copyTo_1 : decode cX7_copyTo 1 = .ok (.ifCond .lt 27, 3) := by decide +kernel
theorem dX7_copyTo_4 : decode cX7_copyTo 4 = .ok (.iload_n 2, 1) := by decide +kernel
theorem dX7_copyTo_5 : decode cX7_copyTo 5 = .ok (.aload_n 1, 1) := by decide +kernel
theorem dX7_copyTo_6 : decode cX7_copyTo 6 = .ok (.arraylength, 1) := by decide +kernel
theorem dX7_copyTo_7 : decode cX7_copyTo 7 = .ok (.bipush 51, 2) := by decide +kernel
theorem dX7_copyTo_9 : decode cX7_copyTo 9 = .ok (.idiv, 1) := by decide +kernel
theorem dX7_copyTo_10 : decode cX7_copyTo 10 = .ok (.if_icmp .ge 18, 3) := by decide +kernel
theorem dX7_copyTo_13 : decode cX7_copyTo 13 = .ok (.aload_n 0, 1) := by decide +kernel
theorem dX7_copyTo_14 : decode cX7_copyTo 14 = .ok (.getfield 11, 3) := by decide +kernel
theorem dX7_copyTo_17 : decode cX7_copyTo 17 = .ok (.iconst 0, 1) := by decide +kernel
theorem dX7_copyTo_18 : decode cX7_copyTo 18 = .ok (.aload_n 1, 1) := by decide +kernel
theorem dX7_copyTo_19 : decode cX7_copyTo 19 = .ok (.iload_n 2, 1) := by decide +kernel
theorem dX7_copyTo_20 : decode cX7_copyTo 20 = .ok (.bipush 51, 2) := by decide +kernel
theorem dX7_copyTo_22 : decode cX7_copyTo 22 = .ok (.imul, 1) := by decide +kernel
theorem dX7_copyTo_23 : decode cX7_copyTo 23 = .ok (.bipush 51, 2) := by decide +kernel
theorem dX7_copyTo_25 : decode cX7_copyTo 25 = .ok (.invokestatic 54, 3) := by decide +kernel
theorem dX7_copyTo_28 : decode cX7_copyTo 28 = .ok (.return_, 1) := by decide +kernel
theorem dX7_copyFrom_0 : decode cX7_copyFrom 0 = .ok (.iload_n 2, 1) := by decide +kernel
theorem dX7_copyFrom_1 : decode cX7_copyFrom 1 = .ok (.ifCond .lt 27, 3) := by decide +kernel
theorem dX7_copyFrom_4 : decode cX7_copyFrom 4 = .ok (.iload_n 2, 1) := by decide +kernel
theorem dX7_copyFrom_5 : decode cX7_copyFrom 5 = .ok (.aload_n 1, 1) := by decide +kernel
theorem dX7_copyFrom_6 : decode cX7_copyFrom 6 = .ok (.arraylength, 1) := by decide +kernel
theorem dX7_copyFrom_7 : decode cX7_copyFrom 7 = .ok (.bipush 51, 2) := by decide +kernel
theorem dX7_copyFrom_9 : decode cX7_copyFrom 9 = .ok (.idiv, 1) := by decide +kernel
theorem dX7_copyFrom_10 : decode cX7_copyFrom 10 = .ok (.if_icmp .ge 18, 3) := by decide +kernel
theorem dX7_copyFrom_13 : decode cX7_copyFrom 13 = .ok (.aload_n 1, 1) := by decide +kernel
theorem dX7_copyFrom_14 : decode cX7_copyFrom 14 = .ok (.iload_n 2, 1) := by decide +kernel
theorem dX7_copyFrom_15 : decode cX7_copyFrom 15 = .ok (.bipush 51, 2) := by decide +kernel
theorem dX7_copyFrom_17 : decode cX7_copyFrom 17 = .ok (.imul, 1) := by decide +kernel
theorem dX7_copyFrom_18 : decode cX7_copyFrom 18 = .ok (.aload_n 0, 1) := by decide +kernel
theorem dX7_copyFrom_19 : decode cX7_copyFrom 19 = .ok (.getfield 11, 3) := by decide +kernel
theorem dX7_copyFrom_22 : decode cX7_copyFrom 22 = .ok (.iconst 0, 1) := by decide +kernel
theorem dX7_copyFrom_23 : decode cX7_copyFrom 23 = .ok (.bipush 51, 2) := by decide +kernel
theorem dX7_copyFrom_25 : decode cX7_copyFrom 25 = .ok (.invokestatic 54, 3) := by decide +kernel
theorem dX7_copyFrom_28 : decode cX7_copyFrom 28 = .ok (.return_, 1) := by decide +kernel
theorem dX8_init_0 : decode cX8_init 0 = .ok (.aload_n 0, 1) := by decide +kernel
theorem dX8_init_1 : decode cX8_init 1 = .ok (.invokespecial 3, 3) := by decide +kernel
theorem dX8_init_4 : decode cX8_init 4 = .ok (.aload_n 0, 1) := by decide +kernel
theorem dX8_init_5 : decode cX8_init 5 = .ok (.bipush 48, 2) := by decide +kernel
theorem dX8_init_7 : decode cX8_init 7 = .ok (.newarray .int, 2) := by decide +kernel
theorem dX8_init_9 : decode cX8_init 9 = .ok (.putfield 11, 3) := by decide +kernel
theorem dX8_init_12 : decode cX8_init 12 = .ok (.return_, 1) := by decide +kernel
theorem dX8_add_0 : decode cX8_add 0 = .ok (.aload_n 0, 1) := by decide +kernel
theorem dX8_add_1 : decode cX8_add 1 = .ok (.getfield 15, 3) := by decide +kernel
theorem dX8_add_4 : decode cX8_add 4 = .ok (.bipush 8, 2) := by decide +kernel
theorem dX8_add_6 : decode cX8_add 6 = .ok (.if_icmp .ge 38, 3) := by decide +kernel
theorem dX8_add_9 : decode cX8_add 9 = .ok (.aload_n 1, 1) := by decide +kernel
theorem dX8_add_10 : decode cX8_add 10 = .ok (.arraylength, 1) := by decide +kernel
theorem dX8_add_11 : decode cX8_add 11 = .ok (.bipush 6, 2) := by decide +kernel
theorem dX8_add_13 : decode cX8_add 13 = .ok (.if_icmp .lt 31, 3) := by decide +kernel
theorem dX8_add_16 : decode cX8_add 16 = .ok (.aload_n 1, 1) := by decide +kernel
theorem dX8_add_17 : decode cX8_add 17 = .ok (.iconst 0, 1) := by decide +kernel
theorem dX8_add_18 : decode cX8_add 18 = .ok (.aload_n 0, 1) := by decide +kernel
theorem dX8_add_19 : decode cX8_add 19 = .ok (.getfield 11, 3) := by decide +kernel
theorem dX8_add_22 : decode cX8_add 22 = .ok (.aload_n 0, 1) := by decide +kernel
theorem dX8_add_23 : decode cX8_add 23 = .ok (.getfield 15, 3) := by decide +kernel
theorem dX8_add_26 : decode cX8_add 26 = .ok (.bipush 6, 2) := by decide +kernel
theorem dX8_add_28 : decode cX8_add 28 = .ok (.imul, 1) := by decide +kernel
theorem dX8_add_29 : decode cX8_add 29 = .ok (.bipush 6, 2) := by decide +kernel
theorem dX8_add_31 : decode cX8_add 31 = .ok (.invokestatic 19, 3) := by decide +kernel
theorem dX8_add_34 : decode cX8_add 34 = .ok (.aload_n 0, 1) := by decide +kernel
theorem dX8_add_35 : decode cX8_add 35 = .ok (.dup, 1) := by decide +kernel
theorem dX8_add_36 : decode cX8_add 36 = .ok (.getfield 15, 3) := by decide +kernel
theorem dX8_add_39 : decode cX8_add 39 = .ok (.iconst 1, 1) := by decide +kernel
theorem dX8_add_40 : decode cX8_add 40 = .ok (.iadd, 1) := by decide +kernel
theorem dX8_add_41 : decode cX8_add 41 = .ok (.putfield 15, 3) := by decide +kernel
theorem dX8_add_44 : decode cX8_add 44 = .ok (.return_, 1) := by decide +kernel
theorem dX8_cell_0 : decode cX8_cell 0 = .ok (.iload_n 1, 1) := by decide +kernel
theorem dX8_cell_1 : decode cX8_cell 1 = .ok (.ifCond .lt 25, 3) := by decide +kernel
theorem dX8_cell_4 : decode cX8_cell 4 = .ok (.iload_n 1, 1) := by decide +kernel
theorem dX8_cell_5 : decode cX8_cell 5 = .ok (.aload_n 0, 1) := by decide +kernel
theorem dX8_cell_6 : decode cX8_cell 6 = .ok (.getfield 15, 3) := by decide +kernel
theorem dX8_cell_9 : decode cX8_cell 9 = .ok (.if_icmp .ge 17, 3) := by decide +kernel
theorem dX8_cell_12 : decode cX8_cell 12 = .ok (.iload_n 2, 1) := by decide +kernel
theorem dX8_cell_13 : decode cX8_cell 13 = .ok (.ifCond .lt 13, 3) := by decide +kernel
theorem dX8_cell_16 : decode cX8_cell 16 = .ok (.iload_n 2, 1) := by decide +kernel
theorem dX8_cell_17 : decode cX8_cell 17 = .ok (.bipush 6, 2) := by decide +kernel
theorem dX8_cell_19 : decode cX8_cell 19 = .ok (.if_icmp .ge 7, 3) := by decide +kernel
theorem dX8_cell_22 : decode cX8_cell 22 = .ok (.iconst 1, 1) := by decide +kernel
theorem dX8_cell_23 : decode cX8_cell 23 = .ok (.goto 4, 3) := by decide +kernel
theorem dX8_cell_26 : decode cX8_cell 26 = .ok (.iconst 0, 1) := by decide +kernel
theorem dX8_cell_27 : decode cX8_cell 27 = .ok (.istore_n 3, 1) := by decide +kernel
theorem dX8_cell_28 : decode cX8_cell 28 = .ok (.iload_n 3, 1) := by decide +kernel
theorem dX8_cell_29 : decode cX8_cell 29 = .ok (.ifCond .eq 17, 3) := by decide +kernel
theorem dX8_cell_32 : decode cX8_cell 32 = .ok (.aload_n 0, 1) := by decide +kernel
theorem dX8_cell_33 : decode cX8_cell 33 = .ok (.getfield 11, 3) := by decide +kernel
theorem dX8_cell_36 : decode cX8_cell 36 = .ok (.iload_n 1, 1) := by decide +kernel
theorem dX8_cell_37 : decode cX8_cell 37 = .ok (.bipush 6, 2) := by decide +kernel
theorem dX8_cell_39 : decode cX8_cell 39 = .ok (.imul, 1) := by decide +kernel
theorem dX8_cell_40 : decode cX8_cell 40 = .ok (.iload_n 2, 1) := by decide +kernel
theorem dX8_cell_41 : decode cX8_cell 41 = .ok (.iadd, 1) := by decide +kernel
theorem dX8_cell_42 : decode cX8_cell 42 = .ok (.iaload, 1) := by decide +kernel
theorem dX8_cell_43 : decode cX8_cell 43 = .ok (.goto 4, 3) := by decide +kernel
theorem dX8_cell_46 : decode cX8_cell 46 = .ok (.iconst 0, 1) := by decide +kernel
theorem dX8_cell_47 : decode cX8_cell 47 = .ok (.ireturn, 1) := by decide +kernel
theorem dX8_copyFrom_0 : decode cX8_copyFrom 0 = .ok (.aload_n 1, 1) := by decide +kernel
theorem dX8_copyFrom_1 : decode cX8_copyFrom 1 = .ok (.getfield 11, 3) := by decide +kernel
theorem dX8_copyFrom_4 : decode cX8_copyFrom 4 = .ok (.iconst 0, 1) := by decide +kernel
theorem dX8_copyFrom_5 : decode cX8_copyFrom 5 = .ok (.aload_n 0, 1) := by decide +kernel
theorem dX8_copyFrom_6 : decode cX8_copyFrom 6 = .ok (.getfield 11, 3) := by decide +kernel
theorem dX8_copyFrom_9 : decode cX8_copyFrom 9 = .ok (.iconst 0, 1) := by decide +kernel
theorem dX8_copyFrom_10 : decode cX8_copyFrom 10 = .ok (.bipush 48, 2) := by decide +kernel
theorem dX8_copyFrom_12 : decode cX8_copyFrom 12 = .ok (.invokestatic 19, 3) := by decide +kernel
theorem dX8_copyFrom_15 : decode cX8_copyFrom 15 = .ok (.aload_n 0, 1) := by decide +kernel
theorem dX8_copyFrom_16 : decode cX8_copyFrom 16 = .ok (.aload_n 1, 1) := by decide +kernel
theorem dX8_copyFrom_17 : decode cX8_copyFrom 17 = .ok (.getfield 15, 3) := by decide +kernel
theorem dX8_copyFrom_20 : decode cX8_copyFrom 20 = .ok (.putfield 15, 3) := by decide +kernel
theorem dX8_copyFrom_23 : decode cX8_copyFrom 23 = .ok (.return_, 1) := by decide +kernel
theorem dX9_init_0 : decode cX9_init 0 = .ok (.aload_n 0, 1) := by decide +kernel
theorem dX9_init_1 : decode cX9_init 1 = .ok (.invokespecial 1, 3) := by decide +kernel
theorem dX9_init_4 : decode cX9_init 4 = .ok (.aload_n 0, 1) := by decide +kernel
theorem dX9_init_5 : decode cX9_init 5 = .ok (.sipush 900, 3) := by decide +kernel
theorem dX9_init_8 : decode cX9_init 8 = .ok (.newarray .byte, 2) := by decide +kernel
theorem dX9_init_10 : decode cX9_init 10 = .ok (.putfield 9, 3) := by decide +kernel
theorem dX9_init_13 : decode cX9_init 13 = .ok (.return_, 1) := by decide +kernel
theorem dX9_takesTwenty_0 : decode cX9_takesTwenty 0 = .ok (.aload_n 0, 1) := by decide +kernel
theorem dX9_takesTwenty_1 : decode cX9_takesTwenty 1 = .ok (.getfield 13, 3) := by decide +kernel
theorem dX9_takesTwenty_4 : decode cX9_takesTwenty 4 = .ok (.bipush 20, 2) := by decide +kernel
theorem dX9_takesTwenty_6 : decode cX9_takesTwenty 6 = .ok (.iadd, 1) := by decide +kernel
theorem dX9_takesTwenty_7 : decode cX9_takesTwenty 7 = .ok (.sipush 900, 3) := by decide +kernel
theorem dX9_takesTwenty_10 : decode cX9_takesTwenty 10 = .ok (.if_icmp .gt 7, 3) := by decide +kernel
theorem dX9_takesTwenty_13 : decode cX9_takesTwenty 13 = .ok (.iconst 1, 1) := by decide +kernel
theorem dX9_takesTwenty_14 : decode cX9_takesTwenty 14 = .ok (.goto 4, 3) := by decide +kernel
theorem dX9_takesTwenty_17 : decode cX9_takesTwenty 17 = .ok (.iconst 0, 1) := by decide +kernel
theorem dX9_takesTwenty_18 : decode cX9_takesTwenty 18 = .ok (.ireturn, 1) := by decide +kernel
theorem dX9_append_0 : decode cX9_append 0 = .ok (.bipush 24, 2) := by decide +kernel
theorem dX9_append_2 : decode cX9_append 2 = .ok (.istore_n 2, 1) := by decide +kernel
theorem dX9_append_3 : decode cX9_append 3 = .ok (.iload_n 2, 1) := by decide +kernel
theorem dX9_append_4 : decode cX9_append 4 = .ok (.ifCond .lt 42, 3) := by decide +kernel
theorem dX9_append_7 : decode cX9_append 7 = .ok (.aload_n 0, 1) := by decide +kernel
theorem dX9_append_8 : decode cX9_append 8 = .ok (.getfield 13, 3) := by decide +kernel
theorem dX9_append_11 : decode cX9_append 11 = .ok (.sipush 900, 3) := by decide +kernel
theorem dX9_append_14 : decode cX9_append 14 = .ok (.if_icmp .ge 26, 3) := by decide +kernel
theorem dX9_append_17 : decode cX9_append 17 = .ok (.aload_n 0, 1) := by decide +kernel
theorem dX9_append_18 : decode cX9_append 18 = .ok (.getfield 9, 3) := by decide +kernel
theorem dX9_append_21 : decode cX9_append 21 = .ok (.aload_n 0, 1) := by decide +kernel
theorem dX9_append_22 : decode cX9_append 22 = .ok (.getfield 13, 3) := by decide +kernel
theorem dX9_append_25 : decode cX9_append 25 = .ok (.iload_n 1, 1) := by decide +kernel
theorem dX9_append_26 : decode cX9_append 26 = .ok (.iload_n 2, 1) := by decide +kernel
theorem dX9_append_27 : decode cX9_append 27 = .ok (.ishr, 1) := by decide +kernel
theorem dX9_append_28 : decode cX9_append 28 = .ok (.i2b, 1) := by decide +kernel
theorem dX9_append_29 : decode cX9_append 29 = .ok (.bastore, 1) := by decide +kernel
theorem dX9_append_30 : decode cX9_append 30 = .ok (.aload_n 0, 1) := by decide +kernel
theorem dX9_append_31 : decode cX9_append 31 = .ok (.dup, 1) := by decide +kernel
theorem dX9_append_32 : decode cX9_append 32 = .ok (.getfield 13, 3) := by decide +kernel
theorem dX9_append_35 : decode cX9_append 35 = .ok (.iconst 1, 1) := by decide +kernel
theorem dX9_append_36 : decode cX9_append 36 = .ok (.iadd, 1) := by decide +kernel
theorem dX9_append_37 : decode cX9_append 37 = .ok (.putfield 13, 3) := by decide +kernel
theorem dX9_append_40 : decode cX9_append 40 = .ok (.iinc 2 (-8), 3) := by decide +kernel
theorem dX9_append_43 : decode cX9_append 43 = .ok (.goto (-40), 3) := by decide +kernel
theorem dX9_append_46 : decode cX9_append 46 = .ok (.return_, 1) := by decide +kernel
theorem dX9_rewind_0 : decode cX9_rewind 0 = .ok (.aload_n 0, 1) := by decide +kernel
theorem dX9_rewind_1 : decode cX9_rewind 1 = .ok (.iload_n 1, 1) := by decide +kernel
theorem dX9_rewind_2 : decode cX9_rewind 2 = .ok (.ifCond .lt 15, 3) := by decide +kernel
theorem dX9_rewind_5 : decode cX9_rewind 5 = .ok (.iload_n 1, 1) := by decide +kernel
theorem dX9_rewind_6 : decode cX9_rewind 6 = .ok (.aload_n 0, 1) := by decide +kernel
theorem dX9_rewind_7 : decode cX9_rewind 7 = .ok (.getfield 13, 3) := by decide +kernel
theorem dX9_rewind_10 : decode cX9_rewind 10 = .ok (.if_icmp .gt 7, 3) := by decide +kernel
theorem dX9_rewind_13 : decode cX9_rewind 13 = .ok (.iload_n 1, 1) := by decide +kernel
theorem dX9_rewind_14 : decode cX9_rewind 14 = .ok (.goto 4, 3) := by decide +kernel
theorem dX9_rewind_17 : decode cX9_rewind 17 = .ok (.iconst 0, 1) := by decide +kernel
theorem dX9_rewind_18 : decode cX9_rewind 18 = .ok (.putfield 17, 3) := by decide +kernel
theorem dX9_rewind_21 : decode cX9_rewind 21 = .ok (.aload_n 0, 1) := by decide +kernel
theorem dX9_rewind_22 : decode cX9_rewind 22 = .ok (.iconst 0, 1) := by decide +kernel
theorem dX9_rewind_23 : decode cX9_rewind 23 = .ok (.putfield 20, 3) := by decide +kernel
theorem dX9_rewind_26 : decode cX9_rewind 26 = .ok (.return_, 1) := by decide +kernel
theorem dX9_advance_0 : decode cX9_advance 0 = .ok (.aload_n 0, 1) := by decide +kernel
theorem dX9_advance_1 : decode cX9_advance 1 = .ok (.getfield 20, 3) := by decide +kernel
theorem dX9_advance_4 : decode cX9_advance 4 = .ok (.aload_n 0, 1) := by decide +kernel
theorem dX9_advance_5 : decode cX9_advance 5 = .ok (.getfield 17, 3) := by decide +kernel
theorem dX9_advance_8 : decode cX9_advance 8 = .ok (.if_icmp .ge 30, 3) := by decide +kernel
theorem dX9_advance_11 : decode cX9_advance 11 = .ok (.aload_n 0, 1) := by decide +kernel
theorem dX9_advance_12 : decode cX9_advance 12 = .ok (.getfield 9, 3) := by decide +kernel
theorem dX9_advance_15 : decode cX9_advance 15 = .ok (.aload_n 0, 1) := by decide +kernel
theorem dX9_advance_16 : decode cX9_advance 16 = .ok (.getfield 20, 3) := by decide +kernel
theorem dX9_advance_19 : decode cX9_advance 19 = .ok (.baload, 1) := by decide +kernel
theorem dX9_advance_20 : decode cX9_advance 20 = .ok (.bipush 32, 2) := by decide +kernel
theorem dX9_advance_22 : decode cX9_advance 22 = .ok (.if_icmp .ne 16, 3) := by decide +kernel
theorem dX9_advance_25 : decode cX9_advance 25 = .ok (.aload_n 0, 1) := by decide +kernel
theorem dX9_advance_26 : decode cX9_advance 26 = .ok (.dup, 1) := by decide +kernel
theorem dX9_advance_27 : decode cX9_advance 27 = .ok (.getfield 20, 3) := by decide +kernel
theorem dX9_advance_30 : decode cX9_advance 30 = .ok (.iconst 1, 1) := by decide +kernel
theorem dX9_advance_31 : decode cX9_advance 31 = .ok (.iadd, 1) := by decide +kernel
theorem dX9_advance_32 : decode cX9_advance 32 = .ok (.putfield 20, 3) := by decide +kernel
theorem dX9_advance_35 : decode cX9_advance 35 = .ok (.goto (-35), 3) := by decide +kernel
theorem dX9_advance_38 : decode cX9_advance 38 = .ok (.aload_n 0, 1) := by decide +kernel
theorem dX9_advance_39 : decode cX9_advance 39 = .ok (.aload_n 0, 1) := by decide +kernel
theorem dX9_advance_40 : decode cX9_advance 40 = .ok (.getfield 20, 3) := by decide +kernel
theorem dX9_advance_43 : decode cX9_advance 43 = .ok (.putfield 23, 3) := by decide +kernel
theorem dX9_advance_46 : decode cX9_advance 46 = .ok (.aload_n 0, 1) := by decide +kernel
theorem dX9_advance_47 : decode cX9_advance 47 = .ok (.getfield 20, 3) := by decide +kernel
theorem dX9_advance_50 : decode cX9_advance 50 = .ok (.aload_n 0, 1) := by decide +kernel
theorem dX9_advance_51 : decode cX9_advance 51 = .ok (.getfield 17, 3) := by decide +kernel
theorem dX9_advance_54 : decode cX9_advance 54 = .ok (.if_icmp .lt 11, 3) := by decide +kernel
theorem dX9_advance_57 : decode cX9_advance 57 = .ok (.aload_n 0, 1) := by decide +kernel
theorem dX9_advance_58 : decode cX9_advance 58 = .ok (.iconst 0, 1) := by decide +kernel
theorem dX9_advance_59 : decode cX9_advance 59 = .ok (.putfield 26, 3) := by decide +kernel
theorem dX9_advance_62 : decode cX9_advance 62 = .ok (.goto 106, 3) := by decide +kernel
theorem dX9_advance_65 : decode cX9_advance 65 = .ok (.aload_n 0, 1) := by decide +kernel
theorem dX9_advance_66 : decode cX9_advance 66 = .ok (.getfield 9, 3) := by decide +kernel
theorem dX9_advance_69 : decode cX9_advance 69 = .ok (.aload_n 0, 1) := by decide +kernel
theorem dX9_advance_70 : decode cX9_advance 70 = .ok (.getfield 20, 3) := by decide +kernel
theorem dX9_advance_73 : decode cX9_advance 73 = .ok (.baload, 1) := by decide +kernel
theorem dX9_advance_74 : decode cX9_advance 74 = .ok (.bipush 97, 2) := by decide +kernel
theorem dX9_advance_76 : decode cX9_advance 76 = .ok (.if_icmp .lt 24, 3) := by decide +kernel
theorem dX9_advance_79 : decode cX9_advance 79 = .ok (.aload_n 0, 1) := by decide +kernel
theorem dX9_advance_80 : decode cX9_advance 80 = .ok (.getfield 9, 3) := by decide +kernel
theorem dX9_advance_83 : decode cX9_advance 83 = .ok (.aload_n 0, 1) := by decide +kernel
theorem dX9_advance_84 : decode cX9_advance 84 = .ok (.getfield 20, 3) := by decide +kernel
theorem dX9_advance_87 : decode cX9_advance 87 = .ok (.baload, 1) := by decide +kernel
theorem dX9_advance_88 : decode cX9_advance 88 = .ok (.bipush 122, 2) := by decide +kernel
theorem dX9_advance_90 : decode cX9_advance 90 = .ok (.if_icmp .gt 10, 3) := by decide +kernel
theorem dX9_advance_93 : decode cX9_advance 93 = .ok (.aload_n 0, 1) := by decide +kernel
theorem dX9_advance_94 : decode cX9_advance 94 = .ok (.invokevirtual 29, 3) := by decide +kernel
theorem dX9_advance_97 : decode cX9_advance 97 = .ok (.goto 71, 3) := by decide +kernel
theorem dX9_advance_100 : decode cX9_advance 100 = .ok (.aload_n 0, 1) := by decide +kernel
theorem dX9_advance_101 : decode cX9_advance 101 = .ok (.getfield 9, 3) := by decide +kernel
theorem dX9_advance_104 : decode cX9_advance 104 = .ok (.aload_n 0, 1) := by decide +kernel
theorem dX9_advance_105 : decode cX9_advance 105 = .ok (.getfield 20, 3) := by decide +kernel
theorem dX9_advance_108 : decode cX9_advance 108 = .ok (.baload, 1) := by decide +kernel
theorem dX9_advance_109 : decode cX9_advance 109 = .ok (.bipush 48, 2) := by decide +kernel
theorem dX9_advance_111 : decode cX9_advance 111 = .ok (.if_icmp .lt 24, 3) := by decide +kernel
theorem dX9_advance_114 : decode cX9_advance 114 = .ok (.aload_n 0, 1) := by decide +kernel
theorem dX9_advance_115 : decode cX9_advance 115 = .ok (.getfield 9, 3) := by decide +kernel
theorem dX9_advance_118 : decode cX9_advance 118 = .ok (.aload_n 0, 1) := by decide +kernel
theorem dX9_advance_119 : decode cX9_advance 119 = .ok (.getfield 20, 3) := by decide +kernel
theorem dX9_advance_122 : decode cX9_advance 122 = .ok (.baload, 1) := by decide +kernel
theorem dX9_advance_123 : decode cX9_advance 123 = .ok (.bipush 57, 2) := by decide +kernel
theorem dX9_advance_125 : decode cX9_advance 125 = .ok (.if_icmp .gt 10, 3) := by decide +kernel
theorem dX9_advance_128 : decode cX9_advance 128 = .ok (.aload_n 0, 1) := by decide +kernel
theorem dX9_advance_129 : decode cX9_advance 129 = .ok (.invokevirtual 32, 3) := by decide +kernel
theorem dX9_advance_132 : decode cX9_advance 132 = .ok (.goto 36, 3) := by decide +kernel
theorem dX9_advance_135 : decode cX9_advance 135 = .ok (.aload_n 0, 1) := by decide +kernel
theorem dX9_advance_136 : decode cX9_advance 136 = .ok (.aload_n 0, 1) := by decide +kernel
theorem dX9_advance_137 : decode cX9_advance 137 = .ok (.getfield 9, 3) := by decide +kernel
theorem dX9_advance_140 : decode cX9_advance 140 = .ok (.aload_n 0, 1) := by decide +kernel
theorem dX9_advance_141 : decode cX9_advance 141 = .ok (.getfield 20, 3) := by decide +kernel
theorem dX9_advance_144 : decode cX9_advance 144 = .ok (.baload, 1) := by decide +kernel
theorem dX9_advance_145 : decode cX9_advance 145 = .ok (.bipush 59, 2) := by decide +kernel
theorem dX9_advance_147 : decode cX9_advance 147 = .ok (.if_icmp .ne 7, 3) := by decide +kernel
theorem dX9_advance_150 : decode cX9_advance 150 = .ok (.iconst 3, 1) := by decide +kernel
theorem dX9_advance_151 : decode cX9_advance 151 = .ok (.goto 4, 3) := by decide +kernel
theorem dX9_advance_154 : decode cX9_advance 154 = .ok (.iconst 4, 1) := by decide +kernel
theorem dX9_advance_155 : decode cX9_advance 155 = .ok (.putfield 26, 3) := by decide +kernel
theorem dX9_advance_158 : decode cX9_advance 158 = .ok (.aload_n 0, 1) := by decide +kernel
theorem dX9_advance_159 : decode cX9_advance 159 = .ok (.dup, 1) := by decide +kernel
theorem dX9_advance_160 : decode cX9_advance 160 = .ok (.getfield 20, 3) := by decide +kernel
theorem dX9_advance_163 : decode cX9_advance 163 = .ok (.iconst 1, 1) := by decide +kernel
theorem dX9_advance_164 : decode cX9_advance 164 = .ok (.iadd, 1) := by decide +kernel
theorem dX9_advance_165 : decode cX9_advance 165 = .ok (.putfield 20, 3) := by decide +kernel
theorem dX9_advance_168 : decode cX9_advance 168 = .ok (.return_, 1) := by decide +kernel
theorem dX9_takeLetters_0 : decode cX9_takeLetters 0 = .ok (.aload_n 0, 1) := by decide +kernel
theorem dX9_takeLetters_1 : decode cX9_takeLetters 1 = .ok (.lconst 0, 1) := by decide +kernel
theorem dX9_takeLetters_2 : decode cX9_takeLetters 2 = .ok (.putfield 35, 3) := by decide +kernel
theorem dX9_takeLetters_5 : decode cX9_takeLetters 5 = .ok (.aload_n 0, 1) := by decide +kernel
theorem dX9_takeLetters_6 : decode cX9_takeLetters 6 = .ok (.getfield 20, 3) := by decide +kernel
theorem dX9_takeLetters_9 : decode cX9_takeLetters 9 = .ok (.aload_n 0, 1) := by decide +kernel
theorem dX9_takeLetters_10 : decode cX9_takeLetters 10 = .ok (.getfield 17, 3) := by decide +kernel
theorem dX9_takeLetters_13 : decode cX9_takeLetters 13 = .ok (.if_icmp .ge 70, 3) := by decide +kernel
theorem dX9_takeLetters_16 : decode cX9_takeLetters 16 = .ok (.aload_n 0, 1) := by decide +kernel
theorem dX9_takeLetters_17 : decode cX9_takeLetters 17 = .ok (.getfield 9, 3) := by decide +kernel
theorem dX9_takeLetters_20 : decode cX9_takeLetters 20 = .ok (.aload_n 0, 1) := by decide +kernel
theorem dX9_takeLetters_21 : decode cX9_takeLetters 21 = .ok (.getfield 20, 3) := by decide +kernel
theorem dX9_takeLetters_24 : decode cX9_takeLetters 24 = .ok (.baload, 1) := by decide +kernel
theorem dX9_takeLetters_25 : decode cX9_takeLetters 25 = .ok (.bipush 97, 2) := by decide +kernel
theorem dX9_takeLetters_27 : decode cX9_takeLetters 27 = .ok (.if_icmp .lt 56, 3) := by decide +kernel
theorem dX9_takeLetters_30 : decode cX9_takeLetters 30 = .ok (.aload_n 0, 1) := by decide +kernel
theorem dX9_takeLetters_31 : decode cX9_takeLetters 31 = .ok (.getfield 9, 3) := by decide +kernel
theorem dX9_takeLetters_34 : decode cX9_takeLetters 34 = .ok (.aload_n 0, 1) := by decide +kernel
theorem dX9_takeLetters_35 : decode cX9_takeLetters 35 = .ok (.getfield 20, 3) := by decide +kernel
theorem dX9_takeLetters_38 : decode cX9_takeLetters 38 = .ok (.baload, 1) := by decide +kernel
theorem dX9_takeLetters_39 : decode cX9_takeLetters 39 = .ok (.bipush 122, 2) := by decide +kernel
theorem dX9_takeLetters_41 : decode cX9_takeLetters 41 = .ok (.if_icmp .gt 42, 3) := by decide +kernel
theorem dX9_takeLetters_44 : decode cX9_takeLetters 44 = .ok (.aload_n 0, 1) := by decide +kernel
theorem dX9_takeLetters_45 : decode cX9_takeLetters 45 = .ok (.aload_n 0, 1) := by decide +kernel
theorem dX9_takeLetters_46 : decode cX9_takeLetters 46 = .ok (.getfield 35, 3) := by decide +kernel
theorem dX9_takeLetters_49 : decode cX9_takeLetters 49 = .ok (.iconst 5, 1) := by decide +kernel
theorem dX9_takeLetters_50 : decode cX9_takeLetters 50 = .ok (.lshl, 1) := by decide +kernel
theorem dX9_takeLetters_51 : decode cX9_takeLetters 51 = .ok (.aload_n 0, 1) := by decide +kernel
theorem dX9_takeLetters_52 : decode cX9_takeLetters 52 = .ok (.getfield 9, 3) := by decide +kernel
theorem dX9_takeLetters_55 : decode cX9_takeLetters 55 = .ok (.aload_n 0, 1) := by decide +kernel
theorem dX9_takeLetters_56 : decode cX9_takeLetters 56 = .ok (.getfield 20, 3) := by decide +kernel
theorem dX9_takeLetters_59 : decode cX9_takeLetters 59 = .ok (.baload, 1) := by decide +kernel
theorem dX9_takeLetters_60 : decode cX9_takeLetters 60 = .ok (.bipush 97, 2) := by decide +kernel
theorem dX9_takeLetters_62 : decode cX9_takeLetters 62 = .ok (.isub, 1) := by decide +kernel
theorem dX9_takeLetters_63 : decode cX9_takeLetters 63 = .ok (.iconst 1, 1) := by decide +kernel
theorem dX9_takeLetters_64 : decode cX9_takeLetters 64 = .ok (.iadd, 1) := by decide +kernel
theorem dX9_takeLetters_65 : decode cX9_takeLetters 65 = .ok (.i2l, 1) := by decide +kernel
theorem dX9_takeLetters_66 : decode cX9_takeLetters 66 = .ok (.lor, 1) := by decide +kernel
theorem dX9_takeLetters_67 : decode cX9_takeLetters 67 = .ok (.putfield 35, 3) := by decide +kernel
theorem dX9_takeLetters_70 : decode cX9_takeLetters 70 = .ok (.aload_n 0, 1) := by decide +kernel
theorem dX9_takeLetters_71 : decode cX9_takeLetters 71 = .ok (.dup, 1) := by decide +kernel
theorem dX9_takeLetters_72 : decode cX9_takeLetters 72 = .ok (.getfield 20, 3) := by decide +kernel
theorem dX9_takeLetters_75 : decode cX9_takeLetters 75 = .ok (.iconst 1, 1) := by decide +kernel
theorem dX9_takeLetters_76 : decode cX9_takeLetters 76 = .ok (.iadd, 1) := by decide +kernel
theorem dX9_takeLetters_77 : decode cX9_takeLetters 77 = .ok (.putfield 20, 3) := by decide +kernel
theorem dX9_takeLetters_80 : decode cX9_takeLetters 80 = .ok (.goto (-75), 3) := by decide +kernel
theorem dX9_takeLetters_83 : decode cX9_takeLetters 83 = .ok (.aload_n 0, 1) := by decide +kernel
theorem dX9_takeLetters_84 : decode cX9_takeLetters 84 = .ok (.aload_n 0, 1) := by decide +kernel
theorem dX9_takeLetters_85 : decode cX9_takeLetters 85 = .ok (.getfield 20, 3) := by decide +kernel
theorem dX9_takeLetters_88 : decode cX9_takeLetters 88 = .ok (.aload_n 0, 1) := by decide +kernel
theorem dX9_takeLetters_89 : decode cX9_takeLetters 89 = .ok (.getfield 23, 3) := by decide +kernel
theorem dX9_takeLetters_92 : decode cX9_takeLetters 92 = .ok (.isub, 1) := by decide +kernel
theorem dX9_takeLetters_93 : decode cX9_takeLetters 93 = .ok (.bipush 8, 2) := by decide +kernel
theorem dX9_takeLetters_95 : decode cX9_takeLetters 95 = .ok (.if_icmp .gt 7, 3) := by decide +kernel
theorem dX9_takeLetters_98 : decode cX9_takeLetters 98 = .ok (.iconst 1, 1) := by decide +kernel
theorem dX9_takeLetters_99 : decode cX9_takeLetters 99 = .ok (.goto 4, 3) := by decide +kernel
theorem dX9_takeLetters_102 : decode cX9_takeLetters 102 = .ok (.iconst 4, 1) := by decide +kernel
theorem dX9_takeLetters_103 : decode cX9_takeLetters 103 = .ok (.putfield 26, 3) := by decide +kernel
theorem dX9_takeLetters_106 : decode cX9_takeLetters 106 = .ok (.return_, 1) := by decide +kernel
theorem dX9_takeDigits_0 : decode cX9_takeDigits 0 = .ok (.aload_n 0, 1) := by decide +kernel
theorem dX9_takeDigits_1 : decode cX9_takeDigits 1 = .ok (.iconst 0, 1) := by decide +kernel
theorem dX9_takeDigits_2 : decode cX9_takeDigits 2 = .ok (.putfield 39, 3) := by decide +kernel
theorem dX9_takeDigits_5 : decode cX9_takeDigits 5 = .ok (.aload_n 0, 1) := by decide +kernel
theorem dX9_takeDigits_6 : decode cX9_takeDigits 6 = .ok (.getfield 20, 3) := by decide +kernel
theorem dX9_takeDigits_9 : decode cX9_takeDigits 9 = .ok (.aload_n 0, 1) := by decide +kernel
theorem dX9_takeDigits_10 : decode cX9_takeDigits 10 = .ok (.getfield 17, 3) := by decide +kernel
theorem dX9_takeDigits_13 : decode cX9_takeDigits 13 = .ok (.if_icmp .ge 68, 3) := by decide +kernel
theorem dX9_takeDigits_16 : decode cX9_takeDigits 16 = .ok (.aload_n 0, 1) := by decide +kernel
theorem dX9_takeDigits_17 : decode cX9_takeDigits 17 = .ok (.getfield 9, 3) := by decide +kernel
theorem dX9_takeDigits_20 : decode cX9_takeDigits 20 = .ok (.aload_n 0, 1) := by decide +kernel
theorem dX9_takeDigits_21 : decode cX9_takeDigits 21 = .ok (.getfield 20, 3) := by decide +kernel
theorem dX9_takeDigits_24 : decode cX9_takeDigits 24 = .ok (.baload, 1) := by decide +kernel
theorem dX9_takeDigits_25 : decode cX9_takeDigits 25 = .ok (.bipush 48, 2) := by decide +kernel
theorem dX9_takeDigits_27 : decode cX9_takeDigits 27 = .ok (.if_icmp .lt 54, 3) := by decide +kernel
theorem dX9_takeDigits_30 : decode cX9_takeDigits 30 = .ok (.aload_n 0, 1) := by decide +kernel
theorem dX9_takeDigits_31 : decode cX9_takeDigits 31 = .ok (.getfield 9, 3) := by decide +kernel
theorem dX9_takeDigits_34 : decode cX9_takeDigits 34 = .ok (.aload_n 0, 1) := by decide +kernel
theorem dX9_takeDigits_35 : decode cX9_takeDigits 35 = .ok (.getfield 20, 3) := by decide +kernel
theorem dX9_takeDigits_38 : decode cX9_takeDigits 38 = .ok (.baload, 1) := by decide +kernel
theorem dX9_takeDigits_39 : decode cX9_takeDigits 39 = .ok (.bipush 57, 2) := by decide +kernel
theorem dX9_takeDigits_41 : decode cX9_takeDigits 41 = .ok (.if_icmp .gt 40, 3) := by decide +kernel
theorem dX9_takeDigits_44 : decode cX9_takeDigits 44 = .ok (.aload_n 0, 1) := by decide +kernel
theorem dX9_takeDigits_45 : decode cX9_takeDigits 45 = .ok (.aload_n 0, 1) := by decide +kernel
theorem dX9_takeDigits_46 : decode cX9_takeDigits 46 = .ok (.getfield 39, 3) := by decide +kernel
theorem dX9_takeDigits_49 : decode cX9_takeDigits 49 = .ok (.bipush 10, 2) := by decide +kernel
theorem dX9_takeDigits_51 : decode cX9_takeDigits 51 = .ok (.imul, 1) := by decide +kernel
theorem dX9_takeDigits_52 : decode cX9_takeDigits 52 = .ok (.aload_n 0, 1) := by decide +kernel
theorem dX9_takeDigits_53 : decode cX9_takeDigits 53 = .ok (.getfield 9, 3) := by decide +kernel
theorem dX9_takeDigits_56 : decode cX9_takeDigits 56 = .ok (.aload_n 0, 1) := by decide +kernel
theorem dX9_takeDigits_57 : decode cX9_takeDigits 57 = .ok (.getfield 20, 3) := by decide +kernel
theorem dX9_takeDigits_60 : decode cX9_takeDigits 60 = .ok (.baload, 1) := by decide +kernel
theorem dX9_takeDigits_61 : decode cX9_takeDigits 61 = .ok (.iadd, 1) := by decide +kernel
theorem dX9_takeDigits_62 : decode cX9_takeDigits 62 = .ok (.bipush 48, 2) := by decide +kernel
theorem dX9_takeDigits_64 : decode cX9_takeDigits 64 = .ok (.isub, 1) := by decide +kernel
theorem dX9_takeDigits_65 : decode cX9_takeDigits 65 = .ok (.putfield 39, 3) := by decide +kernel
theorem dX9_takeDigits_68 : decode cX9_takeDigits 68 = .ok (.aload_n 0, 1) := by decide +kernel
theorem dX9_takeDigits_69 : decode cX9_takeDigits 69 = .ok (.dup, 1) := by decide +kernel
theorem dX9_takeDigits_70 : decode cX9_takeDigits 70 = .ok (.getfield 20, 3) := by decide +kernel
theorem dX9_takeDigits_73 : decode cX9_takeDigits 73 = .ok (.iconst 1, 1) := by decide +kernel
theorem dX9_takeDigits_74 : decode cX9_takeDigits 74 = .ok (.iadd, 1) := by decide +kernel
theorem dX9_takeDigits_75 : decode cX9_takeDigits 75 = .ok (.putfield 20, 3) := by decide +kernel
theorem dX9_takeDigits_78 : decode cX9_takeDigits 78 = .ok (.goto (-73), 3) := by decide +kernel
theorem dX9_takeDigits_81 : decode cX9_takeDigits 81 = .ok (.aload_n 0, 1) := by decide +kernel
theorem dX9_takeDigits_82 : decode cX9_takeDigits 82 = .ok (.aload_n 0, 1) := by decide +kernel
theorem dX9_takeDigits_83 : decode cX9_takeDigits 83 = .ok (.getfield 20, 3) := by decide +kernel
theorem dX9_takeDigits_86 : decode cX9_takeDigits 86 = .ok (.aload_n 0, 1) := by decide +kernel
theorem dX9_takeDigits_87 : decode cX9_takeDigits 87 = .ok (.getfield 23, 3) := by decide +kernel
theorem dX9_takeDigits_90 : decode cX9_takeDigits 90 = .ok (.isub, 1) := by decide +kernel
theorem dX9_takeDigits_91 : decode cX9_takeDigits 91 = .ok (.iconst 3, 1) := by decide +kernel
theorem dX9_takeDigits_92 : decode cX9_takeDigits 92 = .ok (.if_icmp .gt 7, 3) := by decide +kernel
theorem dX9_takeDigits_95 : decode cX9_takeDigits 95 = .ok (.iconst 2, 1) := by decide +kernel
theorem dX9_takeDigits_96 : decode cX9_takeDigits 96 = .ok (.goto 4, 3) := by decide +kernel
theorem dX9_takeDigits_99 : decode cX9_takeDigits 99 = .ok (.iconst 4, 1) := by decide +kernel
theorem dX9_takeDigits_100 : decode cX9_takeDigits 100 = .ok (.putfield 26, 3) := by decide +kernel
theorem dX9_takeDigits_103 : decode cX9_takeDigits 103 = .ok (.return_, 1) := by decide +kernel
theorem dX9_isWord_0 : decode cX9_isWord 0 = .ok (.lconst 0, 1) := by decide +kernel
theorem dX9_isWord_1 : decode cX9_isWord 1 = .ok (.lstore_n 2, 1) := by decide +kernel
theorem dX9_isWord_2 : decode cX9_isWord 2 = .ok (.iconst 0, 1) := by decide +kernel
theorem dX9_isWord_3 : decode cX9_isWord 3 = .ok (.istore 4, 2) := by decide +kernel
theorem dX9_isWord_5 : decode cX9_isWord 5 = .ok (.iload 4, 2) := by decide +kernel
theorem dX9_isWord_7 : decode cX9_isWord 7 = .ok (.aload_n 1, 1) := by decide +kernel
theorem dX9_isWord_8 : decode cX9_isWord 8 = .ok (.invokevirtual 42, 3) := by decide +kernel
theorem dX9_isWord_11 : decode cX9_isWord 11 = .ok (.if_icmp .ge 26, 3) := by decide +kernel
theorem dX9_isWord_14 : decode cX9_isWord 14 = .ok (.lload_n 2, 1) := by decide +kernel
theorem dX9_isWord_15 : decode cX9_isWord 15 = .ok (.iconst 5, 1) := by decide +kernel
theorem dX9_isWord_16 : decode cX9_isWord 16 = .ok (.lshl, 1) := by decide +kernel
theorem dX9_isWord_17 : decode cX9_isWord 17 = .ok (.aload_n 1, 1) := by decide +kernel
theorem dX9_isWord_18 : decode cX9_isWord 18 = .ok (.iload 4, 2) := by decide +kernel
theorem dX9_isWord_20 : decode cX9_isWord 20 = .ok (.invokevirtual 48, 3) := by decide +kernel
theorem dX9_isWord_23 : decode cX9_isWord 23 = .ok (.bipush 97, 2) := by decide +kernel
theorem dX9_isWord_25 : decode cX9_isWord 25 = .ok (.isub, 1) := by decide +kernel
theorem dX9_isWord_26 : decode cX9_isWord 26 = .ok (.iconst 1, 1) := by decide +kernel
theorem dX9_isWord_27 : decode cX9_isWord 27 = .ok (.iadd, 1) := by decide +kernel
theorem dX9_isWord_28 : decode cX9_isWord 28 = .ok (.i2l, 1) := by decide +kernel
theorem dX9_isWord_29 : decode cX9_isWord 29 = .ok (.lor, 1) := by decide +kernel
theorem dX9_isWord_30 : decode cX9_isWord 30 = .ok (.lstore_n 2, 1) := by decide +kernel
theorem dX9_isWord_31 : decode cX9_isWord 31 = .ok (.iinc 4 1, 3) := by decide +kernel
theorem dX9_isWord_34 : decode cX9_isWord 34 = .ok (.goto (-29), 3) := by decide +kernel
theorem dX9_isWord_37 : decode cX9_isWord 37 = .ok (.aload_n 0, 1) := by decide +kernel
theorem dX9_isWord_38 : decode cX9_isWord 38 = .ok (.getfield 26, 3) := by decide +kernel
theorem dX9_isWord_41 : decode cX9_isWord 41 = .ok (.iconst 1, 1) := by decide +kernel
theorem dX9_isWord_42 : decode cX9_isWord 42 = .ok (.if_icmp .ne 16, 3) := by decide +kernel
theorem dX9_isWord_45 : decode cX9_isWord 45 = .ok (.aload_n 0, 1) := by decide +kernel
theorem dX9_isWord_46 : decode cX9_isWord 46 = .ok (.getfield 35, 3) := by decide +kernel
theorem dX9_isWord_49 : decode cX9_isWord 49 = .ok (.lload_n 2, 1) := by decide +kernel
theorem dX9_isWord_50 : decode cX9_isWord 50 = .ok (.lcmp, 1) := by decide +kernel
theorem dX9_isWord_51 : decode cX9_isWord 51 = .ok (.ifCond .ne 7, 3) := by decide +kernel
theorem dX9_isWord_54 : decode cX9_isWord 54 = .ok (.iconst 1, 1) := by decide +kernel
theorem dX9_isWord_55 : decode cX9_isWord 55 = .ok (.goto 4, 3) := by decide +kernel
theorem dX9_isWord_58 : decode cX9_isWord 58 = .ok (.iconst 0, 1) := by decide +kernel
theorem dX9_isWord_59 : decode cX9_isWord 59 = .ok (.ireturn, 1) := by decide +kernel
theorem dX10_init_0 : decode cX10_init 0 = .ok (.aload_n 0, 1) := by decide +kernel
theorem dX10_init_1 : decode cX10_init 1 = .ok (.invokespecial 3, 3) := by decide +kernel
theorem dX10_init_4 : decode cX10_init 4 = .ok (.aload_n 0, 1) := by decide +kernel
theorem dX10_init_5 : decode cX10_init 5 = .ok (.new 9, 3) := by decide +kernel
theorem dX10_init_8 : decode cX10_init 8 = .ok (.dup, 1) := by decide +kernel
theorem dX10_init_9 : decode cX10_init 9 = .ok (.invokespecial 11, 3) := by decide +kernel
theorem dX10_init_12 : decode cX10_init 12 = .ok (.putfield 12, 3) := by decide +kernel
theorem dX10_init_15 : decode cX10_init 15 = .ok (.aload_n 0, 1) := by decide +kernel
theorem dX10_init_16 : decode cX10_init 16 = .ok (.new 9, 3) := by decide +kernel
theorem dX10_init_19 : decode cX10_init 19 = .ok (.dup, 1) := by decide +kernel
theorem dX10_init_20 : decode cX10_init 20 = .ok (.invokespecial 11, 3) := by decide +kernel
theorem dX10_init_23 : decode cX10_init 23 = .ok (.putfield 18, 3) := by decide +kernel
theorem dX10_init_26 : decode cX10_init 26 = .ok (.aload_n 0, 1) := by decide +kernel
theorem dX10_init_27 : decode cX10_init 27 = .ok (.new 9, 3) := by decide +kernel
theorem dX10_init_30 : decode cX10_init 30 = .ok (.dup, 1) := by decide +kernel
theorem dX10_init_31 : decode cX10_init 31 = .ok (.invokespecial 11, 3) := by decide +kernel
theorem dX10_init_34 : decode cX10_init 34 = .ok (.putfield 21, 3) := by decide +kernel
theorem dX10_init_37 : decode cX10_init 37 = .ok (.aload_n 0, 1) := by decide +kernel
theorem dX10_init_38 : decode cX10_init 38 = .ok (.new 9, 3) := by decide +kernel
theorem dX10_init_41 : decode cX10_init 41 = .ok (.dup, 1) := by decide +kernel
theorem dX10_init_42 : decode cX10_init 42 = .ok (.invokespecial 11, 3) := by decide +kernel
theorem dX10_init_45 : decode cX10_init 45 = .ok (.putfield 24, 3) := by decide +kernel
theorem dX10_init_48 : decode cX10_init 48 = .ok (.aload_n 0, 1) := by decide +kernel
theorem dX10_init_49 : decode cX10_init 49 = .ok (.new 9, 3) := by decide +kernel
theorem dX10_init_52 : decode cX10_init 52 = .ok (.dup, 1) := by decide +kernel
theorem dX10_init_53 : decode cX10_init 53 = .ok (.invokespecial 11, 3) := by decide +kernel
theorem dX10_init_56 : decode cX10_init 56 = .ok (.putfield 27, 3) := by decide +kernel
theorem dX10_init_59 : decode cX10_init 59 = .ok (.aload_n 0, 1) := by decide +kernel
theorem dX10_init_60 : decode cX10_init 60 = .ok (.new 9, 3) := by decide +kernel
theorem dX10_init_63 : decode cX10_init 63 = .ok (.dup, 1) := by decide +kernel
theorem dX10_init_64 : decode cX10_init 64 = .ok (.invokespecial 11, 3) := by decide +kernel
theorem dX10_init_67 : decode cX10_init 67 = .ok (.putfield 30, 3) := by decide +kernel
theorem dX10_init_70 : decode cX10_init 70 = .ok (.aload_n 0, 1) := by decide +kernel
theorem dX10_init_71 : decode cX10_init 71 = .ok (.new 9, 3) := by decide +kernel
theorem dX10_init_74 : decode cX10_init 74 = .ok (.dup, 1) := by decide +kernel
theorem dX10_init_75 : decode cX10_init 75 = .ok (.invokespecial 11, 3) := by decide +kernel
theorem dX10_init_78 : decode cX10_init 78 = .ok (.putfield 33, 3) := by decide +kernel
theorem dX10_init_81 : decode cX10_init 81 = .ok (.aload_n 0, 1) := by decide +kernel
theorem dX10_init_82 : decode cX10_init 82 = .ok (.new 9, 3) := by decide +kernel
theorem dX10_init_85 : decode cX10_init 85 = .ok (.dup, 1) := by decide +kernel
theorem dX10_init_86 : decode cX10_init 86 = .ok (.invokespecial 11, 3) := by decide +kernel
theorem dX10_init_89 : decode cX10_init 89 = .ok (.putfield 36, 3) := by decide +kernel
theorem dX10_init_92 : decode cX10_init 92 = .ok (.return_, 1) := by decide +kernel
theorem dX10_of_0 : decode cX10_of 0 = .ok (.iload_n 1, 1) := by decide +kernel
theorem dX10_of_1 : decode cX10_of 1 = .ok (.tableswitch 78 1 7 #[43, 48, 53, 58, 63, 68, 73], 43) := by decide +kernel
theorem dX10_of_44 : decode cX10_of 44 = .ok (.aload_n 0, 1) := by decide +kernel
theorem dX10_of_45 : decode cX10_of 45 = .ok (.getfield 18, 3) := by decide +kernel
theorem dX10_of_48 : decode cX10_of 48 = .ok (.areturn, 1) := by decide +kernel
theorem dX10_of_49 : decode cX10_of 49 = .ok (.aload_n 0, 1) := by decide +kernel
theorem dX10_of_50 : decode cX10_of 50 = .ok (.getfield 21, 3) := by decide +kernel
theorem dX10_of_53 : decode cX10_of 53 = .ok (.areturn, 1) := by decide +kernel
theorem dX10_of_54 : decode cX10_of 54 = .ok (.aload_n 0, 1) := by decide +kernel
theorem dX10_of_55 : decode cX10_of 55 = .ok (.getfield 24, 3) := by decide +kernel
theorem dX10_of_58 : decode cX10_of 58 = .ok (.areturn, 1) := by decide +kernel
theorem dX10_of_59 : decode cX10_of 59 = .ok (.aload_n 0, 1) := by decide +kernel
theorem dX10_of_60 : decode cX10_of 60 = .ok (.getfield 27, 3) := by decide +kernel
theorem dX10_of_63 : decode cX10_of 63 = .ok (.areturn, 1) := by decide +kernel
theorem dX10_of_64 : decode cX10_of 64 = .ok (.aload_n 0, 1) := by decide +kernel
theorem dX10_of_65 : decode cX10_of 65 = .ok (.getfield 30, 3) := by decide +kernel
theorem dX10_of_68 : decode cX10_of 68 = .ok (.areturn, 1) := by decide +kernel
theorem dX10_of_69 : decode cX10_of 69 = .ok (.aload_n 0, 1) := by decide +kernel
theorem dX10_of_70 : decode cX10_of 70 = .ok (.getfield 33, 3) := by decide +kernel
theorem dX10_of_73 : decode cX10_of 73 = .ok (.areturn, 1) := by decide +kernel
theorem dX10_of_74 : decode cX10_of 74 = .ok (.aload_n 0, 1) := by decide +kernel
theorem dX10_of_75 : decode cX10_of 75 = .ok (.getfield 36, 3) := by decide +kernel
theorem dX10_of_78 : decode cX10_of 78 = .ok (.areturn, 1) := by decide +kernel
theorem dX10_of_79 : decode cX10_of 79 = .ok (.aload_n 0, 1) := by decide +kernel
theorem dX10_of_80 : decode cX10_of 80 = .ok (.getfield 12, 3) := by decide +kernel
theorem dX10_of_83 : decode cX10_of 83 = .ok (.areturn, 1) := by decide +kernel
theorem dX10_clear_0 : decode cX10_clear 0 = .ok (.iconst 0, 1) := by decide +kernel
theorem dX10_clear_1 : decode cX10_clear 1 = .ok (.istore_n 1, 1) := by decide +kernel
theorem dX10_clear_2 : decode cX10_clear 2 = .ok (.iload_n 1, 1) := by decide +kernel
theorem dX10_clear_3 : decode cX10_clear 3 = .ok (.bipush 7, 2) := by decide +kernel
theorem dX10_clear_5 : decode cX10_clear 5 = .ok (.if_icmp .gt 18, 3) := by decide +kernel
theorem dX10_clear_8 : decode cX10_clear 8 = .ok (.aload_n 0, 1) := by decide +kernel
theorem dX10_clear_9 : decode cX10_clear 9 = .ok (.iload_n 1, 1) := by decide +kernel
theorem dX10_clear_10 : decode cX10_clear 10 = .ok (.invokevirtual 39, 3) := by decide +kernel
theorem dX10_clear_13 : decode cX10_clear 13 = .ok (.iconst 0, 1) := by decide +kernel
theorem dX10_clear_14 : decode cX10_clear 14 = .ok (.putfield 43, 3) := by decide +kernel
theorem dX10_clear_17 : decode cX10_clear 17 = .ok (.iinc 1 1, 3) := by decide +kernel
theorem dX10_clear_20 : decode cX10_clear 20 = .ok (.goto (-18), 3) := by decide +kernel
theorem dX10_clear_23 : decode cX10_clear 23 = .ok (.return_, 1) := by decide +kernel
theorem dX10_copyFrom_0 : decode cX10_copyFrom 0 = .ok (.iconst 0, 1) := by decide +kernel
theorem dX10_copyFrom_1 : decode cX10_copyFrom 1 = .ok (.istore_n 2, 1) := by decide +kernel
theorem dX10_copyFrom_2 : decode cX10_copyFrom 2 = .ok (.iload_n 2, 1) := by decide +kernel
theorem dX10_copyFrom_3 : decode cX10_copyFrom 3 = .ok (.bipush 7, 2) := by decide +kernel
theorem dX10_copyFrom_5 : decode cX10_copyFrom 5 = .ok (.if_icmp .gt 22, 3) := by decide +kernel
theorem dX10_copyFrom_8 : decode cX10_copyFrom 8 = .ok (.aload_n 0, 1) := by decide +kernel
theorem dX10_copyFrom_9 : decode cX10_copyFrom 9 = .ok (.iload_n 2, 1) := by decide +kernel
theorem dX10_copyFrom_10 : decode cX10_copyFrom 10 = .ok (.invokevirtual 39, 3) := by decide +kernel
theorem dX10_copyFrom_13 : decode cX10_copyFrom 13 = .ok (.aload_n 1, 1) := by decide +kernel
theorem dX10_copyFrom_14 : decode cX10_copyFrom 14 = .ok (.iload_n 2, 1) := by decide +kernel
theorem dX10_copyFrom_15 : decode cX10_copyFrom 15 = .ok (.invokevirtual 39, 3) := by decide +kernel
theorem dX10_copyFrom_18 : decode cX10_copyFrom 18 = .ok (.invokevirtual 47, 3) := by decide +kernel
theorem dX10_copyFrom_21 : decode cX10_copyFrom 21 = .ok (.iinc 2 1, 3) := by decide +kernel
theorem dX10_copyFrom_24 : decode cX10_copyFrom 24 = .ok (.goto (-22), 3) := by decide +kernel
theorem dX10_copyFrom_27 : decode cX10_copyFrom 27 = .ok (.return_, 1) := by decide +kernel
theorem dX10_add_0 : decode cX10_add 0 = .ok (.aload_n 0, 1) := by decide +kernel
theorem dX10_add_1 : decode cX10_add 1 = .ok (.iload_n 1, 1) := by decide +kernel
theorem dX10_add_2 : decode cX10_add 2 = .ok (.invokevirtual 39, 3) := by decide +kernel
theorem dX10_add_5 : decode cX10_add 5 = .ok (.aload_n 2, 1) := by decide +kernel
theorem dX10_add_6 : decode cX10_add 6 = .ok (.invokevirtual 51, 3) := by decide +kernel
theorem dX10_add_9 : decode cX10_add 9 = .ok (.return_, 1) := by decide +kernel
theorem dX10_howMany_0 : decode cX10_howMany 0 = .ok (.aload_n 0, 1) := by decide +kernel
theorem dX10_howMany_1 : decode cX10_howMany 1 = .ok (.iload_n 1, 1) := by decide +kernel
theorem dX10_howMany_2 : decode cX10_howMany 2 = .ok (.invokevirtual 39, 3) := by decide +kernel
theorem dX10_howMany_5 : decode cX10_howMany 5 = .ok (.getfield 43, 3) := by decide +kernel
theorem dX10_howMany_8 : decode cX10_howMany 8 = .ok (.ireturn, 1) := by decide +kernel
theorem dX10_cell_0 : decode cX10_cell 0 = .ok (.aload_n 0, 1) := by decide +kernel
theorem dX10_cell_1 : decode cX10_cell 1 = .ok (.iload_n 1, 1) := by decide +kernel
theorem dX10_cell_2 : decode cX10_cell 2 = .ok (.invokevirtual 39, 3) := by decide +kernel
theorem dX10_cell_5 : decode cX10_cell 5 = .ok (.iload_n 2, 1) := by decide +kernel
theorem dX10_cell_6 : decode cX10_cell 6 = .ok (.iload_n 3, 1) := by decide +kernel
theorem dX10_cell_7 : decode cX10_cell 7 = .ok (.invokevirtual 55, 3) := by decide +kernel
theorem dX10_cell_10 : decode cX10_cell 10 = .ok (.ireturn, 1) := by decide +kernel
theorem dX10_slipsInHundred_0 : decode cX10_slipsInHundred 0 = .ok (.aload_n 0, 1) := by decide +kernel
theorem dX10_slipsInHundred_1 : decode cX10_slipsInHundred 1 = .ok (.getfield 12, 3) := by decide +kernel
theorem dX10_slipsInHundred_4 : decode cX10_slipsInHundred 4 = .ok (.iconst 0, 1) := by decide +kernel
theorem dX10_slipsInHundred_5 : decode cX10_slipsInHundred 5 = .ok (.iconst 0, 1) := by decide +kernel
theorem dX10_slipsInHundred_6 : decode cX10_slipsInHundred 6 = .ok (.invokevirtual 55, 3) := by decide +kernel
theorem dX10_slipsInHundred_9 : decode cX10_slipsInHundred 9 = .ok (.ireturn, 1) := by decide +kernel
theorem dX10_clerksInHundred_0 : decode cX10_clerksInHundred 0 = .ok (.aload_n 0, 1) := by decide +kernel
theorem dX10_clerksInHundred_1 : decode cX10_clerksInHundred 1 = .ok (.getfield 12, 3) := by decide +kernel
theorem dX10_clerksInHundred_4 : decode cX10_clerksInHundred 4 = .ok (.iconst 0, 1) := by decide +kernel
theorem dX10_clerksInHundred_5 : decode cX10_clerksInHundred 5 = .ok (.iconst 1, 1) := by decide +kernel
theorem dX10_clerksInHundred_6 : decode cX10_clerksInHundred 6 = .ok (.invokevirtual 55, 3) := by decide +kernel
theorem dX10_clerksInHundred_9 : decode cX10_clerksInHundred 9 = .ok (.ireturn, 1) := by decide +kernel
theorem dX10_isLied_0 : decode cX10_isLied 0 = .ok (.aload_n 0, 1) := by decide +kernel
theorem dX10_isLied_1 : decode cX10_isLied 1 = .ok (.getfield 21, 3) := by decide +kernel
theorem dX10_isLied_4 : decode cX10_isLied 4 = .ok (.iload_n 1, 1) := by decide +kernel
theorem dX10_isLied_5 : decode cX10_isLied 5 = .ok (.iconst 0, 1) := by decide +kernel
theorem dX10_isLied_6 : decode cX10_isLied 6 = .ok (.invokevirtual 55, 3) := by decide +kernel
theorem dX10_isLied_9 : decode cX10_isLied 9 = .ok (.iconst 3, 1) := by decide +kernel
theorem dX10_isLied_10 : decode cX10_isLied 10 = .ok (.if_icmp .ne 7, 3) := by decide +kernel
theorem dX10_isLied_13 : decode cX10_isLied 13 = .ok (.iconst 1, 1) := by decide +kernel
theorem dX10_isLied_14 : decode cX10_isLied 14 = .ok (.goto 4, 3) := by decide +kernel
theorem dX10_isLied_17 : decode cX10_isLied 17 = .ok (.iconst 0, 1) := by decide +kernel
theorem dX10_isLied_18 : decode cX10_isLied 18 = .ok (.ireturn, 1) := by decide +kernel
theorem dX10_isToldBrown_0 : decode cX10_isToldBrown 0 = .ok (.aload_n 0, 1) := by decide +kernel
theorem dX10_isToldBrown_1 : decode cX10_isToldBrown 1 = .ok (.getfield 36, 3) := by decide +kernel
theorem dX10_isToldBrown_4 : decode cX10_isToldBrown 4 = .ok (.iload_n 1, 1) := by decide +kernel
theorem dX10_isToldBrown_5 : decode cX10_isToldBrown 5 = .ok (.iconst 2, 1) := by decide +kernel
theorem dX10_isToldBrown_6 : decode cX10_isToldBrown 6 = .ok (.invokevirtual 55, 3) := by decide +kernel
theorem dX10_isToldBrown_9 : decode cX10_isToldBrown 9 = .ok (.iconst 1, 1) := by decide +kernel
theorem dX10_isToldBrown_10 : decode cX10_isToldBrown 10 = .ok (.if_icmp .ne 7, 3) := by decide +kernel
theorem dX10_isToldBrown_13 : decode cX10_isToldBrown 13 = .ok (.iconst 1, 1) := by decide +kernel
theorem dX10_isToldBrown_14 : decode cX10_isToldBrown 14 = .ok (.goto 4, 3) := by decide +kernel
theorem dX10_isToldBrown_17 : decode cX10_isToldBrown 17 = .ok (.iconst 0, 1) := by decide +kernel
theorem dX10_isToldBrown_18 : decode cX10_isToldBrown 18 = .ok (.ireturn, 1) := by decide +kernel
theorem dX10_clashesAmong_0 : decode cX10_clashesAmong 0 = .ok (.iconst 0, 1) := by decide +kernel
theorem dX10_clashesAmong_1 : decode cX10_clashesAmong 1 = .ok (.istore_n 2, 1) := by decide +kernel
theorem dX10_clashesAmong_2 : decode cX10_clashesAmong 2 = .ok (.iconst 0, 1) := by decide +kernel
theorem dX10_clashesAmong_3 : decode cX10_clashesAmong 3 = .ok (.istore_n 3, 1) := by decide +kernel
theorem dX10_clashesAmong_4 : decode cX10_clashesAmong 4 = .ok (.iload_n 3, 1) := by decide +kernel
theorem dX10_clashesAmong_5 : decode cX10_clashesAmong 5 = .ok (.aload_n 0, 1) := by decide +kernel
theorem dX10_clashesAmong_6 : decode cX10_clashesAmong 6 = .ok (.getfield 24, 3) := by decide +kernel
theorem dX10_clashesAmong_9 : decode cX10_clashesAmong 9 = .ok (.getfield 43, 3) := by decide +kernel
theorem dX10_clashesAmong_12 : decode cX10_clashesAmong 12 = .ok (.if_icmp .ge 44, 3) := by decide +kernel
theorem dX10_clashesAmong_15 : decode cX10_clashesAmong 15 = .ok (.iload_n 1, 1) := by decide +kernel
theorem dX10_clashesAmong_16 : decode cX10_clashesAmong 16 = .ok (.aload_n 0, 1) := by decide +kernel
theorem dX10_clashesAmong_17 : decode cX10_clashesAmong 17 = .ok (.getfield 24, 3) := by decide +kernel
theorem dX10_clashesAmong_20 : decode cX10_clashesAmong 20 = .ok (.iload_n 3, 1) := by decide +kernel
theorem dX10_clashesAmong_21 : decode cX10_clashesAmong 21 = .ok (.iconst 0, 1) := by decide +kernel
theorem dX10_clashesAmong_22 : decode cX10_clashesAmong 22 = .ok (.invokevirtual 55, 3) := by decide +kernel
theorem dX10_clashesAmong_25 : decode cX10_clashesAmong 25 = .ok (.invokestatic 59, 3) := by decide +kernel
theorem dX10_clashesAmong_28 : decode cX10_clashesAmong 28 = .ok (.ifCond .eq 22, 3) := by decide +kernel
theorem dX10_clashesAmong_31 : decode cX10_clashesAmong 31 = .ok (.iload_n 1, 1) := by decide +kernel
theorem dX10_clashesAmong_32 : decode cX10_clashesAmong 32 = .ok (.aload_n 0, 1) := by decide +kernel
theorem dX10_clashesAmong_33 : decode cX10_clashesAmong 33 = .ok (.getfield 24, 3) := by decide +kernel
theorem dX10_clashesAmong_36 : decode cX10_clashesAmong 36 = .ok (.iload_n 3, 1) := by decide +kernel
theorem dX10_clashesAmong_37 : decode cX10_clashesAmong 37 = .ok (.iconst 1, 1) := by decide +kernel
theorem dX10_clashesAmong_38 : decode cX10_clashesAmong 38 = .ok (.invokevirtual 55, 3) := by decide +kernel
theorem dX10_clashesAmong_41 : decode cX10_clashesAmong 41 = .ok (.invokestatic 59, 3) := by decide +kernel
theorem dX10_clashesAmong_44 : decode cX10_clashesAmong 44 = .ok (.ifCond .eq 6, 3) := by decide +kernel
theorem dX10_clashesAmong_47 : decode cX10_clashesAmong 47 = .ok (.iinc 2 1, 3) := by decide +kernel
theorem dX10_clashesAmong_50 : decode cX10_clashesAmong 50 = .ok (.iinc 3 1, 3) := by decide +kernel
theorem dX10_clashesAmong_53 : decode cX10_clashesAmong 53 = .ok (.goto (-49), 3) := by decide +kernel
theorem dX10_clashesAmong_56 : decode cX10_clashesAmong 56 = .ok (.iload_n 2, 1) := by decide +kernel
theorem dX10_clashesAmong_57 : decode cX10_clashesAmong 57 = .ok (.ireturn, 1) := by decide +kernel
theorem dX10_clashingWith_0 : decode cX10_clashingWith 0 = .ok (.iconst 0, 1) := by decide +kernel
theorem dX10_clashingWith_1 : decode cX10_clashingWith 1 = .ok (.istore_n 2, 1) := by decide +kernel
theorem dX10_clashingWith_2 : decode cX10_clashingWith 2 = .ok (.iconst 0, 1) := by decide +kernel
theorem dX10_clashingWith_3 : decode cX10_clashingWith 3 = .ok (.istore_n 3, 1) := by decide +kernel
theorem dX10_clashingWith_4 : decode cX10_clashingWith 4 = .ok (.iload_n 3, 1) := by decide +kernel
theorem dX10_clashingWith_5 : decode cX10_clashingWith 5 = .ok (.aload_n 0, 1) := by decide +kernel
theorem dX10_clashingWith_6 : decode cX10_clashingWith 6 = .ok (.getfield 24, 3) := by decide +kernel
theorem dX10_clashingWith_9 : decode cX10_clashingWith 9 = .ok (.getfield 43, 3) := by decide +kernel
theorem dX10_clashingWith_12 : decode cX10_clashingWith 12 = .ok (.if_icmp .ge 61, 3) := by decide +kernel
theorem dX10_clashingWith_15 : decode cX10_clashingWith 15 = .ok (.aload_n 0, 1) := by decide +kernel
theorem dX10_clashingWith_16 : decode cX10_clashingWith 16 = .ok (.getfield 24, 3) := by decide +kernel
theorem dX10_clashingWith_19 : decode cX10_clashingWith 19 = .ok (.iload_n 3, 1) := by decide +kernel
theorem dX10_clashingWith_20 : decode cX10_clashingWith 20 = .ok (.iconst 0, 1) := by decide +kernel
theorem dX10_clashingWith_21 : decode cX10_clashingWith 21 = .ok (.invokevirtual 55, 3) := by decide +kernel
theorem dX10_clashingWith_24 : decode cX10_clashingWith 24 = .ok (.istore 4, 2) := by decide +kernel
theorem dX10_clashingWith_26 : decode cX10_clashingWith 26 = .ok (.aload_n 0, 1) := by decide +kernel
theorem dX10_clashingWith_27 : decode cX10_clashingWith 27 = .ok (.getfield 24, 3) := by decide +kernel
theorem dX10_clashingWith_30 : decode cX10_clashingWith 30 = .ok (.iload_n 3, 1) := by decide +kernel
theorem dX10_clashingWith_31 : decode cX10_clashingWith 31 = .ok (.iconst 1, 1) := by decide +kernel
theorem dX10_clashingWith_32 : decode cX10_clashingWith 32 = .ok (.invokevirtual 55, 3) := by decide +kernel
theorem dX10_clashingWith_35 : decode cX10_clashingWith 35 = .ok (.istore 5, 2) := by decide +kernel
theorem dX10_clashingWith_37 : decode cX10_clashingWith 37 = .ok (.iload_n 2, 1) := by decide +kernel
theorem dX10_clashingWith_38 : decode cX10_clashingWith 38 = .ok (.iload 4, 2) := by decide +kernel
theorem dX10_clashingWith_40 : decode cX10_clashingWith 40 = .ok (.iload_n 1, 1) := by decide +kernel
theorem dX10_clashingWith_41 : decode cX10_clashingWith 41 = .ok (.if_icmp .ne 10, 3) := by decide +kernel
theorem dX10_clashingWith_44 : decode cX10_clashingWith 44 = .ok (.iconst 1, 1) := by decide +kernel
theorem dX10_clashingWith_45 : decode cX10_clashingWith 45 = .ok (.iload 5, 2) := by decide +kernel
theorem dX10_clashingWith_47 : decode cX10_clashingWith 47 = .ok (.ishl, 1) := by decide +kernel
theorem dX10_clashingWith_48 : decode cX10_clashingWith 48 = .ok (.goto 17, 3) := by decide +kernel
theorem dX10_clashingWith_51 : decode cX10_clashingWith 51 = .ok (.iload 5, 2) := by decide +kernel
theorem dX10_clashingWith_53 : decode cX10_clashingWith 53 = .ok (.iload_n 1, 1) := by decide +kernel
theorem dX10_clashingWith_54 : decode cX10_clashingWith 54 = .ok (.if_icmp .ne 10, 3) := by decide +kernel
theorem dX10_clashingWith_57 : decode cX10_clashingWith 57 = .ok (.iconst 1, 1) := by decide +kernel
theorem dX10_clashingWith_58 : decode cX10_clashingWith 58 = .ok (.iload 4, 2) := by decide +kernel
theorem dX10_clashingWith_60 : decode cX10_clashingWith 60 = .ok (.ishl, 1) := by decide +kernel
theorem dX10_clashingWith_61 : decode cX10_clashingWith 61 = .ok (.goto 4, 3) := by decide +kernel
theorem dX10_clashingWith_64 : decode cX10_clashingWith 64 = .ok (.iconst 0, 1) := by decide +kernel
theorem dX10_clashingWith_65 : decode cX10_clashingWith 65 = .ok (.ior, 1) := by decide +kernel
theorem dX10_clashingWith_66 : decode cX10_clashingWith 66 = .ok (.istore_n 2, 1) := by decide +kernel
theorem dX10_clashingWith_67 : decode cX10_clashingWith 67 = .ok (.iinc 3 1, 3) := by decide +kernel
theorem dX10_clashingWith_70 : decode cX10_clashingWith 70 = .ok (.goto (-66), 3) := by decide +kernel
theorem dX10_clashingWith_73 : decode cX10_clashingWith 73 = .ok (.iload_n 2, 1) := by decide +kernel
theorem dX10_clashingWith_74 : decode cX10_clashingWith 74 = .ok (.ireturn, 1) := by decide +kernel
end
section
/-! ===== the words that every method carries ===== -/
def TW : List Cond := lw_tbl.filter goodWord
theorem TW_of {w : Cond} (h : w ∈ lw_tbl) (g : goodWord w = true) : w ∈ TW := List.mem_filter.mpr ⟨h, g⟩
theorem TW_at (i : Nat) {w : Cond} (h : lw_tbl[i]? = some w) (g : goodWord w = true) : w ∈ TW := TW_of (List.mem_of_getElem? h) g
theorem TW_good {big : List Cond} (hb : ∀ w ∈ TW, w ∈ big) : GoodIn big TW := fun w h => ⟨hb w h, good_of_word (List.mem_filter.mp h).2⟩
abbrev MI : Type := String × ByteArray × Nat × Option FieldType
abbrev AH : Type := (Nat → Nat → Int32) × (Nat → Nat → Int64)
abbrev classes : List vw_C := [(RX0, TX0, 9), (RX1, TX1, 2), (RX2, TX2, 3), (RX3, TX3, 4), (RX4, TX4, 5), (RX5, TX5, 7), (RX6, TX6, 2), (RX7, TX7, 1), (RX8, TX8, 2), (RX9, TX9, 8), (RX10, TX10, 8), (RX11, TX11, 9), (RX12, TX12, 32), (RX13, TX13, 32)]
def clTy : Nat → Nat → FieldType
  | 0 => tyX0
  | 1 => tyX1
  | 2 => tyX2
  | 3 => tyX3
  | 4 => tyX4
  | 5 => tyX5
  | 6 => tyX6
  | 7 => tyX7
  | 8 => tyX8
  | 9 => tyX9
  | 10 => tyX10
  | 11 => tyX11
  | 12 => tyX12
  | 13 => tyX13
  | _ => fun _ => .int
def clT : Nat → u_T
  | 0 => TX0
  | 1 => TX1
  | 2 => TX2
  | 3 => TX3
  | 4 => TX4
  | 5 => TX5
  | 6 => TX6
  | 7 => TX7
  | 8 => TX8
  | 9 => TX9
  | 10 => TX10
  | 11 => TX11
  | 12 => TX12
  | 13 => TX13
  | _ => fun _ => ("", "", "", false)
def clN : Nat → Nat
  | 0 => 9
  | 1 => 2
  | 2 => 3
  | 3 => 4
  | 4 => 5
  | 5 => 7
  | 6 => 2
  | 7 => 1
  | 8 => 2
  | 9 => 8
  | 10 => 8
  | 11 => 9
  | 12 => 32
  | 13 => 32
  | _ => 0
def clR : Nat → String
  | 0 => RX0
  | 1 => RX1
  | 2 => RX2
  | 3 => RX3
  | 4 => RX4
  | 5 => RX5
  | 6 => RX6
  | 7 => RX7
  | 8 => RX8
  | 9 => RX9
  | 10 => RX10
  | 11 => RX11
  | 12 => RX12
  | 13 => RX13
  | _ => ""
theorem cl_at {ci : Nat} (h : ci < 14) : classes[ci]? = some (clR ci, clT ci, clN ci) := by
  rcases ci with _ | _ | _ | _ | _ | _ | _ | _ | _ | _ | _ | _ | _ | _ | ci
  all_goals first | rfl | omega
theorem cl_ty {ci : Nat} (h : ci < 14) : ∀ k, k < clN ci → parseFieldDescriptor (clT ci k).2.2.1 = some (clTy ci k) := by
  rcases ci with _ | _ | _ | _ | _ | _ | _ | _ | _ | _ | _ | _ | _ | _ | ci
  · exact tyX0_ok
  · exact tyX1_ok
  · exact tyX2_ok
  · exact tyX3_ok
  · exact tyX4_ok
  · exact tyX5_ok
  · exact tyX6_ok
  · exact tyX7_ok
  · exact tyX8_ok
  · exact tyX9_ok
  · exact tyX10_ok
  · exact tyX11_ok
  · exact tyX12_ok
  · exact tyX13_ok
  · omega
theorem cl_nm {ci : Nat} (h : ci < 14) : ∀ a, a < clN ci → ∀ b, b < clN ci → a ≠ b → (clT ci a).2.1 ≠ (clT ci b).2.1 := by
  rcases ci with _ | _ | _ | _ | _ | _ | _ | _ | _ | _ | _ | _ | _ | _ | ci
  · exact nmX0
  · exact nmX1
  · exact nmX2
  · exact nmX3
  · exact nmX4
  · exact nmX5
  · exact nmX6
  · exact nmX7
  · exact nmX8
  · exact nmX9
  · exact nmX10
  · exact nmX11
  · exact nmX12
  · exact nmX13
  · omega
end
section
theorem layX0_0 : u_lay RX0 TX0 0 ∈ TW := TW_at 332 (by decide +kernel) (by decide +kernel)
theorem layX0_1 : u_lay RX0 TX0 1 ∈ TW := TW_at 334 (by decide +kernel) (by decide +kernel)
theorem layX0_2 : u_lay RX0 TX0 2 ∈ TW := TW_at 336 (by decide +kernel) (by decide +kernel)
theorem layX0_3 : u_lay RX0 TX0 3 ∈ TW := TW_at 338 (by decide +kernel) (by decide +kernel)
theorem layX0_4 : u_lay RX0 TX0 4 ∈ TW := TW_at 340 (by decide +kernel) (by decide +kernel)
theorem layX0_5 : u_lay RX0 TX0 5 ∈ TW := TW_at 342 (by decide +kernel) (by decide +kernel)
theorem layX0_6 : u_lay RX0 TX0 6 ∈ TW := TW_at 344 (by decide +kernel) (by decide +kernel)
theorem layX0_7 : u_lay RX0 TX0 7 ∈ TW := TW_at 346 (by decide +kernel) (by decide +kernel)
theorem layX0_8 : u_lay RX0 TX0 8 ∈ TW := TW_at 348 (by decide +kernel) (by decide +kernel)
theorem layX0 : ∀ w ∈ u_ws RX0 TX0 9, w ∈ TW := by
  intro w hw
  obtain ⟨k, hk, rfl⟩ := List.mem_map.mp hw
  have hk := List.mem_range.mp hk
  rcases k with _ | _ | _ | _ | _ | _ | _ | _ | _ | k
  · exact layX0_0
  · exact layX0_1
  · exact layX0_2
  · exact layX0_3
  · exact layX0_4
  · exact layX0_5
  · exact layX0_6
  · exact layX0_7
  · exact layX0_8
  · omega
theorem layX1_0 : u_lay RX1 TX1 0 ∈ TW := TW_at 377 (by decide +kernel) (by decide +kernel)
theorem layX1_1 : u_lay RX1 TX1 1 ∈ TW := TW_at 379 (by decide +kernel) (by decide +kernel)
theorem layX1 : ∀ w ∈ u_ws RX1 TX1 2, w ∈ TW := by
  intro w hw
  obtain ⟨k, hk, rfl⟩ := List.mem_map.mp hw
  have hk := List.mem_range.mp hk
  rcases k with _ | _ | k
  · exact layX1_0
  · exact layX1_1
  · omega
theorem layX2_0 : u_lay RX2 TX2 0 ∈ TW := TW_at 361 (by decide +kernel) (by decide +kernel)
theorem layX2_1 : u_lay RX2 TX2 1 ∈ TW := TW_at 363 (by decide +kernel) (by decide +kernel)
theorem layX2_2 : u_lay RX2 TX2 2 ∈ TW := TW_at 365 (by decide +kernel) (by decide +kernel)
theorem layX2 : ∀ w ∈ u_ws RX2 TX2 3, w ∈ TW := by
  intro w hw
  obtain ⟨k, hk, rfl⟩ := List.mem_map.mp hw
  have hk := List.mem_range.mp hk
  rcases k with _ | _ | _ | k
  · exact layX2_0
  · exact layX2_1
  · exact layX2_2
  · omega
theorem layX3_0 : u_lay RX3 TX3 0 ∈ TW := TW_at 162 (by decide +kernel) (by decide +kernel)
theorem layX3_1 : u_lay RX3 TX3 1 ∈ TW := TW_at 164 (by decide +kernel) (by decide +kernel)
theorem layX3_2 : u_lay RX3 TX3 2 ∈ TW := TW_at 166 (by decide +kernel) (by decide +kernel)
theorem layX3_3 : u_lay RX3 TX3 3 ∈ TW := TW_at 168 (by decide +kernel) (by decide +kernel)
theorem layX3 : ∀ w ∈ u_ws RX3 TX3 4, w ∈ TW := by
  intro w hw
  obtain ⟨k, hk, rfl⟩ := List.mem_map.mp hw
  have hk := List.mem_range.mp hk
  rcases k with _ | _ | _ | _ | k
  · exact layX3_0
  · exact layX3_1
  · exact layX3_2
  · exact layX3_3
  · omega
theorem layX4_0 : u_lay RX4 TX4 0 ∈ TW := TW_at 306 (by decide +kernel) (by decide +kernel)
theorem layX4_1 : u_lay RX4 TX4 1 ∈ TW := TW_at 308 (by decide +kernel) (by decide +kernel)
theorem layX4_2 : u_lay RX4 TX4 2 ∈ TW := TW_at 310 (by decide +kernel) (by decide +kernel)
theorem layX4_3 : u_lay RX4 TX4 3 ∈ TW := TW_at 312 (by decide +kernel) (by decide +kernel)
theorem layX4_4 : u_lay RX4 TX4 4 ∈ TW := TW_at 314 (by decide +kernel) (by decide +kernel)
theorem layX4 : ∀ w ∈ u_ws RX4 TX4 5, w ∈ TW := by
  intro w hw
  obtain ⟨k, hk, rfl⟩ := List.mem_map.mp hw
  have hk := List.mem_range.mp hk
  rcases k with _ | _ | _ | _ | _ | k
  · exact layX4_0
  · exact layX4_1
  · exact layX4_2
  · exact layX4_3
  · exact layX4_4
  · omega
theorem layX5_0 : u_lay RX5 TX5 0 ∈ TW := TW_at 266 (by decide +kernel) (by decide +kernel)
theorem layX5_1 : u_lay RX5 TX5 1 ∈ TW := TW_at 268 (by decide +kernel) (by decide +kernel)
theorem layX5_2 : u_lay RX5 TX5 2 ∈ TW := TW_at 270 (by decide +kernel) (by decide +kernel)
theorem layX5_3 : u_lay RX5 TX5 3 ∈ TW := TW_at 272 (by decide +kernel) (by decide +kernel)
theorem layX5_4 : u_lay RX5 TX5 4 ∈ TW := TW_at 274 (by decide +kernel) (by decide +kernel)
theorem layX5_5 : u_lay RX5 TX5 5 ∈ TW := TW_at 276 (by decide +kernel) (by decide +kernel)
theorem layX5_6 : u_lay RX5 TX5 6 ∈ TW := TW_at 278 (by decide +kernel) (by decide +kernel)
theorem layX5 : ∀ w ∈ u_ws RX5 TX5 7, w ∈ TW := by
  intro w hw
  obtain ⟨k, hk, rfl⟩ := List.mem_map.mp hw
  have hk := List.mem_range.mp hk
  rcases k with _ | _ | _ | _ | _ | _ | _ | k
  · exact layX5_0
  · exact layX5_1
  · exact layX5_2
  · exact layX5_3
  · exact layX5_4
  · exact layX5_5
  · exact layX5_6
  · omega
theorem layX6_0 : u_lay RX6 TX6 0 ∈ TW := TW_at 390 (by decide +kernel) (by decide +kernel)
theorem layX6_1 : u_lay RX6 TX6 1 ∈ TW := TW_at 392 (by decide +kernel) (by decide +kernel)
theorem layX6 : ∀ w ∈ u_ws RX6 TX6 2, w ∈ TW := by
  intro w hw
  obtain ⟨k, hk, rfl⟩ := List.mem_map.mp hw
  have hk := List.mem_range.mp hk
  rcases k with _ | _ | k
  · exact layX6_0
  · exact layX6_1
  · omega
theorem layX7_0 : u_lay RX7 TX7 0 ∈ TW := TW_at 290 (by decide +kernel) (by decide +kernel)
theorem layX7 : ∀ w ∈ u_ws RX7 TX7 1, w ∈ TW := by
  intro w hw
  obtain ⟨k, hk, rfl⟩ := List.mem_map.mp hw
  have hk := List.mem_range.mp hk
  rcases k with _ | k
  · exact layX7_0
  · omega
theorem layX8_0 : u_lay RX8 TX8 0 ∈ TW := TW_at 225 (by decide +kernel) (by decide +kernel)
theorem layX8_1 : u_lay RX8 TX8 1 ∈ TW := TW_at 227 (by decide +kernel) (by decide +kernel)
theorem layX8 : ∀ w ∈ u_ws RX8 TX8 2, w ∈ TW := by
  intro w hw
  obtain ⟨k, hk, rfl⟩ := List.mem_map.mp hw
  have hk := List.mem_range.mp hk
  rcases k with _ | _ | k
  · exact layX8_0
  · exact layX8_1
  · omega
theorem layX9_0 : u_lay RX9 TX9 0 ∈ TW := TW_at 192 (by decide +kernel) (by decide +kernel)
theorem layX9_1 : u_lay RX9 TX9 1 ∈ TW := TW_at 194 (by decide +kernel) (by decide +kernel)
theorem layX9_2 : u_lay RX9 TX9 2 ∈ TW := TW_at 196 (by decide +kernel) (by decide +kernel)
theorem layX9_3 : u_lay RX9 TX9 3 ∈ TW := TW_at 198 (by decide +kernel) (by decide +kernel)
theorem layX9_4 : u_lay RX9 TX9 4 ∈ TW := TW_at 200 (by decide +kernel) (by decide +kernel)
theorem layX9_5 : u_lay RX9 TX9 5 ∈ TW := TW_at 202 (by decide +kernel) (by decide +kernel)
theorem layX9_6 : u_lay RX9 TX9 6 ∈ TW := TW_at 204 (by decide +kernel) (by decide +kernel)
theorem layX9_7 : u_lay RX9 TX9 7 ∈ TW := TW_at 206 (by decide +kernel) (by decide +kernel)
theorem layX9 : ∀ w ∈ u_ws RX9 TX9 8, w ∈ TW := by
  intro w hw
  obtain ⟨k, hk, rfl⟩ := List.mem_map.mp hw
  have hk := List.mem_range.mp hk
  rcases k with _ | _ | _ | _ | _ | _ | _ | _ | k
  · exact layX9_0
  · exact layX9_1
  · exact layX9_2
  · exact layX9_3
  · exact layX9_4
  · exact layX9_5
  · exact layX9_6
  · exact layX9_7
  · omega
theorem layX10_0 : u_lay RX10 TX10 0 ∈ TW := TW_at 238 (by decide +kernel) (by decide +kernel)
theorem layX10_1 : u_lay RX10 TX10 1 ∈ TW := TW_at 240 (by decide +kernel) (by decide +kernel)
theorem layX10_2 : u_lay RX10 TX10 2 ∈ TW := TW_at 242 (by decide +kernel) (by decide +kernel)
theorem layX10_3 : u_lay RX10 TX10 3 ∈ TW := TW_at 244 (by decide +kernel) (by decide +kernel)
theorem layX10_4 : u_lay RX10 TX10 4 ∈ TW := TW_at 246 (by decide +kernel) (by decide +kernel)
theorem layX10_5 : u_lay RX10 TX10 5 ∈ TW := TW_at 248 (by decide +kernel) (by decide +kernel)
theorem layX10_6 : u_lay RX10 TX10 6 ∈ TW := TW_at 250 (by decide +kernel) (by decide +kernel)
theorem layX10_7 : u_lay RX10 TX10 7 ∈ TW := TW_at 252 (by decide +kernel) (by decide +kernel)
theorem layX10 : ∀ w ∈ u_ws RX10 TX10 8, w ∈ TW := by
  intro w hw
  obtain ⟨k, hk, rfl⟩ := List.mem_map.mp hw
  have hk := List.mem_range.mp hk
  rcases k with _ | _ | _ | _ | _ | _ | _ | _ | k
  · exact layX10_0
  · exact layX10_1
  · exact layX10_2
  · exact layX10_3
  · exact layX10_4
  · exact layX10_5
  · exact layX10_6
  · exact layX10_7
  · omega
theorem layX11_0 : u_lay RX11 TX11 0 ∈ TW := TW_at 404 (by decide +kernel) (by decide +kernel)
theorem layX11_1 : u_lay RX11 TX11 1 ∈ TW := TW_at 406 (by decide +kernel) (by decide +kernel)
theorem layX11_2 : u_lay RX11 TX11 2 ∈ TW := TW_at 408 (by decide +kernel) (by decide +kernel)
theorem layX11_3 : u_lay RX11 TX11 3 ∈ TW := TW_at 410 (by decide +kernel) (by decide +kernel)
theorem layX11_4 : u_lay RX11 TX11 4 ∈ TW := TW_at 412 (by decide +kernel) (by decide +kernel)
theorem layX11_5 : u_lay RX11 TX11 5 ∈ TW := TW_at 414 (by decide +kernel) (by decide +kernel)
theorem layX11_6 : u_lay RX11 TX11 6 ∈ TW := TW_at 416 (by decide +kernel) (by decide +kernel)
theorem layX11_7 : u_lay RX11 TX11 7 ∈ TW := TW_at 418 (by decide +kernel) (by decide +kernel)
theorem layX11_8 : u_lay RX11 TX11 8 ∈ TW := TW_at 420 (by decide +kernel) (by decide +kernel)
theorem layX11 : ∀ w ∈ u_ws RX11 TX11 9, w ∈ TW := by
  intro w hw
  obtain ⟨k, hk, rfl⟩ := List.mem_map.mp hw
  have hk := List.mem_range.mp hk
  rcases k with _ | _ | _ | _ | _ | _ | _ | _ | _ | k
  · exact layX11_0
  · exact layX11_1
  · exact layX11_2
  · exact layX11_3
  · exact layX11_4
  · exact layX11_5
  · exact layX11_6
  · exact layX11_7
  · exact layX11_8
  · omega
theorem layX12_0 : u_lay RX12 TX12 0 ∈ TW := TW_at 1501 (by decide +kernel) (by decide +kernel)
theorem layX12_1 : u_lay RX12 TX12 1 ∈ TW := TW_at 1503 (by decide +kernel) (by decide +kernel)
theorem layX12_2 : u_lay RX12 TX12 2 ∈ TW := TW_at 1505 (by decide +kernel) (by decide +kernel)
theorem layX12_3 : u_lay RX12 TX12 3 ∈ TW := TW_at 1507 (by decide +kernel) (by decide +kernel)
theorem layX12_4 : u_lay RX12 TX12 4 ∈ TW := TW_at 1509 (by decide +kernel) (by decide +kernel)
theorem layX12_5 : u_lay RX12 TX12 5 ∈ TW := TW_at 1511 (by decide +kernel) (by decide +kernel)
theorem layX12_6 : u_lay RX12 TX12 6 ∈ TW := TW_at 1513 (by decide +kernel) (by decide +kernel)
theorem layX12_7 : u_lay RX12 TX12 7 ∈ TW := TW_at 1515 (by decide +kernel) (by decide +kernel)
theorem layX12_8 : u_lay RX12 TX12 8 ∈ TW := TW_at 1517 (by decide +kernel) (by decide +kernel)
theorem layX12_9 : u_lay RX12 TX12 9 ∈ TW := TW_at 1519 (by decide +kernel) (by decide +kernel)
theorem layX12_10 : u_lay RX12 TX12 10 ∈ TW := TW_at 1521 (by decide +kernel) (by decide +kernel)
theorem layX12_11 : u_lay RX12 TX12 11 ∈ TW := TW_at 1523 (by decide +kernel) (by decide +kernel)
theorem layX12_12 : u_lay RX12 TX12 12 ∈ TW := TW_at 1525 (by decide +kernel) (by decide +kernel)
theorem layX12_13 : u_lay RX12 TX12 13 ∈ TW := TW_at 1527 (by decide +kernel) (by decide +kernel)
theorem layX12_14 : u_lay RX12 TX12 14 ∈ TW := TW_at 1529 (by decide +kernel) (by decide +kernel)
theorem layX12_15 : u_lay RX12 TX12 15 ∈ TW := TW_at 1531 (by decide +kernel) (by decide +kernel)
theorem layX12_16 : u_lay RX12 TX12 16 ∈ TW := TW_at 1533 (by decide +kernel) (by decide +kernel)
theorem layX12_17 : u_lay RX12 TX12 17 ∈ TW := TW_at 1535 (by decide +kernel) (by decide +kernel)
theorem layX12_18 : u_lay RX12 TX12 18 ∈ TW := TW_at 1537 (by decide +kernel) (by decide +kernel)
theorem layX12_19 : u_lay RX12 TX12 19 ∈ TW := TW_at 1539 (by decide +kernel) (by decide +kernel)
theorem layX12_20 : u_lay RX12 TX12 20 ∈ TW := TW_at 1541 (by decide +kernel) (by decide +kernel)
theorem layX12_21 : u_lay RX12 TX12 21 ∈ TW := TW_at 1543 (by decide +kernel) (by decide +kernel)
theorem layX12_22 : u_lay RX12 TX12 22 ∈ TW := TW_at 1545 (by decide +kernel) (by decide +kernel)
theorem layX12_23 : u_lay RX12 TX12 23 ∈ TW := TW_at 1547 (by decide +kernel) (by decide +kernel)
theorem layX12_24 : u_lay RX12 TX12 24 ∈ TW := TW_at 1549 (by decide +kernel) (by decide +kernel)
theorem layX12_25 : u_lay RX12 TX12 25 ∈ TW := TW_at 1551 (by decide +kernel) (by decide +kernel)
theorem layX12_26 : u_lay RX12 TX12 26 ∈ TW := TW_at 1553 (by decide +kernel) (by decide +kernel)
theorem layX12_27 : u_lay RX12 TX12 27 ∈ TW := TW_at 1555 (by decide +kernel) (by decide +kernel)
theorem layX12_28 : u_lay RX12 TX12 28 ∈ TW := TW_at 1557 (by decide +kernel) (by decide +kernel)
theorem layX12_29 : u_lay RX12 TX12 29 ∈ TW := TW_at 1559 (by decide +kernel) (by decide +kernel)
theorem layX12_30 : u_lay RX12 TX12 30 ∈ TW := TW_at 1561 (by decide +kernel) (by decide +kernel)
theorem layX12_31 : u_lay RX12 TX12 31 ∈ TW := TW_at 1563 (by decide +kernel) (by decide +kernel)
theorem layX12 : ∀ w ∈ u_ws RX12 TX12 32, w ∈ TW := by
  intro w hw
  obtain ⟨k, hk, rfl⟩ := List.mem_map.mp hw
  have hk := List.mem_range.mp hk
  rcases k with _ | _ | _ | _ | _ | _ | _ | _ | _ | _ | _ | _ | _ | _ | _ | _ | _ | _ | _ | _ | _ | _ | _ | _ | _ | _ | _ | _ | _ | _ | _ | _ | k
  · exact layX12_0
  · exact layX12_1
  · exact layX12_2
  · exact layX12_3
  · exact layX12_4
  · exact layX12_5
  · exact layX12_6
  · exact layX12_7
  · exact layX12_8
  · exact layX12_9
  · exact layX12_10
  · exact layX12_11
  · exact layX12_12
  · exact layX12_13
  · exact layX12_14
  · exact layX12_15
  · exact layX12_16
  · exact layX12_17
  · exact layX12_18
  · exact layX12_19
  · exact layX12_20
  · exact layX12_21
  · exact layX12_22
  · exact layX12_23
  · exact layX12_24
  · exact layX12_25
  · exact layX12_26
  · exact layX12_27
  · exact layX12_28
  · exact layX12_29
  · exact layX12_30
  · exact layX12_31
  · omega
theorem layX13_0 : u_lay RX13 TX13 0 ∈ TW := TW_at 1358 (by decide +kernel) (by decide +kernel)
theorem layX13_1 : u_lay RX13 TX13 1 ∈ TW := TW_at 1360 (by decide +kernel) (by decide +kernel)
theorem layX13_2 : u_lay RX13 TX13 2 ∈ TW := TW_at 1362 (by decide +kernel) (by decide +kernel)
theorem layX13_3 : u_lay RX13 TX13 3 ∈ TW := TW_at 1364 (by decide +kernel) (by decide +kernel)
theorem layX13_4 : u_lay RX13 TX13 4 ∈ TW := TW_at 1366 (by decide +kernel) (by decide +kernel)
theorem layX13_5 : u_lay RX13 TX13 5 ∈ TW := TW_at 1368 (by decide +kernel) (by decide +kernel)
theorem layX13_6 : u_lay RX13 TX13 6 ∈ TW := TW_at 1370 (by decide +kernel) (by decide +kernel)
theorem layX13_7 : u_lay RX13 TX13 7 ∈ TW := TW_at 1372 (by decide +kernel) (by decide +kernel)
theorem layX13_8 : u_lay RX13 TX13 8 ∈ TW := TW_at 1374 (by decide +kernel) (by decide +kernel)
theorem layX13_9 : u_lay RX13 TX13 9 ∈ TW := TW_at 1376 (by decide +kernel) (by decide +kernel)
theorem layX13_10 : u_lay RX13 TX13 10 ∈ TW := TW_at 1378 (by decide +kernel) (by decide +kernel)
theorem layX13_11 : u_lay RX13 TX13 11 ∈ TW := TW_at 1380 (by decide +kernel) (by decide +kernel)
theorem layX13_12 : u_lay RX13 TX13 12 ∈ TW := TW_at 1382 (by decide +kernel) (by decide +kernel)
theorem layX13_13 : u_lay RX13 TX13 13 ∈ TW := TW_at 1384 (by decide +kernel) (by decide +kernel)
theorem layX13_14 : u_lay RX13 TX13 14 ∈ TW := TW_at 1386 (by decide +kernel) (by decide +kernel)
theorem layX13_15 : u_lay RX13 TX13 15 ∈ TW := TW_at 1388 (by decide +kernel) (by decide +kernel)
theorem layX13_16 : u_lay RX13 TX13 16 ∈ TW := TW_at 1390 (by decide +kernel) (by decide +kernel)
theorem layX13_17 : u_lay RX13 TX13 17 ∈ TW := TW_at 1392 (by decide +kernel) (by decide +kernel)
theorem layX13_18 : u_lay RX13 TX13 18 ∈ TW := TW_at 1394 (by decide +kernel) (by decide +kernel)
theorem layX13_19 : u_lay RX13 TX13 19 ∈ TW := TW_at 1396 (by decide +kernel) (by decide +kernel)
theorem layX13_20 : u_lay RX13 TX13 20 ∈ TW := TW_at 1398 (by decide +kernel) (by decide +kernel)
theorem layX13_21 : u_lay RX13 TX13 21 ∈ TW := TW_at 1400 (by decide +kernel) (by decide +kernel)
theorem layX13_22 : u_lay RX13 TX13 22 ∈ TW := TW_at 1402 (by decide +kernel) (by decide +kernel)
theorem layX13_23 : u_lay RX13 TX13 23 ∈ TW := TW_at 1404 (by decide +kernel) (by decide +kernel)
theorem layX13_24 : u_lay RX13 TX13 24 ∈ TW := TW_at 1406 (by decide +kernel) (by decide +kernel)
theorem layX13_25 : u_lay RX13 TX13 25 ∈ TW := TW_at 1408 (by decide +kernel) (by decide +kernel)
theorem layX13_26 : u_lay RX13 TX13 26 ∈ TW := TW_at 1410 (by decide +kernel) (by decide +kernel)
theorem layX13_27 : u_lay RX13 TX13 27 ∈ TW := TW_at 1412 (by decide +kernel) (by decide +kernel)
theorem layX13_28 : u_lay RX13 TX13 28 ∈ TW := TW_at 1414 (by decide +kernel) (by decide +kernel)
theorem layX13_29 : u_lay RX13 TX13 29 ∈ TW := TW_at 1416 (by decide +kernel) (by decide +kernel)
theorem layX13_30 : u_lay RX13 TX13 30 ∈ TW := TW_at 1418 (by decide +kernel) (by decide +kernel)
theorem layX13_31 : u_lay RX13 TX13 31 ∈ TW := TW_at 1420 (by decide +kernel) (by decide +kernel)
theorem layX13 : ∀ w ∈ u_ws RX13 TX13 32, w ∈ TW := by
  intro w hw
  obtain ⟨k, hk, rfl⟩ := List.mem_map.mp hw
  have hk := List.mem_range.mp hk
  rcases k with _ | _ | _ | _ | _ | _ | _ | _ | _ | _ | _ | _ | _ | _ | _ | _ | _ | _ | _ | _ | _ | _ | _ | _ | _ | _ | _ | _ | _ | _ | _ | _ | k
  · exact layX13_0
  · exact layX13_1
  · exact layX13_2
  · exact layX13_3
  · exact layX13_4
  · exact layX13_5
  · exact layX13_6
  · exact layX13_7
  · exact layX13_8
  · exact layX13_9
  · exact layX13_10
  · exact layX13_11
  · exact layX13_12
  · exact layX13_13
  · exact layX13_14
  · exact layX13_15
  · exact layX13_16
  · exact layX13_17
  · exact layX13_18
  · exact layX13_19
  · exact layX13_20
  · exact layX13_21
  · exact layX13_22
  · exact layX13_23
  · exact layX13_24
  · exact layX13_25
  · exact layX13_26
  · exact layX13_27
  · exact layX13_28
  · exact layX13_29
  · exact layX13_30
  · exact layX13_31
  · omega
theorem cl_in {ci : Nat} (h : ci < 14) : ∀ w ∈ u_ws (clR ci) (clT ci) (clN ci), w ∈ TW := by
  rcases ci with _ | _ | _ | _ | _ | _ | _ | _ | _ | _ | _ | _ | _ | _ | ci
  · exact layX0
  · exact layX1
  · exact layX2
  · exact layX3
  · exact layX4
  · exact layX5
  · exact layX6
  · exact layX7
  · exact layX8
  · exact layX9
  · exact layX10
  · exact layX11
  · exact layX12
  · exact layX13
  · omega
/-- what a name stands for: an object of a class (its number), or an array (0 int, 1 byte, 2 boolean, 3 long; its length) -/
def shp : Nat → Nat ⊕ (Nat × Nat)
  | 0 => .inl 11
  | 1 => .inl 5
  | 2 => .inl 3
  | 3 => .inr (3, 14)
  | 4 => .inr (0, 14)
  | 5 => .inr (0, 14)
  | 6 => .inr (0, 6)
  | 7 => .inl 9
  | 8 => .inr (1, 900)
  | 9 => .inl 10
  | 10 => .inl 8
  | 11 => .inr (0, 48)
  | 12 => .inl 8
  | 13 => .inr (0, 48)
  | 14 => .inl 8
  | 15 => .inr (0, 48)
  | 16 => .inl 8
  | 17 => .inr (0, 48)
  | 18 => .inl 8
  | 19 => .inr (0, 48)
  | 20 => .inl 8
  | 21 => .inr (0, 48)
  | 22 => .inl 8
  | 23 => .inr (0, 48)
  | 24 => .inl 8
  | 25 => .inr (0, 48)
  | 26 => .inl 10
  | 27 => .inl 8
  | 28 => .inr (0, 48)
  | 29 => .inl 8
  | 30 => .inr (0, 48)
  | 31 => .inl 8
  | 32 => .inr (0, 48)
  | 33 => .inl 8
  | 34 => .inr (0, 48)
  | 35 => .inl 8
  | 36 => .inr (0, 48)
  | 37 => .inl 8
  | 38 => .inr (0, 48)
  | 39 => .inl 8
  | 40 => .inr (0, 48)
  | 41 => .inl 8
  | 42 => .inr (0, 48)
  | 43 => .inl 7
  | 44 => .inr (0, 51)
  | 45 => .inl 4
  | 46 => .inr (0, 816)
  | 47 => .inr (0, 153)
  | 48 => .inl 0
  | 49 => .inr (0, 13)
  | 50 => .inr (0, 13)
  | 51 => .inr (0, 13)
  | 52 => .inr (0, 256)
  | 53 => .inr (0, 32)
  | 54 => .inr (0, 32)
  | 55 => .inr (2, 256)
  | 56 => .inl 2
  | 57 => .inr (3, 32)
  | 58 => .inl 1
  | 59 => .inl 6
  | 100 => .inl 13
  | 101 => .inr (1, 900)
  | 102 => .inr (0, 26)
  | 103 => .inr (0, 26)
  | 104 => .inr (0, 416)
  | 105 => .inr (0, 78)
  | 106 => .inr (0, 13)
  | 107 => .inr (0, 13)
  | 108 => .inr (0, 13)
  | 109 => .inr (0, 5)
  | 110 => .inr (2, 256)
  | 111 => .inl 12
  | 112 => .inr (0, 7)
  | 113 => .inr (0, 7)
  | 114 => .inr (0, 7)
  | 115 => .inr (0, 7)
  | 116 => .inr (0, 7)
  | 117 => .inr (0, 7)
  | 118 => .inr (0, 4)
  | 119 => .inr (0, 4)
  | 120 => .inr (0, 4)
  | 121 => .inr (0, 5)
  | 122 => .inr (0, 5)
  | 123 => .inr (0, 5)
  | 124 => .inr (0, 5)
  | 125 => .inr (0, 8)
  | 126 => .inr (0, 8)
  | 127 => .inr (0, 5)
  | 128 => .inr (0, 6)
  | 129 => .inr (0, 6)
  | 130 => .inr (3, 14)
  | 131 => .inr (0, 14)
  | 132 => .inr (0, 14)
  | _ => .inr (0, 0)
/-- the references that never change, by name and field; the reference model's web (w) and read (r) are given -/
def GG (w r : Value) : Nat → Nat → Value
  | 0, 0 => .ref 1
  | 0, 1 => .ref 26
  | 0, 2 => .ref 43
  | 0, 3 => .ref 45
  | 0, 4 => .ref 48
  | 0, 5 => .ref 56
  | 0, 6 => .ref 58
  | 0, 7 => .ref 59
  | 1, 0 => .ref 2
  | 1, 1 => .ref 6
  | 1, 3 => .ref 7
  | 1, 4 => .ref 9
  | 2, 0 => .ref 3
  | 2, 1 => .ref 4
  | 2, 2 => .ref 5
  | 7, 0 => .ref 8
  | 9, 0 => .ref 10
  | 9, 1 => .ref 12
  | 9, 2 => .ref 14
  | 9, 3 => .ref 16
  | 9, 4 => .ref 18
  | 9, 5 => .ref 20
  | 9, 6 => .ref 22
  | 9, 7 => .ref 24
  | 10, 0 => .ref 11
  | 12, 0 => .ref 13
  | 14, 0 => .ref 15
  | 16, 0 => .ref 17
  | 18, 0 => .ref 19
  | 20, 0 => .ref 21
  | 22, 0 => .ref 23
  | 24, 0 => .ref 25
  | 26, 0 => .ref 27
  | 26, 1 => .ref 29
  | 26, 2 => .ref 31
  | 26, 3 => .ref 33
  | 26, 4 => .ref 35
  | 26, 5 => .ref 37
  | 26, 6 => .ref 39
  | 26, 7 => .ref 41
  | 27, 0 => .ref 28
  | 29, 0 => .ref 30
  | 31, 0 => .ref 32
  | 33, 0 => .ref 34
  | 35, 0 => .ref 36
  | 37, 0 => .ref 38
  | 39, 0 => .ref 40
  | 41, 0 => .ref 42
  | 43, 0 => .ref 44
  | 45, 0 => .ref 46
  | 45, 1 => .ref 47
  | 48, 0 => .ref 49
  | 48, 1 => .ref 50
  | 48, 2 => .ref 51
  | 48, 3 => .ref 52
  | 48, 4 => .ref 53
  | 48, 5 => .ref 54
  | 48, 6 => .ref 55
  | 56, 0 => .ref 57
  | 100, 5 => .ref 101
  | 100, 16 => .ref 102
  | 100, 17 => .ref 103
  | 100, 18 => .ref 104
  | 100, 19 => .ref 105
  | 100, 22 => .ref 106
  | 100, 23 => .ref 107
  | 100, 24 => .ref 108
  | 100, 27 => .ref 109
  | 100, 29 => .ref 110
  | 111, 11 => .ref 112
  | 111, 12 => .ref 113
  | 111, 13 => .ref 114
  | 111, 14 => .ref 115
  | 111, 15 => .ref 116
  | 111, 16 => .ref 117
  | 111, 17 => .ref 118
  | 111, 18 => .ref 119
  | 111, 19 => .ref 120
  | 111, 20 => .ref 121
  | 111, 21 => .ref 122
  | 111, 22 => .ref 123
  | 111, 23 => .ref 124
  | 111, 24 => .ref 125
  | 111, 25 => .ref 126
  | 111, 26 => .ref 127
  | 111, 27 => .ref 128
  | 111, 28 => .ref 129
  | 111, 29 => .ref 130
  | 111, 30 => .ref 131
  | 111, 31 => .ref 132
  | 100, 3 => w
  | 100, 4 => r
  | _, _ => .null
end
section
/-! ===== the world by names, and the judgement WP ===== -/
def cv (ρ : Nat → Nat) : Value → Value
  | .ref o => .ref (ρ o)
  | v => v
def upd2 {α : Type} (f : Nat → Nat → α) (o k : Nat) (x : α) : Nat → Nat → α := fun a b => if a = o then (if b = k then x else f a b) else f a b
def fvk (ty : FieldType) (ρ : Nat → Nat) (G : Nat → Nat → Value) (A : AH) (o k : Nat) : Value := match ty with
  | .int => .int (A.1 o k)
  | .long => .long (A.2 o k)
  | _ => cv ρ (G o k)
def cellE (aC : Nat → ClassId) (ρ : Nat → Nat) (G : Nat → Nat → Value) (A : AH) (o : Nat) : va_E := match shp o with
  | .inl ci => .inr (ci, (List.range (clN ci)).map (fun k => fvk (clTy ci k) ρ G A o k))
  | .inr (t, n) => .inl (aC t, n, if t = 3 then .inr (.inl (A.2 o)) else .inl (A.1 o))
def inD (dm : Nat × Nat) (o : Nat) : Bool := Nat.ble dm.1 o && Nat.ble (o + 1) (dm.1 + dm.2)
def dmL (dm : Nat × Nat) : List Nat := (List.range dm.2).map (fun i => dm.1 + i)
theorem dmL_mem {dm : Nat × Nat} {o : Nat} (h : inD dm o = true) : o ∈ dmL dm := by
  simp only [inD, Bool.and_eq_true, Nat.ble_eq] at h
  exact List.mem_map.mpr ⟨o - dm.1, List.mem_range.mpr (by omega), by omega⟩
def wsA (aC : Nat → ClassId) (ρ : Nat → Nat) (dm : Nat × Nat) (G : Nat → Nat → Value) (A : AH) : va_W := (dmL dm).map (fun o => (ρ o, cellE aC ρ G A o))
def tysA (aC : Nat → ClassId) : List (ClassId × FieldType) := [(aC 0, .int), (aC 1, .byte), (aC 2, .boolean), (aC 3, .long)]
def fr (ρ : Nat → Nat) (dm : Nat × Nat) : Nat → Prop := fun q => ∃ o ∈ dmL dm, ρ o = q
theorem wsA_at {aC : Nat → ClassId} {ρ : Nat → Nat} {dm : Nat × Nat} {G : Nat → Nat → Value} {A : AH} {o : Nat} (h : inD dm o = true) : ∃ q0 : Nat, (dmL dm)[q0]? = some o ∧ (wsA aC ρ dm G A)[q0]? = some (ρ o, cellE aC ρ G A o) := by
  obtain ⟨q0, hq⟩ := List.getElem?_of_mem (dmL_mem h)
  exact ⟨q0, hq, by simp only [wsA, List.getElem?_map, hq, Option.map_some]⟩
theorem wsA_set {aC : Nat → ClassId} {ρ : Nat → Nat} {dm : Nat × Nat} {G : Nat → Nat → Value} {A A' : AH} {B : Nat → Prop} {o q0 : Nat} (hD : va_D B (wsA aC ρ dm G A)) (hq : (dmL dm)[q0]? = some o) (hne : ∀ x, x ≠ o → cellE aC ρ G A' x = cellE aC ρ G A x) :
    (wsA aC ρ dm G A).set q0 (ρ o, cellE aC ρ G A' o) = wsA aC ρ dm G A' := by
  have hl : q0 < (wsA aC ρ dm G A).length := by
    have := (List.getElem?_eq_some_iff.mp hq).1
    simpa [wsA] using this
  have hws : ∀ (j x : Nat), (dmL dm)[j]? = some x → (wsA aC ρ dm G A)[j]? = some (ρ x, cellE aC ρ G A x) := fun j x h => by simp only [wsA, List.getElem?_map, h, Option.map_some]
  apply List.ext_getElem?
  intro j
  by_cases hj : j = q0
  · subst hj
    rw [List.getElem?_set_self hl]
    simp only [wsA, List.getElem?_map, hq, Option.map_some]
  · rw [List.getElem?_set_ne (Ne.symm hj)]
    cases hx : (dmL dm)[j]? with
    | none => simp only [wsA, List.getElem?_map, hx, Option.map_none]
    | some x =>
      have hxo : x ≠ o := by
        intro e
        subst e
        exact hj (hD.1 j q0 _ _ (hws j x hx) (hws q0 x hq) rfl)
      simp only [wsA, List.getElem?_map, hx, Option.map_some, hne x hxo]
theorem va_D.fr {aC : Nat → ClassId} {ρ : Nat → Nat} {dm : Nat × Nat} {G : Nat → Nat → Value} {A : AH} {B : Nat → Prop} (h : va_D B (wsA aC ρ dm G A)) : va_D (fr ρ dm) (wsA aC ρ dm G A) := by
  refine ⟨h.1, fun k q hk => ?_⟩
  have := List.mem_of_getElem? hk
  obtain ⟨x, hx, rfl⟩ := List.mem_map.mp this
  exact ⟨x, hx, rfl⟩
/-- the world holds -/
def WD (D : va_G) (aC : Nat → ClassId) (ρ : Nat → Nat) (dm : Nat × Nat) (G : Nat → Nat → Value) (A : AH) (U : State) (H : Heap) : Prop :=
  va_P D classes (wsA aC ρ dm G A) H ∧ va_D (fr ρ dm) (wsA aC ρ dm G A) ∧ va_K D classes (tysA aC) U
theorem WD.moved {D : va_G} {aC : Nat → ClassId} {ρ : Nat → Nat} {dm : Nat × Nat} {G : Nat → Nat → Value} {A : AH} {u U : State} {H : Heap} (hvm : u.vm.Alike U.vm) (h : WD D aC ρ dm G A u H) : WD D aC ρ dm G A U H := ⟨h.1, h.2.1, va_K.moved hvm h.2.2⟩
/-! constants of the machine that nobody writes -/
def nestW : Cond → Bool
  | .fieldLinkNest _ _ _ _ _ _ => true
  | .methodLinkNest _ _ _ _ => true
  | _ => false
def strTab : List (String × Nat × String × Nat) := [("PromiseWeb$Reader", 92, "web", 0), ("PromiseWeb$Reader", 98, "nail", 1), ("PromiseWeb$Reader", 100, "thread", 2), ("PromiseWeb$Reader", 102, "clash", 3), ("PromiseWeb$Reader", 104, "load", 4), ("PromiseWeb$Reader", 106, "offer", 5), ("PromiseWeb$Reader", 108, "unsure", 6), ("PromiseWeb$Reader", 110, "hair", 7), ("PromiseWeb$Reader", 112, "slips", 8), ("PromiseWeb$Reader", 121, "clerks", 9), ("PromiseWeb$Reader", 174, "kept", 10), ("PromiseWeb$Reader", 176, "fading", 11), ("PromiseWeb$Reader", 178, "proving", 12), ("PromiseWeb$Reader", 180, "lied", 13), ("PromiseWeb$Reader", 135, "strong", 14), ("PromiseWeb$Reader", 137, "step", 15), ("PromiseWeb$Reader", 142, "costs", 16), ("PromiseWeb$Reader", 182, "brown", 17), ("PromiseWeb$Reader", 184, "clear", 18), ("PromiseWebModel", 133, "web", 0), ("PromiseWebModel", 221, "slips", 8), ("PromiseWebModel", 226, "clerks", 9), ("PromiseWebModel", 135, "nail", 1), ("PromiseWebModel", 137, "thread", 2), ("PromiseWebModel", 139, "clash", 3), ("PromiseWebModel", 141, "load", 4), ("PromiseWebModel", 143, "offer", 5), ("PromiseWebModel", 145, "unsure", 6), ("PromiseWebModel", 147, "hair", 7), ("PromiseWebModel", 244, "kept", 10), ("PromiseWebModel", 245, "fading", 11), ("PromiseWebModel", 247, "proving", 12), ("PromiseWebModel", 249, "lied", 13), ("PromiseWebModel", 254, "strong", 14), ("PromiseWebModel", 256, "step", 15), ("PromiseWebModel", 301, "costs", 16), ("PromiseWebModel", 324, "brown", 17), ("PromiseWebModel", 326, "clear", 18)]
def strLen : List Nat := [3, 4, 6, 5, 4, 5, 6, 4, 5, 6, 4, 6, 7, 4, 6, 4, 5, 5, 5]
def strByt : List (List Int32) := [[119, 101, 98], [110, 97, 105, 108], [116, 104, 114, 101, 97, 100], [99, 108, 97, 115, 104], [108, 111, 97, 100], [111, 102, 102, 101, 114], [117, 110, 115, 117, 114, 101], [104, 97, 105, 114], [115, 108, 105, 112, 115], [99, 108, 101, 114, 107, 115], [107, 101, 112, 116], [102, 97, 100, 105, 110, 103], [112, 114, 111, 118, 105, 110, 103], [108, 105, 101, 100], [115, 116, 114, 111, 110, 103], [115, 116, 101, 112], [99, 111, 115, 116, 115], [98, 114, 111, 119, 110], [99, 108, 101, 97, 114]]
-- texts: 0 web 1 nail 2 thread 3 clash 4 load 5 offer 6 unsure 7 hair 8 slips 9 clerks 10 kept 11 fading 12 proving 13 lied 14 strong 15 step 16 costs 17 brown 18 clear
def roomF (j : Nat) : Value := .int (([1, 7, 7, 8, 4, 5, 5, 6] : List Int32).getD j 0)
def strS (adK adV : Nat → Nat) (B : Nat → Prop) (U : State) (H : Heap) : Prop := ∀ i : Nat, i < 19 → va_O "java/lang/String" (adK i) B U H ∧ va_OF "java/lang/String" "coder" "B" (.int 0) (adK i) B U H ∧ va_OF "java/lang/String" "value" "[B" (.ref (adV i)) (adK i) B U H ∧ va_T .byte (adV i) (strLen.getD i 0) (fun j => .int ((strByt.getD i []).getD j 0)) B U H
def EX (B : Nat → Prop) (ρ : Nat → Nat) (U : State) (H : Heap) : Prop :=
  (∀ w ∈ lw_tbl, nestW w = true → va_Nw w U) ∧ (∀ q ∈ strTab, vk_R q.1 q.2.1 q.2.2.1 (ρ (1000 + q.2.2.2)) U) ∧ strS (fun j => ρ (1000 + j)) (fun j => ρ (1100 + j)) B U H ∧
  va_Z "PromiseWeb" "ROOM" "[I" (.ref (ρ 1200)) B U H ∧ va_T .int (ρ 1200) 8 roomF B U H ∧ va_Z "java/lang/String" "COMPACT_STRINGS" "Z" (.int 1) B U H
theorem EX.kept {B : Nat → Prop} {ρ : Nat → Nat} {U : State} {H H1 : Heap} (h : EX B ρ U H) (hq : ∀ a : Nat, a < H.size → ¬ B a → H1[a]? = H[a]?) : EX B ρ U H1 :=
  ⟨h.1, h.2.1, fun i hi => ⟨(h.2.2.1 i hi).1.kept hq, (h.2.2.1 i hi).2.1.kept hq, (h.2.2.1 i hi).2.2.1.kept hq, (h.2.2.1 i hi).2.2.2.kept hq⟩, h.2.2.2.1.kept hq, h.2.2.2.2.1.kept hq, h.2.2.2.2.2.kept hq⟩
theorem EX.warm {B : Nat → Prop} {ρ : Nat → Nat} {s U : State} {H : Heap} (hW : s.WarmedH U.vm) (h : EX B ρ s H) : EX B ρ U H := by
  refine ⟨fun w hw hn => ?_, fun q hq => (h.2.1 q hq).warm hW, fun i hi => ⟨va_O.moved hW.alike (h.2.2.1 i hi).1, va_OF.moved hW.alike (h.2.2.1 i hi).2.1, va_OF.moved hW.alike (h.2.2.1 i hi).2.2.1, va_T.moved hW.alike (h.2.2.1 i hi).2.2.2⟩, va_Z.moved hW.alike h.2.2.2.1, va_T.moved hW.alike h.2.2.2.2.1, va_Z.moved hW.alike h.2.2.2.2.2⟩
  have h1 := h.1 w hw hn
  cases w <;> simp only [nestW, Bool.false_eq_true] at hn
  · exact va_Nw.warmM hW h1
  · exact va_Nw.warmF hW h1
theorem EX.same {B : Nat → Prop} {ρ : Nat → Nat} {s U : State} {H : Heap} (hv : s.vm = U.vm) (h : EX B ρ s H) : EX B ρ U H := by
  have ha : s.vm.Alike U.vm := by rw [hv]; exact Vm.Alike.refl U.vm
  refine ⟨fun w hw hn => ?_, fun q hq => (h.2.1 q hq).same hv.symm, fun i hi => ⟨va_O.moved ha (h.2.2.1 i hi).1, va_OF.moved ha (h.2.2.1 i hi).2.1, va_OF.moved ha (h.2.2.1 i hi).2.2.1, va_T.moved ha (h.2.2.1 i hi).2.2.2⟩, va_Z.moved ha h.2.2.2.1, va_T.moved ha h.2.2.2.2.1, va_Z.moved ha h.2.2.2.2.2⟩
  have h1 := h.1 w hw hn
  cases w <;> simp only [nestW, Bool.false_eq_true] at hn
  all_goals exact va_Nw.same rfl hv h1
/-! the locals -/
def lvr (ρ : Nat → Nat) (ls : Array Slot) (nL : Nat) (L : List (Option Value)) : Prop := ls.size = nL ∧ lv_wf ls ∧ ∀ (k : Nat) (v : Value), L[k]? = some (some v) → ls[k]? = some (.val (cv ρ v))
def lvl (ρ : Nat → Nat) (L : List (Option Value)) : List (Nat × Value) := (List.range L.length).filterMap (fun k => match L[k]? with
  | some (some v) => some (k, cv ρ v)
  | _ => none)
theorem lvl_mem {ρ : Nat → Nat} {L : List (Option Value)} {k : Nat} {v : Value} (h : L[k]? = some (some v)) : (k, cv ρ v) ∈ lvl ρ L :=
  List.mem_filterMap.mpr ⟨k, List.mem_range.mpr (List.getElem?_eq_some_iff.mp h).1, by rw [h]⟩
theorem lvl_of {ρ : Nat → Nat} {L : List (Option Value)} {q : Nat × Value} (h : q ∈ lvl ρ L) : ∃ v, L[q.1]? = some (some v) ∧ q.2 = cv ρ v := by
  obtain ⟨k, -, hk⟩ := List.mem_filterMap.mp h
  split at hk
  · next v hv => cases hk; exact ⟨v, hv, rfl⟩
  · cases hk
theorem lvr.has {ρ : Nat → Nat} {ls : Array Slot} {nL : Nat} {L : List (Option Value)} (h : lvr ρ ls nL L) : lv_has ls nL (lvl ρ L) := by
  refine ⟨h.1, h.2.1, fun q hq => ?_⟩
  obtain ⟨v, h1, h2⟩ := lvl_of hq
  rw [h2]
  exact h.2.2 _ _ h1
/-- what stands ahead of place i isn't of two slots -/
def nlg (L : List (Option Value)) : Nat → Bool
  | 0 => true
  | i + 1 => match L[i]? with
    | some (some (.long _)) => false
    | some (some (.double _)) => false
    | _ => true
theorem nlg_cat {ρ : Nat → Nat} {L : List (Option Value)} {k : Nat} {v : Value} (h : nlg L (k + 1) = true) (hk : L[k]? = some (some v)) : ¬ (cv ρ v).category = 2 := by
  cases v <;> simp_all [nlg, cv, Value.category]
theorem lvr_set1 {ρ : Nat → Nat} {ls : Array Slot} {nL i : Nat} {L : List (Option Value)} {v : Value} (h : lv_has ls nL ((i, cv ρ v) :: (lvl ρ L).filter (fun q => !(q.1 == i) && !(q.1 + 1 == i && q.2.category == 2)))) (hn : nlg L i = true) : lvr ρ ls nL (L.set i (some v)) := by
  refine ⟨h.1, h.2.1, fun k w hk => ?_⟩
  by_cases e : k = i
  · subst e
    have hl : k < L.length := by
      have := (List.getElem?_eq_some_iff.mp hk).1
      simpa using this
    rw [List.getElem?_set_self hl] at hk
    cases hk
    exact h.2.2 _ List.mem_cons_self
  · rw [List.getElem?_set_ne (Ne.symm e)] at hk
    refine h.2.2 (k, cv ρ w) (List.mem_cons_of_mem _ (List.mem_filter.mpr ⟨lvl_mem hk, ?_⟩))
    have : ¬ (k + 1 = i ∧ (cv ρ w).category = 2) := by
      rintro ⟨e1, e2⟩
      subst e1
      exact nlg_cat hn hk e2
    simp only [Bool.and_eq_true, Bool.not_eq_true', beq_eq_false_iff_ne, ne_eq, Bool.and_eq_false_iff]
    refine ⟨e, ?_⟩
    by_cases e1 : k + 1 = i
    · exact Or.inr (fun e2 => this ⟨e1, e2⟩)
    · exact Or.inl e1
theorem lvr_set2 {ρ : Nat → Nat} {ls : Array Slot} {nL i : Nat} {L : List (Option Value)} {v : Value} (h : lv_has ls nL ((i, cv ρ v) :: (lvl ρ L).filter (fun q => !(q.1 == i) && (!(q.1 == i + 1) && !(q.1 + 1 == i && q.2.category == 2))))) (hn : nlg L i = true) : lvr ρ ls nL ((L.set i (some v)).set (i + 1) none) := by
  refine ⟨h.1, h.2.1, fun k w hk => ?_⟩
  by_cases e0 : k = i + 1
  · subst e0
    have hl : i + 1 < (L.set i (some v)).length := by
      have := (List.getElem?_eq_some_iff.mp hk).1
      simpa using this
    rw [List.getElem?_set_self hl] at hk
    cases hk
  rw [List.getElem?_set_ne (Ne.symm e0)] at hk
  by_cases e : k = i
  · subst e
    have hl : k < L.length := by
      have := (List.getElem?_eq_some_iff.mp hk).1
      simpa using this
    rw [List.getElem?_set_self hl] at hk
    cases hk
    exact h.2.2 _ List.mem_cons_self
  · rw [List.getElem?_set_ne (Ne.symm e)] at hk
    refine h.2.2 (k, cv ρ w) (List.mem_cons_of_mem _ (List.mem_filter.mpr ⟨lvl_mem hk, ?_⟩))
    have : ¬ (k + 1 = i ∧ (cv ρ w).category = 2) := by
      rintro ⟨e1, e2⟩
      subst e1
      exact nlg_cat hn hk e2
    simp only [Bool.and_eq_true, Bool.not_eq_true', beq_eq_false_iff_ne, ne_eq, Bool.and_eq_false_iff]
    refine ⟨e, e0, ?_⟩
    by_cases e1 : k + 1 = i
    · exact Or.inr (fun e2 => this ⟨e1, e2⟩)
    · exact Or.inl e1
/-! the method, the judgement, the contract -/
def FX (p : Program) (s : State) (m : MethodId) (args : Array Value) (meth : Method) (c : Code) (M : MI) : Prop := CallFix p m c M.2.1 M.2.2.1 s args TW M.1 ∧ meth.sig.returnType = M.2.2.2 ∧ meth.locks = false
def QK (D : va_G) (aC : Nat → ClassId) (ρ : Nat → Nat) (dm : Nat × Nat) (G : Nat → Nat → Value) (K : Option Value → AH → Prop) : Array Value → State → Outcome → State → Prop := fun _ st oc t =>
  (∃ (v : Option Value) (A : AH), oc = .returned (v.map (cv ρ)) ∧ K v A ∧ WD D aC ρ dm G A t t.heap) ∧ va_F (fr ρ dm) st t
def WP (M : MI) (d : Nat) (dm : Nat × Nat) (G : Nat → Nat → Value) (pc : Nat) (L : List (Option Value)) (S : List Value) (A : AH) (K : Option Value → AH → Prop) : Prop :=
  ∀ (p : Program) (l : Launch) (e : Env) (R : Room) (s : State) (m : MethodId) (args : Array Value) (below : List Frame) (meth : Method) (c : Code) (D : va_G) (aC : Nat → ClassId) (ρ : Nat → Nat) (H : Heap) (locs : List Loc) (ls : Array Slot),
    FX p s m args meth c M → d ≤ R.frames → 38 * d ≤ R.locals → WD D aC ρ dm G A s H → va_S (fr ρ dm) s.heap H locs → EX (fr ρ dm) ρ s s.heap → lvr ρ ls M.2.2.1 L →
    W p l e R s m args below meth c H locs 0 0 (MQ below (QK D aC ρ dm G K) args s 0 0 (fr ρ dm)) (F0 m pc ls (S.map (cv ρ)))
def rmD (d : Nat) : Room := { frames := d, cells := 0, slots := 0, locals := 38 * d }
def Ct (y : MethodName) (M : MI) (d : Nat) (dm : Nat × Nat) (G : Nat → Nat → Value) (av : List Value) (A : AH) (K : Option Value → AH → Prop) : Prop :=
  ∀ (l : Launch) (D : va_G) (aC : Nat → ClassId) (ρ : Nat → Nat), Met l y (.code y M.2.1 M.2.2.1 M.2.2.2 :: TW) (rmD d) (va_Pc (av.map (cv ρ)) (fun U => WD D aC ρ dm G A U U.heap ∧ EX (fr ρ dm) ρ U U.heap)) (QK D aC ρ dm G K) 0 0 (fr ρ dm)
def ov : Option Value → List Value → List Value
  | some v, r => v :: r
  | none, r => r
def slL : List Value → List (Option Value)
  | [] => []
  | .long x :: vs => some (.long x) :: none :: slL vs
  | .double x :: vs => some (.double x) :: none :: slL vs
  | v :: vs => some v :: slL vs
theorem slL_args {ρ : Nat → Nat} : ∀ (av : List Value) (n k : Nat) (v : Value), (slL av)[k]? = some (some v) → (n + k, cv ρ v) ∈ lv_args n (av.map (cv ρ))
  | [], n, k, v, h => by simp [slL] at h
  | w :: vs, n, k, v, h => by
    have two : ∀ x : Value, slL (x :: vs) = some x :: none :: slL vs → (cv ρ x).category = 2 → (slL (x :: vs))[k]? = some (some v) → (n + k, cv ρ v) ∈ lv_args n ((x :: vs).map (cv ρ)) := by
      intro x hs hc hk
      rw [hs] at hk
      simp only [List.map_cons, lv_args, hc, if_pos]
      rcases k with _ | _ | k
      · simp only [List.getElem?_cons_zero, Option.some.injEq] at hk
        subst hk
        exact List.mem_cons_self
      · simp at hk
      · simp only [List.getElem?_cons_succ] at hk
        have := slL_args (ρ := ρ) vs (n + 2) k v hk
        rw [show n + 2 + k = n + (k + 1 + 1) by omega] at this
        exact List.mem_cons_of_mem _ this
    have one : ∀ x : Value, slL (x :: vs) = some x :: slL vs → ¬ (cv ρ x).category = 2 → (slL (x :: vs))[k]? = some (some v) → (n + k, cv ρ v) ∈ lv_args n ((x :: vs).map (cv ρ)) := by
      intro x hs hc hk
      rw [hs] at hk
      simp only [List.map_cons, lv_args, if_neg hc]
      rcases k with _ | k
      · simp only [List.getElem?_cons_zero, Option.some.injEq] at hk
        subst hk
        exact List.mem_cons_self
      · simp only [List.getElem?_cons_succ] at hk
        have := slL_args (ρ := ρ) vs (n + 1) k v hk
        rw [show n + 1 + k = n + (k + 1) by omega] at this
        exact List.mem_cons_of_mem _ this
    cases w with
    | long x => exact two _ rfl rfl h
    | double x => exact two _ rfl rfl h
    | int x => exact one _ rfl (by simp [cv, Value.category]) h
    | float x => exact one _ rfl (by simp [cv, Value.category]) h
    | null => exact one _ rfl (by simp [cv, Value.category]) h
    | ref x => exact one _ rfl (by simp [cv, Value.category]) h
    | retAddr x => exact one _ rfl (by simp [cv, Value.category]) h
theorem slL_len {ρ : Nat → Nat} : ∀ (av : List Value), (lg_sl (av.map (cv ρ))).length = (slL av).length
  | [] => rfl
  | w :: vs => by
    have ih := slL_len (ρ := ρ) vs
    have e : lg_sl (cv ρ w :: vs.map (cv ρ)) = (if (cv ρ w).category = 2 then [Slot.val (cv ρ w), Slot.second] else [Slot.val (cv ρ w)]) ++ lg_sl (vs.map (cv ρ)) := rfl
    rw [List.map_cons, e, List.length_append, ih]
    cases w <;> simp only [slL, cv, Value.category, List.length_cons, List.length_nil, if_pos, if_neg, reduceIte, Nat.reduceEqDiff] <;> omega
theorem lvr_entry {ρ : Nat → Nat} {av : List Value} {n : Nat} {L : List (Option Value)} (hL : slL av ++ List.replicate (n - (slL av).length) none = L) (hn : (slL av).length ≤ n) : lvr ρ ((lg_sl (av.map (cv ρ)) ++ List.replicate (n - (lg_sl (av.map (cv ρ))).length) Slot.unset).toArray) n L := by
  have h := lv_entry (av.map (cv ρ)) (n := n) (by rw [slL_len]; exact hn)
  refine ⟨h.1, h.2.1, fun k v hk => ?_⟩
  rw [← hL] at hk
  by_cases hl : k < (slL av).length
  · rw [List.getElem?_append_left hl] at hk
    have := slL_args (ρ := ρ) av 0 k v hk
    rw [Nat.zero_add] at this
    exact h.2.2 _ this
  · rw [List.getElem?_append_right (by omega)] at hk
    have := List.eq_of_mem_replicate (List.mem_of_getElem? hk)
    cases this
theorem fb_QK {D : va_G} {aC : Nat → ClassId} {ρ : Nat → Nat} {dm : Nat × Nat} {G : Nat → Nat → Value} {A : AH} {av : List Value} : FrameBlind (va_Pc av (fun U => WD D aC ρ dm G A U U.heap ∧ EX (fr ρ dm) ρ U U.heap)) := by
  intro a U g mk q
  obtain ⟨q0, q1, q2⟩ := q
  exact ⟨q0, WD.moved (u := U) (U := U.calling g mk a) (Vm.Alike.refl U.vm) q1, EX.same (s := U) (U := U.calling g mk a) rfl q2⟩
/-- a method's contract, by its walk -/
theorem Ct.of {y : MethodName} {M : MI} {d : Nat} {dm : Nat × Nat} {G : Nat → Nat → Value} {av : List Value} {A : AH} {K : Option Value → AH → Prop} (L : List (Option Value)) (hy : plainName y.cls = true) (ho : M.1 = y.cls) (hL : slL av ++ List.replicate (M.2.2.1 - (slL av).length) none = L) (hn : (slL av).length ≤ M.2.2.1) (h : WP M d dm G 0 L [] A K) : Ct y M d dm G av A K := by
  intro l D aC ρ
  refine Met.ofW (cc := M.2.1) (maxL := M.2.2.1) (ret := M.2.2.2) hy rfl ?_
  intro p e s m args below meth c s₁ B hml hv
  obtain ⟨rfl, hWD, hE⟩ := hv
  rw [lg_entry_eq]
  have hts := atoms_spec (ws := .code y M.2.1 M.2.2.1 M.2.2.2 :: TW) B.pre
  exact h p l e _ s m _ below meth c D aC ρ s.heap [] _ ⟨⟨B.exec, B.bytes, hml, by rw [ho]; exact findClass_of_methodNamed B.named, fun w hw => hts w (List.mem_cons_of_mem _ hw)⟩, B.returns, B.notSynchronized⟩ (Nat.le_refl _) (Nat.le_refl _) hWD va_S.rf hE (lvr_entry hL hn)
/-- behind a call -/
theorem run_k {p : Program} {l : Launch} {e : Env} {R : Room} {s : State} {m : MethodId} {args : Array Value} {below : List Frame} {meth : Method} {c : Code} {H H0 : Heap} {locs : List Loc} {Q : State → Prop} {D : va_G} {aC : Nat → ClassId} {ρ : Nat → Nat} {dm : Nat × Nat} {G : Nat → Nat → Value} {K' : Option Value → AH → Prop} {pc : Nat} {ls : Array Slot} {st0 rest : List Value} {a : Array Value}
    (hr : va_Run p l e R s m args below meth c H locs 0 0 0 0 (F0 m pc ls st0) (rest.map (cv ρ)) (QK D aC ρ dm G K' a) (fr ρ dm)) (hS : va_S (fr ρ dm) H0 H locs)
    (kk : ∀ (v : Option Value) (A : AH) (H1 : Heap) (locs1 : List Loc), K' v A → WD D aC ρ dm G A s H1 → va_S (fr ρ dm) H0 H1 locs1 → W p l e R s m args below meth c H1 locs1 0 0 Q (F0 m (pc + 3) ls ((ov v rest).map (cv ρ)))) : W p l e R s m args below meth c H locs 0 0 Q (F0 m pc ls st0) := by
  intro T hT X
  obtain ⟨v0, st₀, t, T', L, h0, X', hL, e1, e2, ⟨⟨v, A, hv, hk, hwd⟩, hz, hko⟩, st⟩ := hr T hT X
  have hv' : v0 = v.map (cv ρ) := by cases hv; rfl
  subst hv'
  rw [h0] at hz hko
  have hwd' : WD D aC ρ dm G A s T'.heap := by
    rw [e1]
    exact WD.moved (by rw [← e2]; exact X'.warmed.alike.symm) hwd
  obtain ⟨t2, a1, b1⟩ := kk v A T'.heap (locs ++ L) hk hwd'
    ⟨Nat.le_trans hS.1 (by rw [e1]; exact hz), fun q h1 h2 => by rw [e1, hko q (Nat.lt_of_lt_of_le h1 hS.1) h2]; exact hS.2.1 q h1 h2, fun q hq => by
      rcases List.mem_append.mp hq with h | h
      · exact hS.2.2 q h
      · exact hL q h⟩ T' rfl X'
  refine ⟨t2, st t2 ?_, b1⟩
  cases v <;> exact a1
end
section
theorem w_iconst {M : MI} {d : Nat} {dm : Nat × Nat} {G : Nat → Nat → Value} {pc : Nat} {L : List (Option Value)} {S : List Value} {A : AH} {K : Option Value → AH → Prop} {n : Int} (q : Nat) (hd : decode M.2.1 pc = .ok (.iconst n, 1)) (hq : pc + 1 = q) {v : Int32} (hv0 : Int32.ofInt n = v) (k : WP M d dm G q L (.int v :: S) A K) : WP M d dm G pc L S A K := by
  subst hq
  intro p l e R s m args below meth c D aC ρ H locs ls X hf hl hW hS hE hv
  exact lv_iconst X.1.1 X.1.2.1 hd hv0 (k p l e R s m args below meth c D aC ρ H locs ls X hf hl hW hS hE hv)
theorem w_bipush {M : MI} {d : Nat} {dm : Nat × Nat} {G : Nat → Nat → Value} {pc : Nat} {L : List (Option Value)} {S : List Value} {A : AH} {K : Option Value → AH → Prop} {n : Int} (q : Nat) (hd : decode M.2.1 pc = .ok (.bipush n, 2)) (hq : pc + 2 = q) {v : Int32} (hv0 : (Int8.ofInt n).toInt32 = v) (k : WP M d dm G q L (.int v :: S) A K) : WP M d dm G pc L S A K := by
  subst hq
  intro p l e R s m args below meth c D aC ρ H locs ls X hf hl hW hS hE hv
  exact lv_bipush X.1.1 X.1.2.1 hd hv0 (k p l e R s m args below meth c D aC ρ H locs ls X hf hl hW hS hE hv)
theorem w_sipush {M : MI} {d : Nat} {dm : Nat × Nat} {G : Nat → Nat → Value} {pc : Nat} {L : List (Option Value)} {S : List Value} {A : AH} {K : Option Value → AH → Prop} {n : Int} (q : Nat) (hd : decode M.2.1 pc = .ok (.sipush n, 3)) (hq : pc + 3 = q) {v : Int32} (hv0 : (Int16.ofInt n).toInt32 = v) (k : WP M d dm G q L (.int v :: S) A K) : WP M d dm G pc L S A K := by
  subst hq
  intro p l e R s m args below meth c D aC ρ H locs ls X hf hl hW hS hE hv
  exact lv_sipush X.1.1 X.1.2.1 hd hv0 (k p l e R s m args below meth c D aC ρ H locs ls X hf hl hW hS hE hv)
theorem w_lconst {M : MI} {d : Nat} {dm : Nat × Nat} {G : Nat → Nat → Value} {pc : Nat} {L : List (Option Value)} {S : List Value} {A : AH} {K : Option Value → AH → Prop} {n : Fin 2} (q : Nat) (hd : decode M.2.1 pc = .ok (.lconst n, 1)) (hq : pc + 1 = q) {v : Int64} (hv0 : Int64.ofNat (n : Nat) = v) (k : WP M d dm G q L (.long v :: S) A K) : WP M d dm G pc L S A K := by
  subst hq
  intro p l e R s m args below meth c D aC ρ H locs ls X hf hl hW hS hE hv
  exact lv_lconst X.1.1 X.1.2.1 hd hv0 (k p l e R s m args below meth c D aC ρ H locs ls X hf hl hW hS hE hv)
theorem w_ldc {M : MI} {d : Nat} {dm : Nat × Nat} {G : Nat → Nat → Value} {pc : Nat} {L : List (Option Value)} {S : List Value} {A : AH} {K : Option Value → AH → Prop} {i : Nat} (q : Nat) (hd : decode M.2.1 pc = .ok (.ldc i, 2)) (hq : pc + 2 = q) {v : Int32} (hc : Cond.constant M.1 i v ∈ TW) (k : WP M d dm G q L (.int v :: S) A K) : WP M d dm G pc L S A K := by
  subst hq
  intro p l e R s m args below meth c D aC ρ H locs ls X hf hl hW hS hE hv
  exact lv_ldc X.1.1 X.1.2.1 X.1.2.2.2.1 (X.1.2.2.2.2 _ hc) hd (k p l e R s m args below meth c D aC ρ H locs ls X hf hl hW hS hE hv)
theorem w_ldcw {M : MI} {d : Nat} {dm : Nat × Nat} {G : Nat → Nat → Value} {pc : Nat} {L : List (Option Value)} {S : List Value} {A : AH} {K : Option Value → AH → Prop} {i : Nat} (q : Nat) (hd : decode M.2.1 pc = .ok (.ldc_w i, 3)) (hq : pc + 3 = q) {v : Int32} (hc : Cond.constant M.1 i v ∈ TW) (k : WP M d dm G q L (.int v :: S) A K) : WP M d dm G pc L S A K := by
  subst hq
  intro p l e R s m args below meth c D aC ρ H locs ls X hf hl hW hS hE hv
  exact lv_ldcw X.1.1 X.1.2.1 X.1.2.2.2.1 (X.1.2.2.2.2 _ hc) hd (k p l e R s m args below meth c D aC ρ H locs ls X hf hl hW hS hE hv)
theorem w_ldc2 {M : MI} {d : Nat} {dm : Nat × Nat} {G : Nat → Nat → Value} {pc : Nat} {L : List (Option Value)} {S : List Value} {A : AH} {K : Option Value → AH → Prop} {i : Nat} (q : Nat) (hd : decode M.2.1 pc = .ok (.ldc2_w i, 3)) (hq : pc + 3 = q) {v : Int64} (hc : Cond.constantLong M.1 i v ∈ TW) (k : WP M d dm G q L (.long v :: S) A K) : WP M d dm G pc L S A K := by
  subst hq
  intro p l e R s m args below meth c D aC ρ H locs ls X hf hl hW hS hE hv
  exact lv_ldc2 X.1.1 X.1.2.1 X.1.2.2.2.1 (X.1.2.2.2.2 _ hc) hd (k p l e R s m args below meth c D aC ρ H locs ls X hf hl hW hS hE hv)
theorem w_iload_n {M : MI} {d : Nat} {dm : Nat × Nat} {G : Nat → Nat → Value} {pc : Nat} {L : List (Option Value)} {S : List Value} {A : AH} {K : Option Value → AH → Prop} {n : Fin 4} {x : Int32} (q : Nat) (hd : decode M.2.1 pc = .ok (.iload_n n, 1)) (hq : pc + 1 = q) (hx : L[(n : Nat)]? = some (some (.int x))) (k : WP M d dm G q L (.int x :: S) A K) : WP M d dm G pc L S A K := by
  subst hq
  intro p l e R s m args below meth c D aC ρ H locs ls X hf hl hW hS hE hv
  exact lv_iload_n X.1.1 X.1.2.1 hd rfl (hv.2.2 _ _ hx) (k p l e R s m args below meth c D aC ρ H locs ls X hf hl hW hS hE hv)
theorem w_iload {M : MI} {d : Nat} {dm : Nat × Nat} {G : Nat → Nat → Value} {pc : Nat} {L : List (Option Value)} {S : List Value} {A : AH} {K : Option Value → AH → Prop} {n : Nat} {x : Int32} (q : Nat) (hd : decode M.2.1 pc = .ok (.iload n, 2)) (hq : pc + 2 = q) (hx : L[n]? = some (some (.int x))) (k : WP M d dm G q L (.int x :: S) A K) : WP M d dm G pc L S A K := by
  subst hq
  intro p l e R s m args below meth c D aC ρ H locs ls X hf hl hW hS hE hv
  exact lv_iload X.1.1 X.1.2.1 hd (hv.2.2 _ _ hx) (k p l e R s m args below meth c D aC ρ H locs ls X hf hl hW hS hE hv)
theorem w_lload_n {M : MI} {d : Nat} {dm : Nat × Nat} {G : Nat → Nat → Value} {pc : Nat} {L : List (Option Value)} {S : List Value} {A : AH} {K : Option Value → AH → Prop} {n : Fin 4} {x : Int64} (q : Nat) (hd : decode M.2.1 pc = .ok (.lload_n n, 1)) (hq : pc + 1 = q) (hx : L[(n : Nat)]? = some (some (.long x))) (k : WP M d dm G q L (.long x :: S) A K) : WP M d dm G pc L S A K := by
  subst hq
  intro p l e R s m args below meth c D aC ρ H locs ls X hf hl hW hS hE hv
  exact lv_lload_n X.1.1 X.1.2.1 hd rfl (hv.2.2 _ _ hx) (k p l e R s m args below meth c D aC ρ H locs ls X hf hl hW hS hE hv)
theorem w_lload {M : MI} {d : Nat} {dm : Nat × Nat} {G : Nat → Nat → Value} {pc : Nat} {L : List (Option Value)} {S : List Value} {A : AH} {K : Option Value → AH → Prop} {n : Nat} {x : Int64} (q : Nat) (hd : decode M.2.1 pc = .ok (.lload n, 2)) (hq : pc + 2 = q) (hx : L[n]? = some (some (.long x))) (k : WP M d dm G q L (.long x :: S) A K) : WP M d dm G pc L S A K := by
  subst hq
  intro p l e R s m args below meth c D aC ρ H locs ls X hf hl hW hS hE hv
  exact lv_lload X.1.1 X.1.2.1 hd (hv.2.2 _ _ hx) (k p l e R s m args below meth c D aC ρ H locs ls X hf hl hW hS hE hv)
theorem w_aload_n {M : MI} {d : Nat} {dm : Nat × Nat} {G : Nat → Nat → Value} {pc : Nat} {L : List (Option Value)} {S : List Value} {A : AH} {K : Option Value → AH → Prop} {n : Fin 4} {x : Nat} (q : Nat) (hd : decode M.2.1 pc = .ok (.aload_n n, 1)) (hq : pc + 1 = q) (hx : L[(n : Nat)]? = some (some (.ref x))) (k : WP M d dm G q L (.ref x :: S) A K) : WP M d dm G pc L S A K := by
  subst hq
  intro p l e R s m args below meth c D aC ρ H locs ls X hf hl hW hS hE hv
  exact lv_aload_n X.1.1 X.1.2.1 hd rfl (hv.2.2 _ _ hx) (k p l e R s m args below meth c D aC ρ H locs ls X hf hl hW hS hE hv)
theorem w_aload {M : MI} {d : Nat} {dm : Nat × Nat} {G : Nat → Nat → Value} {pc : Nat} {L : List (Option Value)} {S : List Value} {A : AH} {K : Option Value → AH → Prop} {n : Nat} {x : Nat} (q : Nat) (hd : decode M.2.1 pc = .ok (.aload n, 2)) (hq : pc + 2 = q) (hx : L[n]? = some (some (.ref x))) (k : WP M d dm G q L (.ref x :: S) A K) : WP M d dm G pc L S A K := by
  subst hq
  intro p l e R s m args below meth c D aC ρ H locs ls X hf hl hW hS hE hv
  exact lv_aload X.1.1 X.1.2.1 hd (hv.2.2 _ _ hx) (k p l e R s m args below meth c D aC ρ H locs ls X hf hl hW hS hE hv)
theorem w_istore_n {M : MI} {d : Nat} {dm : Nat × Nat} {G : Nat → Nat → Value} {pc : Nat} {L : List (Option Value)} {S : List Value} {A : AH} {K : Option Value → AH → Prop} {n : Fin 4} {x : Int32} (q : Nat) (hd : decode M.2.1 pc = .ok (.istore_n n, 1)) (hq : pc + 1 = q) (hn : (n : Nat) < M.2.2.1) (hg : nlg L (n : Nat) = true) (k : WP M d dm G q (L.set (n : Nat) (some (.int x))) S A K) : WP M d dm G pc L (.int x :: S) A K := by
  subst hq
  intro p l e R s m args below meth c D aC ρ H locs ls X hf hl hW hS hE hv
  exact lv_istore_n X.1.1 X.1.2.1 hd rfl hv.has hn rfl (fun ls2 h2 => (k p l e R s m args below meth c D aC ρ H locs ls2 X hf hl hW hS hE (lvr_set1 (v := .int x) h2 hg)))
theorem w_istore {M : MI} {d : Nat} {dm : Nat × Nat} {G : Nat → Nat → Value} {pc : Nat} {L : List (Option Value)} {S : List Value} {A : AH} {K : Option Value → AH → Prop} {n : Nat} {x : Int32} (q : Nat) (hd : decode M.2.1 pc = .ok (.istore n, 2)) (hq : pc + 2 = q) (hn : n < M.2.2.1) (hg : nlg L n = true) (k : WP M d dm G q (L.set n (some (.int x))) S A K) : WP M d dm G pc L (.int x :: S) A K := by
  subst hq
  intro p l e R s m args below meth c D aC ρ H locs ls X hf hl hW hS hE hv
  exact lv_istore X.1.1 X.1.2.1 hd hv.has hn rfl (fun ls2 h2 => (k p l e R s m args below meth c D aC ρ H locs ls2 X hf hl hW hS hE (lvr_set1 (v := .int x) h2 hg)))
theorem w_astore_n {M : MI} {d : Nat} {dm : Nat × Nat} {G : Nat → Nat → Value} {pc : Nat} {L : List (Option Value)} {S : List Value} {A : AH} {K : Option Value → AH → Prop} {n : Fin 4} {x : Nat} (q : Nat) (hd : decode M.2.1 pc = .ok (.astore_n n, 1)) (hq : pc + 1 = q) (hn : (n : Nat) < M.2.2.1) (hg : nlg L (n : Nat) = true) (k : WP M d dm G q (L.set (n : Nat) (some (.ref x))) S A K) : WP M d dm G pc L (.ref x :: S) A K := by
  subst hq
  intro p l e R s m args below meth c D aC ρ H locs ls X hf hl hW hS hE hv
  exact lv_astore_n X.1.1 X.1.2.1 hd rfl hv.has hn rfl (fun ls2 h2 => (k p l e R s m args below meth c D aC ρ H locs ls2 X hf hl hW hS hE (lvr_set1 (v := .ref x) h2 hg)))
theorem w_astore {M : MI} {d : Nat} {dm : Nat × Nat} {G : Nat → Nat → Value} {pc : Nat} {L : List (Option Value)} {S : List Value} {A : AH} {K : Option Value → AH → Prop} {n : Nat} {x : Nat} (q : Nat) (hd : decode M.2.1 pc = .ok (.astore n, 2)) (hq : pc + 2 = q) (hn : n < M.2.2.1) (hg : nlg L n = true) (k : WP M d dm G q (L.set n (some (.ref x))) S A K) : WP M d dm G pc L (.ref x :: S) A K := by
  subst hq
  intro p l e R s m args below meth c D aC ρ H locs ls X hf hl hW hS hE hv
  exact lv_astore X.1.1 X.1.2.1 hd hv.has hn rfl (fun ls2 h2 => (k p l e R s m args below meth c D aC ρ H locs ls2 X hf hl hW hS hE (lvr_set1 (v := .ref x) h2 hg)))
theorem w_lstore_n {M : MI} {d : Nat} {dm : Nat × Nat} {G : Nat → Nat → Value} {pc : Nat} {L : List (Option Value)} {S : List Value} {A : AH} {K : Option Value → AH → Prop} {n : Fin 4} {x : Int64} (q : Nat) (hd : decode M.2.1 pc = .ok (.lstore_n n, 1)) (hq : pc + 1 = q) (hn : (n : Nat) + 1 < M.2.2.1) (hg : nlg L (n : Nat) = true) (k : WP M d dm G q ((L.set (n : Nat) (some (.long x))).set ((n : Nat) + 1) none) S A K) : WP M d dm G pc L (.long x :: S) A K := by
  subst hq
  intro p l e R s m args below meth c D aC ρ H locs ls X hf hl hW hS hE hv
  exact lv_lstore_n X.1.1 X.1.2.1 hd rfl hv.has hn rfl (fun ls2 h2 => (k p l e R s m args below meth c D aC ρ H locs ls2 X hf hl hW hS hE (lvr_set2 (v := .long x) h2 hg)))
theorem w_lstore {M : MI} {d : Nat} {dm : Nat × Nat} {G : Nat → Nat → Value} {pc : Nat} {L : List (Option Value)} {S : List Value} {A : AH} {K : Option Value → AH → Prop} {n : Nat} {x : Int64} (q : Nat) (hd : decode M.2.1 pc = .ok (.lstore n, 2)) (hq : pc + 2 = q) (hn : n + 1 < M.2.2.1) (hg : nlg L n = true) (k : WP M d dm G q ((L.set n (some (.long x))).set (n + 1) none) S A K) : WP M d dm G pc L (.long x :: S) A K := by
  subst hq
  intro p l e R s m args below meth c D aC ρ H locs ls X hf hl hW hS hE hv
  exact lv_lstore X.1.1 X.1.2.1 hd hv.has hn rfl (fun ls2 h2 => (k p l e R s m args below meth c D aC ρ H locs ls2 X hf hl hW hS hE (lvr_set2 (v := .long x) h2 hg)))
theorem w_iinc {M : MI} {d : Nat} {dm : Nat × Nat} {G : Nat → Nat → Value} {pc : Nat} {L : List (Option Value)} {S : List Value} {A : AH} {K : Option Value → AH → Prop} {n : Nat} {i : Int} {x v : Int32} (q : Nat) (hd : decode M.2.1 pc = .ok (.iinc n i, 3)) (hq : pc + 3 = q) (hx : L[n]? = some (some (.int x))) (hv0 : x + Int32.ofInt i = v) (hn : n < M.2.2.1) (hg : nlg L n = true) (k : WP M d dm G q (L.set n (some (.int v))) S A K) : WP M d dm G pc L S A K := by
  subst hq
  intro p l e R s m args below meth c D aC ρ H locs ls X hf hl hW hS hE hv
  obtain ⟨kx, hkx⟩ := List.getElem?_of_mem (lvl_mem (ρ := ρ) hx)
  exact lv_iinc (k := kx) X.1.1 X.1.2.1 hd hv.has hkx hv0 hn rfl (fun ls2 h2 => (k p l e R s m args below meth c D aC ρ H locs ls2 X hf hl hW hS hE (lvr_set1 (v := .int v) h2 hg)))
theorem w_iadd {M : MI} {d : Nat} {dm : Nat × Nat} {G : Nat → Nat → Value} {pc : Nat} {L : List (Option Value)} {S : List Value} {A : AH} {K : Option Value → AH → Prop} {x y : Int32} (q : Nat) (hd : decode M.2.1 pc = .ok (.iadd, 1)) (hq : pc + 1 = q)  (k : WP M d dm G q L (.int (x + y) :: S) A K) : WP M d dm G pc L (.int y :: .int x :: S) A K := by
  subst hq
  intro p l e R s m args below meth c D aC ρ H locs ls X hf hl hW hS hE hv
  exact lv_iadd X.1.1 X.1.2.1 hd (k p l e R s m args below meth c D aC ρ H locs ls X hf hl hW hS hE hv)
theorem w_isub {M : MI} {d : Nat} {dm : Nat × Nat} {G : Nat → Nat → Value} {pc : Nat} {L : List (Option Value)} {S : List Value} {A : AH} {K : Option Value → AH → Prop} {x y : Int32} (q : Nat) (hd : decode M.2.1 pc = .ok (.isub, 1)) (hq : pc + 1 = q)  (k : WP M d dm G q L (.int (x - y) :: S) A K) : WP M d dm G pc L (.int y :: .int x :: S) A K := by
  subst hq
  intro p l e R s m args below meth c D aC ρ H locs ls X hf hl hW hS hE hv
  exact lv_isub X.1.1 X.1.2.1 hd (k p l e R s m args below meth c D aC ρ H locs ls X hf hl hW hS hE hv)
theorem w_imul {M : MI} {d : Nat} {dm : Nat × Nat} {G : Nat → Nat → Value} {pc : Nat} {L : List (Option Value)} {S : List Value} {A : AH} {K : Option Value → AH → Prop} {x y : Int32} (q : Nat) (hd : decode M.2.1 pc = .ok (.imul, 1)) (hq : pc + 1 = q)  (k : WP M d dm G q L (.int (x * y) :: S) A K) : WP M d dm G pc L (.int y :: .int x :: S) A K := by
  subst hq
  intro p l e R s m args below meth c D aC ρ H locs ls X hf hl hW hS hE hv
  exact lv_imul X.1.1 X.1.2.1 hd (k p l e R s m args below meth c D aC ρ H locs ls X hf hl hW hS hE hv)
theorem w_iand {M : MI} {d : Nat} {dm : Nat × Nat} {G : Nat → Nat → Value} {pc : Nat} {L : List (Option Value)} {S : List Value} {A : AH} {K : Option Value → AH → Prop} {x y : Int32} (q : Nat) (hd : decode M.2.1 pc = .ok (.iand, 1)) (hq : pc + 1 = q)  (k : WP M d dm G q L (.int (x &&& y) :: S) A K) : WP M d dm G pc L (.int y :: .int x :: S) A K := by
  subst hq
  intro p l e R s m args below meth c D aC ρ H locs ls X hf hl hW hS hE hv
  exact lv_iand X.1.1 X.1.2.1 hd (k p l e R s m args below meth c D aC ρ H locs ls X hf hl hW hS hE hv)
theorem w_ior {M : MI} {d : Nat} {dm : Nat × Nat} {G : Nat → Nat → Value} {pc : Nat} {L : List (Option Value)} {S : List Value} {A : AH} {K : Option Value → AH → Prop} {x y : Int32} (q : Nat) (hd : decode M.2.1 pc = .ok (.ior, 1)) (hq : pc + 1 = q)  (k : WP M d dm G q L (.int (x ||| y) :: S) A K) : WP M d dm G pc L (.int y :: .int x :: S) A K := by
  subst hq
  intro p l e R s m args below meth c D aC ρ H locs ls X hf hl hW hS hE hv
  exact lv_ior X.1.1 X.1.2.1 hd (k p l e R s m args below meth c D aC ρ H locs ls X hf hl hW hS hE hv)
theorem w_ixor {M : MI} {d : Nat} {dm : Nat × Nat} {G : Nat → Nat → Value} {pc : Nat} {L : List (Option Value)} {S : List Value} {A : AH} {K : Option Value → AH → Prop} {x y : Int32} (q : Nat) (hd : decode M.2.1 pc = .ok (.ixor, 1)) (hq : pc + 1 = q)  (k : WP M d dm G q L (.int (x ^^^ y) :: S) A K) : WP M d dm G pc L (.int y :: .int x :: S) A K := by
  subst hq
  intro p l e R s m args below meth c D aC ρ H locs ls X hf hl hW hS hE hv
  exact lv_ixor X.1.1 X.1.2.1 hd (k p l e R s m args below meth c D aC ρ H locs ls X hf hl hW hS hE hv)
theorem w_ishl {M : MI} {d : Nat} {dm : Nat × Nat} {G : Nat → Nat → Value} {pc : Nat} {L : List (Option Value)} {S : List Value} {A : AH} {K : Option Value → AH → Prop} {x y : Int32} (q : Nat) (hd : decode M.2.1 pc = .ok (.ishl, 1)) (hq : pc + 1 = q)  (k : WP M d dm G q L (.int (x <<< (y &&& 31)) :: S) A K) : WP M d dm G pc L (.int y :: .int x :: S) A K := by
  subst hq
  intro p l e R s m args below meth c D aC ρ H locs ls X hf hl hW hS hE hv
  exact lv_ishl X.1.1 X.1.2.1 hd (k p l e R s m args below meth c D aC ρ H locs ls X hf hl hW hS hE hv)
theorem w_ishr {M : MI} {d : Nat} {dm : Nat × Nat} {G : Nat → Nat → Value} {pc : Nat} {L : List (Option Value)} {S : List Value} {A : AH} {K : Option Value → AH → Prop} {x y : Int32} (q : Nat) (hd : decode M.2.1 pc = .ok (.ishr, 1)) (hq : pc + 1 = q)  (k : WP M d dm G q L (.int (x >>> (y &&& 31)) :: S) A K) : WP M d dm G pc L (.int y :: .int x :: S) A K := by
  subst hq
  intro p l e R s m args below meth c D aC ρ H locs ls X hf hl hW hS hE hv
  exact lv_ishr X.1.1 X.1.2.1 hd (k p l e R s m args below meth c D aC ρ H locs ls X hf hl hW hS hE hv)
theorem w_idiv {M : MI} {d : Nat} {dm : Nat × Nat} {G : Nat → Nat → Value} {pc : Nat} {L : List (Option Value)} {S : List Value} {A : AH} {K : Option Value → AH → Prop} {x y : Int32} (q : Nat) (hd : decode M.2.1 pc = .ok (.idiv, 1)) (hq : pc + 1 = q) (hne : ¬ y = 0) (k : WP M d dm G q L (.int (x / y) :: S) A K) : WP M d dm G pc L (.int y :: .int x :: S) A K := by
  subst hq
  intro p l e R s m args below meth c D aC ρ H locs ls X hf hl hW hS hE hv
  exact lv_idiv X.1.1 X.1.2.1 hd hne (k p l e R s m args below meth c D aC ρ H locs ls X hf hl hW hS hE hv)
theorem w_irem {M : MI} {d : Nat} {dm : Nat × Nat} {G : Nat → Nat → Value} {pc : Nat} {L : List (Option Value)} {S : List Value} {A : AH} {K : Option Value → AH → Prop} {x y : Int32} (q : Nat) (hd : decode M.2.1 pc = .ok (.irem, 1)) (hq : pc + 1 = q) (hne : ¬ y = 0) (k : WP M d dm G q L (.int (x - x / y * y) :: S) A K) : WP M d dm G pc L (.int y :: .int x :: S) A K := by
  subst hq
  intro p l e R s m args below meth c D aC ρ H locs ls X hf hl hW hS hE hv
  exact lv_irem X.1.1 X.1.2.1 hd hne (k p l e R s m args below meth c D aC ρ H locs ls X hf hl hW hS hE hv)
theorem w_ladd {M : MI} {d : Nat} {dm : Nat × Nat} {G : Nat → Nat → Value} {pc : Nat} {L : List (Option Value)} {S : List Value} {A : AH} {K : Option Value → AH → Prop} {x y : Int64} (q : Nat) (hd : decode M.2.1 pc = .ok (.ladd, 1)) (hq : pc + 1 = q)  (k : WP M d dm G q L (.long (x + y) :: S) A K) : WP M d dm G pc L (.long y :: .long x :: S) A K := by
  subst hq
  intro p l e R s m args below meth c D aC ρ H locs ls X hf hl hW hS hE hv
  exact lv_ladd X.1.1 X.1.2.1 hd (k p l e R s m args below meth c D aC ρ H locs ls X hf hl hW hS hE hv)
theorem w_lmul {M : MI} {d : Nat} {dm : Nat × Nat} {G : Nat → Nat → Value} {pc : Nat} {L : List (Option Value)} {S : List Value} {A : AH} {K : Option Value → AH → Prop} {x y : Int64} (q : Nat) (hd : decode M.2.1 pc = .ok (.lmul, 1)) (hq : pc + 1 = q)  (k : WP M d dm G q L (.long (x * y) :: S) A K) : WP M d dm G pc L (.long y :: .long x :: S) A K := by
  subst hq
  intro p l e R s m args below meth c D aC ρ H locs ls X hf hl hW hS hE hv
  exact lv_lmul X.1.1 X.1.2.1 hd (k p l e R s m args below meth c D aC ρ H locs ls X hf hl hW hS hE hv)
theorem w_lor {M : MI} {d : Nat} {dm : Nat × Nat} {G : Nat → Nat → Value} {pc : Nat} {L : List (Option Value)} {S : List Value} {A : AH} {K : Option Value → AH → Prop} {x y : Int64} (q : Nat) (hd : decode M.2.1 pc = .ok (.lor, 1)) (hq : pc + 1 = q)  (k : WP M d dm G q L (.long (x ||| y) :: S) A K) : WP M d dm G pc L (.long y :: .long x :: S) A K := by
  subst hq
  intro p l e R s m args below meth c D aC ρ H locs ls X hf hl hW hS hE hv
  exact lv_lor X.1.1 X.1.2.1 hd (k p l e R s m args below meth c D aC ρ H locs ls X hf hl hW hS hE hv)
theorem w_ldiv {M : MI} {d : Nat} {dm : Nat × Nat} {G : Nat → Nat → Value} {pc : Nat} {L : List (Option Value)} {S : List Value} {A : AH} {K : Option Value → AH → Prop} {x y : Int64} (q : Nat) (hd : decode M.2.1 pc = .ok (.ldiv, 1)) (hq : pc + 1 = q) (hne : ¬ y = 0) (k : WP M d dm G q L (.long (x / y) :: S) A K) : WP M d dm G pc L (.long y :: .long x :: S) A K := by
  subst hq
  intro p l e R s m args below meth c D aC ρ H locs ls X hf hl hW hS hE hv
  exact lv_ldiv X.1.1 X.1.2.1 hd hne (k p l e R s m args below meth c D aC ρ H locs ls X hf hl hW hS hE hv)
theorem w_lrem {M : MI} {d : Nat} {dm : Nat × Nat} {G : Nat → Nat → Value} {pc : Nat} {L : List (Option Value)} {S : List Value} {A : AH} {K : Option Value → AH → Prop} {x y : Int64} (q : Nat) (hd : decode M.2.1 pc = .ok (.lrem, 1)) (hq : pc + 1 = q) (hne : ¬ y = 0) (k : WP M d dm G q L (.long (x - x / y * y) :: S) A K) : WP M d dm G pc L (.long y :: .long x :: S) A K := by
  subst hq
  intro p l e R s m args below meth c D aC ρ H locs ls X hf hl hW hS hE hv
  exact lv_lrem X.1.1 X.1.2.1 hd hne (k p l e R s m args below meth c D aC ρ H locs ls X hf hl hW hS hE hv)
theorem w_iushr {M : MI} {d : Nat} {dm : Nat × Nat} {G : Nat → Nat → Value} {pc : Nat} {L : List (Option Value)} {S : List Value} {A : AH} {K : Option Value → AH → Prop} {x y : Int32} (q : Nat) (hd : decode M.2.1 pc = .ok (.iushr, 1)) (hq : pc + 1 = q)  (k : WP M d dm G q L (.int ((x.toUInt32 >>> (y.toUInt32 &&& Int32.toUInt32 31)).toInt32) :: S) A K) : WP M d dm G pc L (.int y :: .int x :: S) A K := by
  subst hq
  intro p l e R s m args below meth c D aC ρ H locs ls X hf hl hW hS hE hv
  exact lv_iushr X.1.1 X.1.2.1 hd rfl (k p l e R s m args below meth c D aC ρ H locs ls X hf hl hW hS hE hv)
theorem w_lshl {M : MI} {d : Nat} {dm : Nat × Nat} {G : Nat → Nat → Value} {pc : Nat} {L : List (Option Value)} {S : List Value} {A : AH} {K : Option Value → AH → Prop} {x : Int64} {y : Int32} (q : Nat) (hd : decode M.2.1 pc = .ok (.lshl, 1)) (hq : pc + 1 = q)  (k : WP M d dm G q L (.long (x <<< (y.toInt64 &&& 63)) :: S) A K) : WP M d dm G pc L (.int y :: .long x :: S) A K := by
  subst hq
  intro p l e R s m args below meth c D aC ρ H locs ls X hf hl hW hS hE hv
  exact lv_lshl X.1.1 X.1.2.1 hd rfl (k p l e R s m args below meth c D aC ρ H locs ls X hf hl hW hS hE hv)
theorem w_lcmp {M : MI} {d : Nat} {dm : Nat × Nat} {G : Nat → Nat → Value} {pc : Nat} {L : List (Option Value)} {S : List Value} {A : AH} {K : Option Value → AH → Prop} {x y : Int64} (q : Nat) (hd : decode M.2.1 pc = .ok (.lcmp, 1)) (hq : pc + 1 = q)  (k : WP M d dm G q L (.int (lg_cmp x y) :: S) A K) : WP M d dm G pc L (.long y :: .long x :: S) A K := by
  subst hq
  intro p l e R s m args below meth c D aC ρ H locs ls X hf hl hW hS hE hv
  exact W.lcmp X.1.1 X.1.2.1 hd (k p l e R s m args below meth c D aC ρ H locs ls X hf hl hW hS hE hv)
theorem w_i2l {M : MI} {d : Nat} {dm : Nat × Nat} {G : Nat → Nat → Value} {pc : Nat} {L : List (Option Value)} {S : List Value} {A : AH} {K : Option Value → AH → Prop} {x : Int32} (q : Nat) (hd : decode M.2.1 pc = .ok (.i2l, 1)) (hq : pc + 1 = q)  (k : WP M d dm G q L (.long x.toInt64 :: S) A K) : WP M d dm G pc L (.int x :: S) A K := by
  subst hq
  intro p l e R s m args below meth c D aC ρ H locs ls X hf hl hW hS hE hv
  exact lv_i2l X.1.1 X.1.2.1 hd rfl (k p l e R s m args below meth c D aC ρ H locs ls X hf hl hW hS hE hv)
theorem w_l2i {M : MI} {d : Nat} {dm : Nat × Nat} {G : Nat → Nat → Value} {pc : Nat} {L : List (Option Value)} {S : List Value} {A : AH} {K : Option Value → AH → Prop} {x : Int64} (q : Nat) (hd : decode M.2.1 pc = .ok (.l2i, 1)) (hq : pc + 1 = q)  (k : WP M d dm G q L (.int x.toInt32 :: S) A K) : WP M d dm G pc L (.long x :: S) A K := by
  subst hq
  intro p l e R s m args below meth c D aC ρ H locs ls X hf hl hW hS hE hv
  exact lv_l2i X.1.1 X.1.2.1 hd rfl (k p l e R s m args below meth c D aC ρ H locs ls X hf hl hW hS hE hv)
theorem w_i2b {M : MI} {d : Nat} {dm : Nat × Nat} {G : Nat → Nat → Value} {pc : Nat} {L : List (Option Value)} {S : List Value} {A : AH} {K : Option Value → AH → Prop} {x : Int32} (q : Nat) (hd : decode M.2.1 pc = .ok (.i2b, 1)) (hq : pc + 1 = q)  (k : WP M d dm G q L (.int x.toInt8.toInt32 :: S) A K) : WP M d dm G pc L (.int x :: S) A K := by
  subst hq
  intro p l e R s m args below meth c D aC ρ H locs ls X hf hl hW hS hE hv
  exact lv_i2b X.1.1 X.1.2.1 hd rfl (k p l e R s m args below meth c D aC ρ H locs ls X hf hl hW hS hE hv)
theorem w_i2c {M : MI} {d : Nat} {dm : Nat × Nat} {G : Nat → Nat → Value} {pc : Nat} {L : List (Option Value)} {S : List Value} {A : AH} {K : Option Value → AH → Prop} {x : Int32} (q : Nat) (hd : decode M.2.1 pc = .ok (.i2c, 1)) (hq : pc + 1 = q)  (k : WP M d dm G q L (.int (x.toUInt32 % 65536).toInt32 :: S) A K) : WP M d dm G pc L (.int x :: S) A K := by
  subst hq
  intro p l e R s m args below meth c D aC ρ H locs ls X hf hl hW hS hE hv
  exact lv_i2c X.1.1 X.1.2.1 hd rfl (k p l e R s m args below meth c D aC ρ H locs ls X hf hl hW hS hE hv)
theorem w_dup_i {M : MI} {d : Nat} {dm : Nat × Nat} {G : Nat → Nat → Value} {pc : Nat} {L : List (Option Value)} {S : List Value} {A : AH} {K : Option Value → AH → Prop} {x : Int32} (q : Nat) (hd : decode M.2.1 pc = .ok (.dup, 1)) (hq : pc + 1 = q)  (k : WP M d dm G q L (.int x :: .int x :: S) A K) : WP M d dm G pc L (.int x :: S) A K := by
  subst hq
  intro p l e R s m args below meth c D aC ρ H locs ls X hf hl hW hS hE hv
  exact lv_dup X.1.1 X.1.2.1 hd rfl (k p l e R s m args below meth c D aC ρ H locs ls X hf hl hW hS hE hv)
theorem w_dup_r {M : MI} {d : Nat} {dm : Nat × Nat} {G : Nat → Nat → Value} {pc : Nat} {L : List (Option Value)} {S : List Value} {A : AH} {K : Option Value → AH → Prop} {x : Nat} (q : Nat) (hd : decode M.2.1 pc = .ok (.dup, 1)) (hq : pc + 1 = q)  (k : WP M d dm G q L (.ref x :: .ref x :: S) A K) : WP M d dm G pc L (.ref x :: S) A K := by
  subst hq
  intro p l e R s m args below meth c D aC ρ H locs ls X hf hl hW hS hE hv
  exact lv_dup X.1.1 X.1.2.1 hd rfl (k p l e R s m args below meth c D aC ρ H locs ls X hf hl hW hS hE hv)
theorem w_pop {M : MI} {d : Nat} {dm : Nat × Nat} {G : Nat → Nat → Value} {pc : Nat} {L : List (Option Value)} {S : List Value} {A : AH} {K : Option Value → AH → Prop} {x : Int32} (q : Nat) (hd : decode M.2.1 pc = .ok (.pop, 1)) (hq : pc + 1 = q)  (k : WP M d dm G q L S A K) : WP M d dm G pc L (.int x :: S) A K := by
  subst hq
  intro p l e R s m args below meth c D aC ρ H locs ls X hf hl hW hS hE hv
  exact lv_pop X.1.1 X.1.2.1 hd rfl (k p l e R s m args below meth c D aC ρ H locs ls X hf hl hW hS hE hv)
theorem w_dup2 {M : MI} {d : Nat} {dm : Nat × Nat} {G : Nat → Nat → Value} {pc : Nat} {L : List (Option Value)} {S : List Value} {A : AH} {K : Option Value → AH → Prop} {x : Int32} {y : Nat} (q : Nat) (hd : decode M.2.1 pc = .ok (.dup2, 1)) (hq : pc + 1 = q)  (k : WP M d dm G q L (.int x :: .ref y :: .int x :: .ref y :: S) A K) : WP M d dm G pc L (.int x :: .ref y :: S) A K := by
  subst hq
  intro p l e R s m args below meth c D aC ρ H locs ls X hf hl hW hS hE hv
  exact lv_dup2_11 X.1.1 X.1.2.1 hd rfl rfl (k p l e R s m args below meth c D aC ρ H locs ls X hf hl hW hS hE hv)
theorem w_dup2_l {M : MI} {d : Nat} {dm : Nat × Nat} {G : Nat → Nat → Value} {pc : Nat} {L : List (Option Value)} {S : List Value} {A : AH} {K : Option Value → AH → Prop} {x : Int64} (q : Nat) (hd : decode M.2.1 pc = .ok (.dup2, 1)) (hq : pc + 1 = q)  (k : WP M d dm G q L (.long x :: .long x :: S) A K) : WP M d dm G pc L (.long x :: S) A K := by
  subst hq
  intro p l e R s m args below meth c D aC ρ H locs ls X hf hl hW hS hE hv
  exact lv_dup2_2 X.1.1 X.1.2.1 hd rfl (k p l e R s m args below meth c D aC ρ H locs ls X hf hl hW hS hE hv)
theorem w_ifeq {M : MI} {d : Nat} {dm : Nat × Nat} {G : Nat → Nat → Value} {pc : Nat} {L : List (Option Value)} {S : List Value} {A : AH} {K : Option Value → AH → Prop} {x : Int32} {off : Int} (t q : Nat) (hd : decode M.2.1 pc = .ok (.ifCond .eq off, 3)) (ht : (pc : Int) + off = (t : Int)) (hq : pc + 3 = q) (kt : x = 0 → WP M d dm G t L S A K) (kf : ¬ x = 0 → WP M d dm G q L S A K) : WP M d dm G pc L (.int x :: S) A K := by
  subst hq
  intro p l e R s m args below meth c D aC ρ H locs ls X hf hl hW hS hE hv
  exact lv_if_eq X.1.1 X.1.2.1 hd ht (fun h => (kt h p l e R s m args below meth c D aC ρ H locs ls X hf hl hW hS hE hv)) (fun h => (kf h p l e R s m args below meth c D aC ρ H locs ls X hf hl hW hS hE hv))
theorem w_ifne {M : MI} {d : Nat} {dm : Nat × Nat} {G : Nat → Nat → Value} {pc : Nat} {L : List (Option Value)} {S : List Value} {A : AH} {K : Option Value → AH → Prop} {x : Int32} {off : Int} (t q : Nat) (hd : decode M.2.1 pc = .ok (.ifCond .ne off, 3)) (ht : (pc : Int) + off = (t : Int)) (hq : pc + 3 = q) (kt : ¬ x = 0 → WP M d dm G t L S A K) (kf : x = 0 → WP M d dm G q L S A K) : WP M d dm G pc L (.int x :: S) A K := by
  subst hq
  intro p l e R s m args below meth c D aC ρ H locs ls X hf hl hW hS hE hv
  exact lv_if_ne X.1.1 X.1.2.1 hd ht (fun h => (kt h p l e R s m args below meth c D aC ρ H locs ls X hf hl hW hS hE hv)) (fun h => (kf h p l e R s m args below meth c D aC ρ H locs ls X hf hl hW hS hE hv))
theorem w_iflt {M : MI} {d : Nat} {dm : Nat × Nat} {G : Nat → Nat → Value} {pc : Nat} {L : List (Option Value)} {S : List Value} {A : AH} {K : Option Value → AH → Prop} {x : Int32} {off : Int} (t q : Nat) (hd : decode M.2.1 pc = .ok (.ifCond .lt off, 3)) (ht : (pc : Int) + off = (t : Int)) (hq : pc + 3 = q) (kt : x < 0 → WP M d dm G t L S A K) (kf : ¬ x < 0 → WP M d dm G q L S A K) : WP M d dm G pc L (.int x :: S) A K := by
  subst hq
  intro p l e R s m args below meth c D aC ρ H locs ls X hf hl hW hS hE hv
  exact lv_if_lt X.1.1 X.1.2.1 hd ht (fun h => (kt h p l e R s m args below meth c D aC ρ H locs ls X hf hl hW hS hE hv)) (fun h => (kf h p l e R s m args below meth c D aC ρ H locs ls X hf hl hW hS hE hv))
theorem w_ifge {M : MI} {d : Nat} {dm : Nat × Nat} {G : Nat → Nat → Value} {pc : Nat} {L : List (Option Value)} {S : List Value} {A : AH} {K : Option Value → AH → Prop} {x : Int32} {off : Int} (t q : Nat) (hd : decode M.2.1 pc = .ok (.ifCond .ge off, 3)) (ht : (pc : Int) + off = (t : Int)) (hq : pc + 3 = q) (kt : 0 ≤ x → WP M d dm G t L S A K) (kf : ¬ 0 ≤ x → WP M d dm G q L S A K) : WP M d dm G pc L (.int x :: S) A K := by
  subst hq
  intro p l e R s m args below meth c D aC ρ H locs ls X hf hl hW hS hE hv
  exact lv_if_ge X.1.1 X.1.2.1 hd ht (fun h => (kt h p l e R s m args below meth c D aC ρ H locs ls X hf hl hW hS hE hv)) (fun h => (kf h p l e R s m args below meth c D aC ρ H locs ls X hf hl hW hS hE hv))
theorem w_ifgt {M : MI} {d : Nat} {dm : Nat × Nat} {G : Nat → Nat → Value} {pc : Nat} {L : List (Option Value)} {S : List Value} {A : AH} {K : Option Value → AH → Prop} {x : Int32} {off : Int} (t q : Nat) (hd : decode M.2.1 pc = .ok (.ifCond .gt off, 3)) (ht : (pc : Int) + off = (t : Int)) (hq : pc + 3 = q) (kt : 0 < x → WP M d dm G t L S A K) (kf : ¬ 0 < x → WP M d dm G q L S A K) : WP M d dm G pc L (.int x :: S) A K := by
  subst hq
  intro p l e R s m args below meth c D aC ρ H locs ls X hf hl hW hS hE hv
  exact lv_if_gt X.1.1 X.1.2.1 hd ht (fun h => (kt h p l e R s m args below meth c D aC ρ H locs ls X hf hl hW hS hE hv)) (fun h => (kf h p l e R s m args below meth c D aC ρ H locs ls X hf hl hW hS hE hv))
theorem w_ifle {M : MI} {d : Nat} {dm : Nat × Nat} {G : Nat → Nat → Value} {pc : Nat} {L : List (Option Value)} {S : List Value} {A : AH} {K : Option Value → AH → Prop} {x : Int32} {off : Int} (t q : Nat) (hd : decode M.2.1 pc = .ok (.ifCond .le off, 3)) (ht : (pc : Int) + off = (t : Int)) (hq : pc + 3 = q) (kt : x ≤ 0 → WP M d dm G t L S A K) (kf : ¬ x ≤ 0 → WP M d dm G q L S A K) : WP M d dm G pc L (.int x :: S) A K := by
  subst hq
  intro p l e R s m args below meth c D aC ρ H locs ls X hf hl hW hS hE hv
  exact lv_if_le X.1.1 X.1.2.1 hd ht (fun h => (kt h p l e R s m args below meth c D aC ρ H locs ls X hf hl hW hS hE hv)) (fun h => (kf h p l e R s m args below meth c D aC ρ H locs ls X hf hl hW hS hE hv))
theorem w_iceq {M : MI} {d : Nat} {dm : Nat × Nat} {G : Nat → Nat → Value} {pc : Nat} {L : List (Option Value)} {S : List Value} {A : AH} {K : Option Value → AH → Prop} {x y : Int32} {off : Int} (t q : Nat) (hd : decode M.2.1 pc = .ok (.if_icmp .eq off, 3)) (ht : (pc : Int) + off = (t : Int)) (hq : pc + 3 = q) (kt : x = y → WP M d dm G t L S A K) (kf : ¬ x = y → WP M d dm G q L S A K) : WP M d dm G pc L (.int y :: .int x :: S) A K := by
  subst hq
  intro p l e R s m args below meth c D aC ρ H locs ls X hf hl hW hS hE hv
  exact lv_icmp_eq X.1.1 X.1.2.1 hd ht (fun h => (kt h p l e R s m args below meth c D aC ρ H locs ls X hf hl hW hS hE hv)) (fun h => (kf h p l e R s m args below meth c D aC ρ H locs ls X hf hl hW hS hE hv))
theorem w_icne {M : MI} {d : Nat} {dm : Nat × Nat} {G : Nat → Nat → Value} {pc : Nat} {L : List (Option Value)} {S : List Value} {A : AH} {K : Option Value → AH → Prop} {x y : Int32} {off : Int} (t q : Nat) (hd : decode M.2.1 pc = .ok (.if_icmp .ne off, 3)) (ht : (pc : Int) + off = (t : Int)) (hq : pc + 3 = q) (kt : ¬ x = y → WP M d dm G t L S A K) (kf : x = y → WP M d dm G q L S A K) : WP M d dm G pc L (.int y :: .int x :: S) A K := by
  subst hq
  intro p l e R s m args below meth c D aC ρ H locs ls X hf hl hW hS hE hv
  exact lv_icmp_ne X.1.1 X.1.2.1 hd ht (fun h => (kt h p l e R s m args below meth c D aC ρ H locs ls X hf hl hW hS hE hv)) (fun h => (kf h p l e R s m args below meth c D aC ρ H locs ls X hf hl hW hS hE hv))
theorem w_iclt {M : MI} {d : Nat} {dm : Nat × Nat} {G : Nat → Nat → Value} {pc : Nat} {L : List (Option Value)} {S : List Value} {A : AH} {K : Option Value → AH → Prop} {x y : Int32} {off : Int} (t q : Nat) (hd : decode M.2.1 pc = .ok (.if_icmp .lt off, 3)) (ht : (pc : Int) + off = (t : Int)) (hq : pc + 3 = q) (kt : x < y → WP M d dm G t L S A K) (kf : ¬ x < y → WP M d dm G q L S A K) : WP M d dm G pc L (.int y :: .int x :: S) A K := by
  subst hq
  intro p l e R s m args below meth c D aC ρ H locs ls X hf hl hW hS hE hv
  exact lv_icmp_lt X.1.1 X.1.2.1 hd ht (fun h => (kt h p l e R s m args below meth c D aC ρ H locs ls X hf hl hW hS hE hv)) (fun h => (kf h p l e R s m args below meth c D aC ρ H locs ls X hf hl hW hS hE hv))
theorem w_icge {M : MI} {d : Nat} {dm : Nat × Nat} {G : Nat → Nat → Value} {pc : Nat} {L : List (Option Value)} {S : List Value} {A : AH} {K : Option Value → AH → Prop} {x y : Int32} {off : Int} (t q : Nat) (hd : decode M.2.1 pc = .ok (.if_icmp .ge off, 3)) (ht : (pc : Int) + off = (t : Int)) (hq : pc + 3 = q) (kt : y ≤ x → WP M d dm G t L S A K) (kf : ¬ y ≤ x → WP M d dm G q L S A K) : WP M d dm G pc L (.int y :: .int x :: S) A K := by
  subst hq
  intro p l e R s m args below meth c D aC ρ H locs ls X hf hl hW hS hE hv
  exact lv_icmp_ge X.1.1 X.1.2.1 hd ht (fun h => (kt h p l e R s m args below meth c D aC ρ H locs ls X hf hl hW hS hE hv)) (fun h => (kf h p l e R s m args below meth c D aC ρ H locs ls X hf hl hW hS hE hv))
theorem w_icgt {M : MI} {d : Nat} {dm : Nat × Nat} {G : Nat → Nat → Value} {pc : Nat} {L : List (Option Value)} {S : List Value} {A : AH} {K : Option Value → AH → Prop} {x y : Int32} {off : Int} (t q : Nat) (hd : decode M.2.1 pc = .ok (.if_icmp .gt off, 3)) (ht : (pc : Int) + off = (t : Int)) (hq : pc + 3 = q) (kt : y < x → WP M d dm G t L S A K) (kf : ¬ y < x → WP M d dm G q L S A K) : WP M d dm G pc L (.int y :: .int x :: S) A K := by
  subst hq
  intro p l e R s m args below meth c D aC ρ H locs ls X hf hl hW hS hE hv
  exact lv_icmp_gt X.1.1 X.1.2.1 hd ht (fun h => (kt h p l e R s m args below meth c D aC ρ H locs ls X hf hl hW hS hE hv)) (fun h => (kf h p l e R s m args below meth c D aC ρ H locs ls X hf hl hW hS hE hv))
theorem w_icle {M : MI} {d : Nat} {dm : Nat × Nat} {G : Nat → Nat → Value} {pc : Nat} {L : List (Option Value)} {S : List Value} {A : AH} {K : Option Value → AH → Prop} {x y : Int32} {off : Int} (t q : Nat) (hd : decode M.2.1 pc = .ok (.if_icmp .le off, 3)) (ht : (pc : Int) + off = (t : Int)) (hq : pc + 3 = q) (kt : x ≤ y → WP M d dm G t L S A K) (kf : ¬ x ≤ y → WP M d dm G q L S A K) : WP M d dm G pc L (.int y :: .int x :: S) A K := by
  subst hq
  intro p l e R s m args below meth c D aC ρ H locs ls X hf hl hW hS hE hv
  exact lv_icmp_le X.1.1 X.1.2.1 hd ht (fun h => (kt h p l e R s m args below meth c D aC ρ H locs ls X hf hl hW hS hE hv)) (fun h => (kf h p l e R s m args below meth c D aC ρ H locs ls X hf hl hW hS hE hv))
theorem w_goto {M : MI} {d : Nat} {dm : Nat × Nat} {G : Nat → Nat → Value} {pc : Nat} {L : List (Option Value)} {S : List Value} {A : AH} {K : Option Value → AH → Prop} {off : Int} (t : Nat) (hd : decode M.2.1 pc = .ok (.goto off, 3)) (ht : (pc : Int) + off = (t : Int)) (k : WP M d dm G t L S A K) : WP M d dm G pc L S A K := by
  intro p l e R s m args below meth c D aC ρ H locs ls X hf hl hW hS hE hv
  exact lv_goto X.1.1 X.1.2.1 hd ht (k p l e R s m args below meth c D aC ρ H locs ls X hf hl hW hS hE hv)
theorem w_nnR {M : MI} {d : Nat} {dm : Nat × Nat} {G : Nat → Nat → Value} {pc : Nat} {L : List (Option Value)} {S : List Value} {A : AH} {K : Option Value → AH → Prop} {x : Nat} {off : Int} (t : Nat) (hd : decode M.2.1 pc = .ok (.ifnonnull off, 3)) (ht : (pc : Int) + off = (t : Int)) (k : WP M d dm G t L S A K) : WP M d dm G pc L (.ref x :: S) A K := by
  intro p l e R s m args below meth c D aC ρ H locs ls X hf hl hW hS hE hv
  exact lv_ifnonnull X.1.1 X.1.2.1 hd ht (k p l e R s m args below meth c D aC ρ H locs ls X hf hl hW hS hE hv)
theorem w_nN {M : MI} {d : Nat} {dm : Nat × Nat} {G : Nat → Nat → Value} {pc : Nat} {L : List (Option Value)} {S : List Value} {A : AH} {K : Option Value → AH → Prop} {off : Int} (t : Nat) (hd : decode M.2.1 pc = .ok (.ifnull off, 3)) (ht : (pc : Int) + off = (t : Int)) (k : WP M d dm G t L S A K) : WP M d dm G pc L (.null :: S) A K := by
  intro p l e R s m args below meth c D aC ρ H locs ls X hf hl hW hS hE hv
  exact lv_ifnullN X.1.1 X.1.2.1 hd ht (k p l e R s m args below meth c D aC ρ H locs ls X hf hl hW hS hE hv)
theorem w_nR {M : MI} {d : Nat} {dm : Nat × Nat} {G : Nat → Nat → Value} {pc : Nat} {L : List (Option Value)} {S : List Value} {A : AH} {K : Option Value → AH → Prop} {x : Nat} {off : Int} (q : Nat) (hd : decode M.2.1 pc = .ok (.ifnull off, 3)) (hq : pc + 3 = q)  (k : WP M d dm G q L S A K) : WP M d dm G pc L (.ref x :: S) A K := by
  subst hq
  intro p l e R s m args below meth c D aC ρ H locs ls X hf hl hW hS hE hv
  exact lv_ifnull X.1.1 X.1.2.1 hd (k p l e R s m args below meth c D aC ρ H locs ls X hf hl hW hS hE hv)
theorem w_nnN {M : MI} {d : Nat} {dm : Nat × Nat} {G : Nat → Nat → Value} {pc : Nat} {L : List (Option Value)} {S : List Value} {A : AH} {K : Option Value → AH → Prop} {off : Int} (q : Nat) (hd : decode M.2.1 pc = .ok (.ifnonnull off, 3)) (hq : pc + 3 = q)  (k : WP M d dm G q L S A K) : WP M d dm G pc L (.null :: S) A K := by
  subst hq
  intro p l e R s m args below meth c D aC ρ H locs ls X hf hl hW hS hE hv
  exact lv_ifnonnullN X.1.1 X.1.2.1 hd (k p l e R s m args below meth c D aC ρ H locs ls X hf hl hW hS hE hv)
theorem w_tabIn {M : MI} {d : Nat} {dm : Nat × Nat} {G : Nat → Nat → Value} {pc : Nat} {L : List (Option Value)} {S : List Value} {A : AH} {K : Option Value → AH → Prop} {dflt lo hi : Int} {offs : Array Int} {len : Nat} {x : Int32} {off : Int} (t : Nat) (hd : decode M.2.1 pc = .ok (.tableswitch dflt lo hi offs, len)) (h1 : ¬ x.toInt < lo) (h2 : ¬ hi < x.toInt) (ho : offs[(x.toInt - lo).toNat]? = some off) (ht : (pc : Int) + off = (t : Int)) (k : WP M d dm G t L S A K) : WP M d dm G pc L (.int x :: S) A K := by
  intro p l e R s m args below meth c D aC ρ H locs ls X hf hl hW hS hE hv
  exact lv_tableIn X.1.1 X.1.2.1 hd h1 h2 ho ht (k p l e R s m args below meth c D aC ρ H locs ls X hf hl hW hS hE hv)
theorem w_tabOut {M : MI} {d : Nat} {dm : Nat × Nat} {G : Nat → Nat → Value} {pc : Nat} {L : List (Option Value)} {S : List Value} {A : AH} {K : Option Value → AH → Prop} {dflt lo hi : Int} {offs : Array Int} {len : Nat} {x : Int32} (t : Nat) (hd : decode M.2.1 pc = .ok (.tableswitch dflt lo hi offs, len)) (h : x.toInt < lo ∨ hi < x.toInt) (ht : (pc : Int) + dflt = (t : Int)) (k : WP M d dm G t L S A K) : WP M d dm G pc L (.int x :: S) A K := by
  intro p l e R s m args below meth c D aC ρ H locs ls X hf hl hW hS hE hv
  exact lv_tableOut X.1.1 X.1.2.1 hd h ht (k p l e R s m args below meth c D aC ρ H locs ls X hf hl hW hS hE hv)
theorem w_iret {M : MI} {d : Nat} {dm : Nat × Nat} {G : Nat → Nat → Value} {pc : Nat} {L : List (Option Value)} {S : List Value} {A : AH} {K : Option Value → AH → Prop} {v : Int32} (hd : decode M.2.1 pc = .ok (.ireturn, 1)) (hr : M.2.2.2 = some .int) (k : K (some (.int v)) A) : WP M d dm G pc L [.int v] A K := by
  intro p l e R s m args below meth c D aC ρ H locs ls X hf hl hW hS hE hv
  exact W.iret X.1.1 X.1.2.1 (X.2.1.trans hr) (fun t ht hWm => ⟨⟨some (.int v), A, rfl, k, by rw [ht]; exact hW.moved hWm.alike⟩, hS.F ht⟩) hS.2.2 hd X.2.2
theorem w_zret {M : MI} {d : Nat} {dm : Nat × Nat} {G : Nat → Nat → Value} {pc : Nat} {L : List (Option Value)} {S : List Value} {A : AH} {K : Option Value → AH → Prop} {v : Int32} {ty : FieldType} (hd : decode M.2.1 pc = .ok (.ireturn, 1)) (hr : M.2.2.2 = some ty) (hn : narrow ty (.int v) = .int v) (k : K (some (.int v)) A) : WP M d dm G pc L [.int v] A K := by
  intro p l e R s m args below meth c D aC ρ H locs ls X hf hl hW hS hE hv
  exact W.zret X.1.1 X.1.2.1 (X.2.1.trans hr) hn (fun t ht hWm => ⟨⟨some (.int v), A, rfl, k, by rw [ht]; exact hW.moved hWm.alike⟩, hS.F ht⟩) hS.2.2 hd X.2.2
theorem w_lret {M : MI} {d : Nat} {dm : Nat × Nat} {G : Nat → Nat → Value} {pc : Nat} {L : List (Option Value)} {S : List Value} {A : AH} {K : Option Value → AH → Prop} {v : Int64} (hd : decode M.2.1 pc = .ok (.lreturn, 1)) (hr : M.2.2.2 = some .long) (k : K (some (.long v)) A) : WP M d dm G pc L [.long v] A K := by
  intro p l e R s m args below meth c D aC ρ H locs ls X hf hl hW hS hE hv
  exact W.lret X.1.1 X.1.2.1 (X.2.1.trans hr) (fun t ht hWm => ⟨⟨some (.long v), A, rfl, k, by rw [ht]; exact hW.moved hWm.alike⟩, hS.F ht⟩) hS.2.2 hd X.2.2
theorem w_vret {M : MI} {d : Nat} {dm : Nat × Nat} {G : Nat → Nat → Value} {pc : Nat} {L : List (Option Value)} {S : List Value} {A : AH} {K : Option Value → AH → Prop} (hd : decode M.2.1 pc = .ok (.return_, 1)) (hr : M.2.2.2 = none) (k : K none A) : WP M d dm G pc L [] A K := by
  intro p l e R s m args below meth c D aC ρ H locs ls X hf hl hW hS hE hv
  exact W.vret X.1.1 X.1.2.1 (X.2.1.trans hr) (fun t ht hWm => ⟨⟨none, A, rfl, k, by rw [ht]; exact hW.moved hWm.alike⟩, hS.F ht⟩) hS.2.2 hd X.2.2
theorem w_aret {M : MI} {d : Nat} {dm : Nat × Nat} {G : Nat → Nat → Value} {pc : Nat} {L : List (Option Value)} {S : List Value} {A : AH} {K : Option Value → AH → Prop} {x : Nat} {rt : FieldType} (hd : decode M.2.1 pc = .ok (.areturn, 1)) (hr : M.2.2.2 = some rt) (hrt : (∃ n, rt = .object n) ∨ ∃ t, rt = .array t) (k : K (some (.ref x)) A) : WP M d dm G pc L [.ref x] A K := by
  intro p l e R s m args below meth c D aC ρ H locs ls X hf hl hW hS hE hv
  exact W.aret X.1.1 X.1.2.1 (X.2.1.trans hr) hrt (Or.inr ⟨ρ x, rfl⟩) (fun t ht hWm => ⟨⟨some (.ref x), A, rfl, k, by rw [ht]; exact hW.moved hWm.alike⟩, hS.F ht⟩) hS.2.2 hd X.2.2
end
section
/-! ===== the rules that read and write the world ===== -/
theorem cellE_congr {aC : Nat → ClassId} {ρ : Nat → Nat} {G : Nat → Nat → Value} {A A' : AH} {x : Nat} (h1 : A'.1 x = A.1 x) (h2 : A'.2 x = A.2 x) : cellE aC ρ G A' x = cellE aC ρ G A x := by
  have hf : ∀ ty k, fvk ty ρ G A' x k = fvk ty ρ G A x k := by
    intro ty k
    unfold fvk
    split
    · rw [h1]
    · rw [h2]
    · rfl
  unfold cellE
  split
  · simp only [hf]
  · rw [h1, h2]
theorem upd2_ne {α : Type} {f : Nat → Nat → α} {o k : Nat} {x : α} {a : Nat} (h : a ≠ o) : upd2 f o k x a = f a := by
  funext b
  simp [upd2, h]
theorem upd2_at {α : Type} {f : Nat → Nat → α} {o k : Nat} {x : α} : upd2 f o k x o k = x := by simp [upd2]
theorem upd2_off {α : Type} {f : Nat → Nat → α} {o k j : Nat} {x : α} (h : j ≠ k) : upd2 f o k x o j = f o j := by simp [upd2, h]
def FA (own : String) (index ci k : Nat) : Prop := ci < 14 ∧ k < clN ci ∧ (Cond.fieldLink own index (clT ci k).1 (clT ci k).2.1 (clT ci k).2.2.1 ∈ TW ∨ ∃ host, Cond.fieldLinkNest own index (clT ci k).1 (clT ci k).2.1 (clT ci k).2.2.1 host ∈ lw_tbl)
section HR
variable {p : Program} {l : Launch} {e : Env} {R : Room} {s : State} {m : MethodId} {args : Array Value} {below : List Frame} {meth : Method} {c : Code} {D : va_G} {aC : Nat → ClassId} {ρ : Nat → Nat} {H : Heap} {locs : List Loc} {ls : Array Slot} {Q : State → Prop} {M : MI} {dm : Nat × Nat} {G : Nat → Nat → Value} {A A' : AH} {pc o : Nat} {rest : List Value} {H0 : Heap}
theorem get_core (X : FX p s m args meth c M) (hW : WD D aC ρ dm G A s H) (hE : EX (fr ρ dm) ρ s H0) {index ci k : Nat} (hd : decode M.2.1 pc = .ok (.getfield index, 3)) (hf : FA M.1 index ci k) (ho : inD dm o = true) (hs : shp o = .inl ci) {v : Value} (hv : fvk (clTy ci k) ρ G A o k = v)
    (kk : W p l e R s m args below meth c H locs 0 0 Q (F0 m (pc + 3) ls (v :: rest))) : W p l e R s m args below meth c H locs 0 0 Q (F0 m pc ls (.ref (ρ o) :: rest)) := by
  obtain ⟨h1, h2, h3⟩ := hf
  obtain ⟨q0, hq, hat⟩ := wsA_at (aC := aC) (ρ := ρ) (G := G) (A := A) ho
  have he : (wsA aC ρ dm G A)[q0]? = some (ρ o, .inr (ci, (List.range (clN ci)).map (fun k => fvk (clTy ci k) ρ G A o k))) := by rw [hat]; simp only [cellE, hs]
  have hfs : ((List.range (clN ci)).map (fun k => fvk (clTy ci k) ρ G A o k))[k]? = some v := by rw [List.getElem?_map, List.getElem?_range h2, Option.map_some, hv]
  rcases h3 with h3 | ⟨host, h3⟩
  · exact va_get (D := D) (ci := ci) (v := v) X.1.1 X.1.2.1 X.1.2.2.2.2 (cl_in h1) X.1.2.2.2.1 hW.2.2 hW.1 q0 he (cl_at h1) k h2 (X.1.2.2.2.2 _ h3) (fun _ h9 => h9) hfs hd kk
  · exact va_getN (D := D) (ci := ci) (v := v) X.1.1 X.1.2.1 X.1.2.2.2.2 (cl_in h1) X.1.2.2.2.1 hW.2.2 hW.1 q0 he (cl_at h1) k h2 (va_Nw.use rfl (hE.1 _ h3 rfl)) (fun _ h9 => h9) hfs hd kk
theorem put_core (X : FX p s m args meth c M) (hW : WD D aC ρ dm G A s H) (hS : va_S (fr ρ dm) s.heap H locs) (hE : EX (fr ρ dm) ρ s H0) {index ci k : Nat} (hd : decode M.2.1 pc = .ok (.putfield index, 3)) (hf : FA M.1 index ci k) (ho : inD dm o = true) (hs : shp o = .inl ci) (hfin : (clT ci k).2.2.2 = false) {v : Value} (hv : fvk (clTy ci k) ρ G A' o k = v) (hoth : ∀ j, j ≠ k → fvk (clTy ci j) ρ G A' o j = fvk (clTy ci j) ρ G A o j) (hne : ∀ x, x ≠ o → cellE aC ρ G A' x = cellE aC ρ G A x) (hn : narrow (clTy ci k) v = v) (hfit : fits (clTy ci k) v = true)
    (kk : ∀ (H1 : Heap) (locs1 : List Loc), WD D aC ρ dm G A' s H1 → va_S (fr ρ dm) s.heap H1 locs1 → W p l e R s m args below meth c H1 locs1 0 0 Q (F0 m (pc + 3) ls rest)) : W p l e R s m args below meth c H locs 0 0 Q (F0 m pc ls (v :: .ref (ρ o) :: rest)) := by
  obtain ⟨h1, h2, h3⟩ := hf
  obtain ⟨q0, hq, hat⟩ := wsA_at (aC := aC) (ρ := ρ) (G := G) (A := A) ho
  have he : (wsA aC ρ dm G A)[q0]? = some (ρ o, .inr (ci, (List.range (clN ci)).map (fun k => fvk (clTy ci k) ρ G A o k))) := by rw [hat]; simp only [cellE, hs]
  have hset : ((List.range (clN ci)).map (fun k => fvk (clTy ci k) ρ G A o k)).set k v = (List.range (clN ci)).map (fun k => fvk (clTy ci k) ρ G A' o k) := by
    apply List.ext_getElem?
    intro j
    by_cases hj : j = k
    · subst hj
      rw [List.getElem?_set_self (by simpa using h2), List.getElem?_map, List.getElem?_range h2, Option.map_some, hv]
    · rw [List.getElem?_set_ne (Ne.symm hj), List.getElem?_map, List.getElem?_map]
      by_cases hjl : j < clN ci
      · rw [List.getElem?_range hjl, Option.map_some, Option.map_some, hoth j hj]
      · rw [List.getElem?_eq_none (by simpa using hjl), Option.map_none, Option.map_none]
  have hw : (wsA aC ρ dm G A).set q0 (ρ o, .inr (ci, ((List.range (clN ci)).map (fun k => fvk (clTy ci k) ρ G A o k)).set k v)) = wsA aC ρ dm G A' := by
    rw [hset, ← wsA_set hW.2.1 hq hne]
    simp only [cellE, hs]
  rcases h3 with h3 | ⟨host, h3⟩
  · refine va_put (D := D) (ci := ci) (v := v) (ty := clTy ci k) X.1.1 X.1.2.1 X.1.2.2.2.2 (cl_in h1) (clTy ci) (cl_ty h1) (cl_nm h1) X.1.2.2.2.1 hW.2.2 hW.1 hW.2.1 hS q0 he (cl_at h1) k h2 (X.1.2.2.2.2 _ h3) (fun _ h9 => h9) hfin (cl_ty h1 k h2) hn hfit (by simpa using h2) hd (fun H1 locs1 hP hD hS1 => ?_)
    rw [hw] at hP hD
    exact kk H1 locs1 ⟨hP, hD, hW.2.2⟩ hS1
  · refine va_putN (D := D) (ci := ci) (v := v) (ty := clTy ci k) X.1.1 X.1.2.1 X.1.2.2.2.2 (cl_in h1) (clTy ci) (cl_ty h1) (cl_nm h1) X.1.2.2.2.1 hW.2.2 hW.1 hW.2.1 hS q0 he (cl_at h1) k h2 (va_Nw.use rfl (hE.1 _ h3 rfl)) (fun _ h9 => h9) hfin (cl_ty h1 k h2) hn hfit (by simpa using h2) hd (fun H1 locs1 hP hD hS1 => ?_)
    rw [hw] at hP hD
    exact kk H1 locs1 ⟨hP, hD, hW.2.2⟩ hS1
theorem wa_at {t n : Nat} (hW : WD D aC ρ dm G A s H) (ho : inD dm o = true) (hs : shp o = .inr (t, n)) : ∃ q0 : Nat, (dmL dm)[q0]? = some o ∧ (wsA aC ρ dm G A)[q0]? = some (ρ o, .inl (aC t, n, if t = 3 then .inr (.inl (A.2 o)) else .inl (A.1 o))) := by
  obtain ⟨q0, hq, hat⟩ := wsA_at (aC := aC) (ρ := ρ) (G := G) (A := A) ho
  exact ⟨q0, hq, by rw [hat]; simp only [cellE, hs]⟩
theorem wa_set {t n q0 : Nat} (hW : WD D aC ρ dm G A s H) (hq : (dmL dm)[q0]? = some o) (hs : shp o = .inr (t, n)) (hne : ∀ x, x ≠ o → cellE aC ρ G A' x = cellE aC ρ G A x) : (wsA aC ρ dm G A).set q0 (ρ o, .inl (aC t, n, if t = 3 then .inr (.inl (A'.2 o)) else .inl (A'.1 o))) = wsA aC ρ dm G A' := by
  rw [← wsA_set hW.2.1 hq hne]
  simp only [cellE, hs]
end HR
end
section
theorem w_geti {M : MI} {d : Nat} {dm : Nat × Nat} {G : Nat → Nat → Value} {pc : Nat} {L : List (Option Value)} {S : List Value} {A : AH} {K : Option Value → AH → Prop} {i ci f o : Nat} (q : Nat) (hd : decode M.2.1 pc = .ok (.getfield i, 3)) (hq : pc + 3 = q) (hf0 : FA M.1 i ci f) (ho : inD dm o = true) (hs : shp o = .inl ci) (ht : clTy ci f = .int) (k : WP M d dm G q L (.int (A.1 o f) :: S) A K) : WP M d dm G pc L (.ref o :: S) A K := by
  subst hq
  intro p l e R s m args below meth c D aC ρ H locs ls X hf hl hW hS hE hv
  exact get_core X hW hE hd hf0 ho hs (v := .int (A.1 o f)) (by rw [ht]; rfl) (k p l e R s m args below meth c D aC ρ H locs ls X hf hl hW hS hE hv)
theorem w_getj {M : MI} {d : Nat} {dm : Nat × Nat} {G : Nat → Nat → Value} {pc : Nat} {L : List (Option Value)} {S : List Value} {A : AH} {K : Option Value → AH → Prop} {i ci f o : Nat} (q : Nat) (hd : decode M.2.1 pc = .ok (.getfield i, 3)) (hq : pc + 3 = q) (hf0 : FA M.1 i ci f) (ho : inD dm o = true) (hs : shp o = .inl ci) (ht : clTy ci f = .long) (k : WP M d dm G q L (.long (A.2 o f) :: S) A K) : WP M d dm G pc L (.ref o :: S) A K := by
  subst hq
  intro p l e R s m args below meth c D aC ρ H locs ls X hf hl hW hS hE hv
  exact get_core X hW hE hd hf0 ho hs (v := .long (A.2 o f)) (by rw [ht]; rfl) (k p l e R s m args below meth c D aC ρ H locs ls X hf hl hW hS hE hv)
def isRf : FieldType → Bool
  | .object _ => true
  | .array _ => true
  | _ => false
theorem fvk_rf {ty : FieldType} (h : isRf ty = true) {ρ : Nat → Nat} {G : Nat → Nat → Value} {A : AH} {o k : Nat} : fvk ty ρ G A o k = cv ρ (G o k) := by
  cases ty <;> simp_all [isRf, fvk]
theorem w_getr {M : MI} {d : Nat} {dm : Nat × Nat} {G : Nat → Nat → Value} {pc : Nat} {L : List (Option Value)} {S : List Value} {A : AH} {K : Option Value → AH → Prop} {i ci f o : Nat} {r : Value} (q : Nat) (hd : decode M.2.1 pc = .ok (.getfield i, 3)) (hq : pc + 3 = q) (hf0 : FA M.1 i ci f) (ho : inD dm o = true) (hs : shp o = .inl ci) (ht : isRf (clTy ci f) = true) (hg : G o f = r) (k : WP M d dm G q L (r :: S) A K) : WP M d dm G pc L (.ref o :: S) A K := by
  subst hq
  intro p l e R s m args below meth c D aC ρ H locs ls X hf hl hW hS hE hv
  exact get_core X hW hE hd hf0 ho hs (v := cv ρ r) (by rw [fvk_rf ht, hg]) (k p l e R s m args below meth c D aC ρ H locs ls X hf hl hW hS hE hv)
theorem fvk_i {ty : FieldType} {ρ : Nat → Nat} {G : Nat → Nat → Value} {A : AH} {o k j : Nat} {x : Int32} (h : j ≠ k) : fvk ty ρ G (upd2 A.1 o k x, A.2) o j = fvk ty ρ G A o j := by
  unfold fvk
  split
  · exact congrArg Value.int (upd2_off h)
  · rfl
  · rfl
theorem fvk_j {ty : FieldType} {ρ : Nat → Nat} {G : Nat → Nat → Value} {A : AH} {o k j : Nat} {x : Int64} (h : j ≠ k) : fvk ty ρ G (A.1, upd2 A.2 o k x) o j = fvk ty ρ G A o j := by
  unfold fvk
  split
  · rfl
  · exact congrArg Value.long (upd2_off h)
  · rfl
theorem w_puti {M : MI} {d : Nat} {dm : Nat × Nat} {G : Nat → Nat → Value} {pc : Nat} {L : List (Option Value)} {S : List Value} {A : AH} {K : Option Value → AH → Prop} {i ci f o : Nat} {x : Int32} (q : Nat) (hd : decode M.2.1 pc = .ok (.putfield i, 3)) (hq : pc + 3 = q) (hf0 : FA M.1 i ci f) (ho : inD dm o = true) (hs : shp o = .inl ci) (ht : clTy ci f = .int) (hfin : (clT ci f).2.2.2 = false) (k : WP M d dm G q L S (upd2 A.1 o f x, A.2) K) : WP M d dm G pc L (.int x :: .ref o :: S) A K := by
  subst hq
  intro p l e R s m args below meth c D aC ρ H locs ls X hf hl hW hS hE hv
  exact put_core X hW hS hE hd hf0 ho hs hfin (v := .int x) (by rw [ht]; simp only [fvk, upd2_at]) (fun j hj => fvk_i hj) (fun x hx => cellE_congr (upd2_ne hx) rfl) (by rw [ht]; rfl) (by rw [ht]; rfl) (fun H1 locs1 hW1 hS1 => (k p l e R s m args below meth c D aC ρ H1 locs1 ls X hf hl hW1 hS1 hE hv))
theorem w_putj {M : MI} {d : Nat} {dm : Nat × Nat} {G : Nat → Nat → Value} {pc : Nat} {L : List (Option Value)} {S : List Value} {A : AH} {K : Option Value → AH → Prop} {i ci f o : Nat} {x : Int64} (q : Nat) (hd : decode M.2.1 pc = .ok (.putfield i, 3)) (hq : pc + 3 = q) (hf0 : FA M.1 i ci f) (ho : inD dm o = true) (hs : shp o = .inl ci) (ht : clTy ci f = .long) (hfin : (clT ci f).2.2.2 = false) (k : WP M d dm G q L S (A.1, upd2 A.2 o f x) K) : WP M d dm G pc L (.long x :: .ref o :: S) A K := by
  subst hq
  intro p l e R s m args below meth c D aC ρ H locs ls X hf hl hW hS hE hv
  exact put_core X hW hS hE hd hf0 ho hs hfin (v := .long x) (by rw [ht]; simp only [fvk, upd2_at]) (fun j hj => fvk_j hj) (fun x hx => cellE_congr rfl (upd2_ne hx)) (by rw [ht]; rfl) (by rw [ht]; rfl) (fun H1 locs1 hW1 hS1 => (k p l e R s m args below meth c D aC ρ H1 locs1 ls X hf hl hW1 hS1 hE hv))
theorem w_iald {M : MI} {d : Nat} {dm : Nat × Nat} {G : Nat → Nat → Value} {pc : Nat} {L : List (Option Value)} {S : List Value} {A : AH} {K : Option Value → AH → Prop} {o n : Nat} {i : Int32} (q : Nat) (hd : decode M.2.1 pc = .ok (.iaload, 1)) (hq : pc + 1 = q) (ho : inD dm o = true) (hs : shp o = .inr (0, n)) (hin : vp_in i n) (k : WP M d dm G q L (.int (A.1 o i.toNatClampNeg) :: S) A K) : WP M d dm G pc L (.int i :: .ref o :: S) A K := by
  subst hq
  intro p l e R s m args below meth c D aC ρ H locs ls X hf hl hW hS hE hv
  obtain ⟨q0, hq0, hat⟩ := wa_at hW ho hs
  exact va_iald (D := D) X.1.1 X.1.2.1 hW.2.2 hW.1 q0 0 hat rfl hin hd (k p l e R s m args below meth c D aC ρ H locs ls X hf hl hW hS hE hv)
theorem w_bald {M : MI} {d : Nat} {dm : Nat × Nat} {G : Nat → Nat → Value} {pc : Nat} {L : List (Option Value)} {S : List Value} {A : AH} {K : Option Value → AH → Prop} {o n : Nat} {i : Int32} (q : Nat) (hd : decode M.2.1 pc = .ok (.baload, 1)) (hq : pc + 1 = q) (ho : inD dm o = true) (hs : shp o = .inr (1, n)) (hin : vp_in i n) (k : WP M d dm G q L (.int (A.1 o i.toNatClampNeg) :: S) A K) : WP M d dm G pc L (.int i :: .ref o :: S) A K := by
  subst hq
  intro p l e R s m args below meth c D aC ρ H locs ls X hf hl hW hS hE hv
  obtain ⟨q0, hq0, hat⟩ := wa_at hW ho hs
  exact va_bald (D := D) X.1.1 X.1.2.1 hW.2.2 hW.1 q0 1 hat rfl hin hd (k p l e R s m args below meth c D aC ρ H locs ls X hf hl hW hS hE hv)
theorem w_zald {M : MI} {d : Nat} {dm : Nat × Nat} {G : Nat → Nat → Value} {pc : Nat} {L : List (Option Value)} {S : List Value} {A : AH} {K : Option Value → AH → Prop} {o n : Nat} {i : Int32} (q : Nat) (hd : decode M.2.1 pc = .ok (.baload, 1)) (hq : pc + 1 = q) (ho : inD dm o = true) (hs : shp o = .inr (2, n)) (hin : vp_in i n) (k : WP M d dm G q L (.int (A.1 o i.toNatClampNeg) :: S) A K) : WP M d dm G pc L (.int i :: .ref o :: S) A K := by
  subst hq
  intro p l e R s m args below meth c D aC ρ H locs ls X hf hl hW hS hE hv
  obtain ⟨q0, hq0, hat⟩ := wa_at hW ho hs
  exact va_zald (D := D) X.1.1 X.1.2.1 hW.2.2 hW.1 q0 2 hat rfl hin hd (k p l e R s m args below meth c D aC ρ H locs ls X hf hl hW hS hE hv)
theorem w_lald {M : MI} {d : Nat} {dm : Nat × Nat} {G : Nat → Nat → Value} {pc : Nat} {L : List (Option Value)} {S : List Value} {A : AH} {K : Option Value → AH → Prop} {o n : Nat} {i : Int32} (q : Nat) (hd : decode M.2.1 pc = .ok (.laload, 1)) (hq : pc + 1 = q) (ho : inD dm o = true) (hs : shp o = .inr (3, n)) (hin : vp_in i n) (k : WP M d dm G q L (.long (A.2 o i.toNatClampNeg) :: S) A K) : WP M d dm G pc L (.int i :: .ref o :: S) A K := by
  subst hq
  intro p l e R s m args below meth c D aC ρ H locs ls X hf hl hW hS hE hv
  obtain ⟨q0, hq0, hat⟩ := wa_at hW ho hs
  exact va_lald (D := D) X.1.1 X.1.2.1 hW.2.2 hW.1 q0 3 hat rfl hin hd (k p l e R s m args below meth c D aC ρ H locs ls X hf hl hW hS hE hv)
theorem upd2_row {α : Type} {f : Nat → Nat → α} {o k : Nat} {x : α} : upd2 f o k x o = fun j => if j = k then x else f o j := by
  funext j
  simp [upd2]
theorem w_iast {M : MI} {d : Nat} {dm : Nat × Nat} {G : Nat → Nat → Value} {pc : Nat} {L : List (Option Value)} {S : List Value} {A : AH} {K : Option Value → AH → Prop} {o n : Nat} {i x : Int32} (q : Nat) (hd : decode M.2.1 pc = .ok (.iastore, 1)) (hq : pc + 1 = q) (ho : inD dm o = true) (hs : shp o = .inr (0, n)) (hin : vp_in i n) (k : WP M d dm G q L S (upd2 A.1 o i.toNatClampNeg x, A.2) K) : WP M d dm G pc L (.int x :: .int i :: .ref o :: S) A K := by
  subst hq
  intro p l e R s m args below meth c D aC ρ H locs ls X hf hl hW hS hE hv
  obtain ⟨q0, hq0, hat⟩ := wa_at hW ho hs
  refine va_iast (D := D) X.1.1 X.1.2.1 hW.2.2 hW.1 hW.2.1 hS q0 0 hat rfl hin hd (fun H1 locs1 hP hD hS1 => ?_)
  have hw := wa_set (A' := (upd2 A.1 o i.toNatClampNeg x, A.2)) hW hq0 hs (fun x hx => cellE_congr (upd2_ne hx) rfl)
  have hr : upd (A.1 o) i.toNatClampNeg x = upd2 A.1 o i.toNatClampNeg x o := upd2_row.symm
  have hw2 : (wsA aC ρ dm G A).set q0 (ρ o, .inl (aC 0, n, .inl (upd2 A.1 o i.toNatClampNeg x o))) = wsA aC ρ dm G (upd2 A.1 o i.toNatClampNeg x, A.2) := hw
  rw [hr, hw2] at hP hD
  exact (k p l e R s m args below meth c D aC ρ H1 locs1 ls X hf hl ⟨hP, hD, hW.2.2⟩ hS1 hE hv)
theorem w_bast {M : MI} {d : Nat} {dm : Nat × Nat} {G : Nat → Nat → Value} {pc : Nat} {L : List (Option Value)} {S : List Value} {A : AH} {K : Option Value → AH → Prop} {o n : Nat} {i x : Int32} (q : Nat) (hd : decode M.2.1 pc = .ok (.bastore, 1)) (hq : pc + 1 = q) (ho : inD dm o = true) (hs : shp o = .inr (1, n)) (hin : vp_in i n) (k : WP M d dm G q L S (upd2 A.1 o i.toNatClampNeg (vp_nar .byte x), A.2) K) : WP M d dm G pc L (.int x :: .int i :: .ref o :: S) A K := by
  subst hq
  intro p l e R s m args below meth c D aC ρ H locs ls X hf hl hW hS hE hv
  obtain ⟨q0, hq0, hat⟩ := wa_at hW ho hs
  refine va_bast (D := D) X.1.1 X.1.2.1 hW.2.2 hW.1 hW.2.1 hS q0 1 hat rfl hin hd (fun H1 locs1 hP hD hS1 => ?_)
  have hw := wa_set (A' := (upd2 A.1 o i.toNatClampNeg (vp_nar .byte x), A.2)) hW hq0 hs (fun x hx => cellE_congr (upd2_ne hx) rfl)
  have hr : upd (A.1 o) i.toNatClampNeg (vp_nar .byte x) = upd2 A.1 o i.toNatClampNeg (vp_nar .byte x) o := upd2_row.symm
  have hw2 : (wsA aC ρ dm G A).set q0 (ρ o, .inl (aC 1, n, .inl (upd2 A.1 o i.toNatClampNeg (vp_nar .byte x) o))) = wsA aC ρ dm G (upd2 A.1 o i.toNatClampNeg (vp_nar .byte x), A.2) := hw
  rw [hr, hw2] at hP hD
  exact (k p l e R s m args below meth c D aC ρ H1 locs1 ls X hf hl ⟨hP, hD, hW.2.2⟩ hS1 hE hv)
theorem w_zast {M : MI} {d : Nat} {dm : Nat × Nat} {G : Nat → Nat → Value} {pc : Nat} {L : List (Option Value)} {S : List Value} {A : AH} {K : Option Value → AH → Prop} {o n : Nat} {i x : Int32} (q : Nat) (hd : decode M.2.1 pc = .ok (.bastore, 1)) (hq : pc + 1 = q) (ho : inD dm o = true) (hs : shp o = .inr (2, n)) (hin : vp_in i n) (k : WP M d dm G q L S (upd2 A.1 o i.toNatClampNeg (vp_nar .boolean x), A.2) K) : WP M d dm G pc L (.int x :: .int i :: .ref o :: S) A K := by
  subst hq
  intro p l e R s m args below meth c D aC ρ H locs ls X hf hl hW hS hE hv
  obtain ⟨q0, hq0, hat⟩ := wa_at hW ho hs
  refine va_zast (D := D) X.1.1 X.1.2.1 hW.2.2 hW.1 hW.2.1 hS q0 2 hat rfl hin hd (fun H1 locs1 hP hD hS1 => ?_)
  have hw := wa_set (A' := (upd2 A.1 o i.toNatClampNeg (vp_nar .boolean x), A.2)) hW hq0 hs (fun x hx => cellE_congr (upd2_ne hx) rfl)
  have hr : upd (A.1 o) i.toNatClampNeg (vp_nar .boolean x) = upd2 A.1 o i.toNatClampNeg (vp_nar .boolean x) o := upd2_row.symm
  have hw2 : (wsA aC ρ dm G A).set q0 (ρ o, .inl (aC 2, n, .inl (upd2 A.1 o i.toNatClampNeg (vp_nar .boolean x) o))) = wsA aC ρ dm G (upd2 A.1 o i.toNatClampNeg (vp_nar .boolean x), A.2) := hw
  rw [hr, hw2] at hP hD
  exact (k p l e R s m args below meth c D aC ρ H1 locs1 ls X hf hl ⟨hP, hD, hW.2.2⟩ hS1 hE hv)
theorem w_last {M : MI} {d : Nat} {dm : Nat × Nat} {G : Nat → Nat → Value} {pc : Nat} {L : List (Option Value)} {S : List Value} {A : AH} {K : Option Value → AH → Prop} {o n : Nat} {i : Int32} {x : Int64} (q : Nat) (hd : decode M.2.1 pc = .ok (.lastore, 1)) (hq : pc + 1 = q) (ho : inD dm o = true) (hs : shp o = .inr (3, n)) (hin : vp_in i n) (k : WP M d dm G q L S (A.1, upd2 A.2 o i.toNatClampNeg x) K) : WP M d dm G pc L (.long x :: .int i :: .ref o :: S) A K := by
  subst hq
  intro p l e R s m args below meth c D aC ρ H locs ls X hf hl hW hS hE hv
  obtain ⟨q0, hq0, hat⟩ := wa_at hW ho hs
  refine va_last (D := D) X.1.1 X.1.2.1 hW.2.2 hW.1 hW.2.1 hS q0 3 hat rfl hin hd (fun H1 locs1 hP hD hS1 => ?_)
  have hw := wa_set (A' := (A.1, upd2 A.2 o i.toNatClampNeg x)) hW hq0 hs (fun x hx => cellE_congr rfl (upd2_ne hx))
  have hr : vp_updL (A.2 o) i.toNatClampNeg x = upd2 A.2 o i.toNatClampNeg x o := upd2_row.symm
  have hw2 : (wsA aC ρ dm G A).set q0 (ρ o, .inl (aC 3, n, .inr (.inl (upd2 A.2 o i.toNatClampNeg x o)))) = wsA aC ρ dm G (A.1, upd2 A.2 o i.toNatClampNeg x) := hw
  rw [hr, hw2] at hP hD
  exact (k p l e R s m args below meth c D aC ρ H1 locs1 ls X hf hl ⟨hP, hD, hW.2.2⟩ hS1 hE hv)
theorem w_alen {M : MI} {d : Nat} {dm : Nat × Nat} {G : Nat → Nat → Value} {pc : Nat} {L : List (Option Value)} {S : List Value} {A : AH} {K : Option Value → AH → Prop} {o t n : Nat} {v : Int32} (q : Nat) (hd : decode M.2.1 pc = .ok (.arraylength, 1)) (hq : pc + 1 = q) (ho : inD dm o = true) (hs : shp o = .inr (t, n)) (ht4 : t < 4) (hv0 : Int32.ofNat n = v) (k : WP M d dm G q L (.int v :: S) A K) : WP M d dm G pc L (.ref o :: S) A K := by
  subst hq
  intro p l e R s m args below meth c D aC ρ H locs ls X hf hl hW hS hE hv
  obtain ⟨q0, hq0, hat⟩ := wa_at hW ho hs
  have hty : ∃ (t0 : Nat) (ty : FieldType), (tysA aC)[t0]? = some (aC t, ty) := by
    rcases t with _ | _ | _ | _ | t
    · exact ⟨0, _, rfl⟩
    · exact ⟨1, _, rfl⟩
    · exact ⟨2, _, rfl⟩
    · exact ⟨3, _, rfl⟩
    · omega
  obtain ⟨t0, ty, hty⟩ := hty
  exact va_alen (D := D) X.1.1 X.1.2.1 hW.2.2 hW.1 q0 t0 hat hty hv0 hd (k p l e R s m args below meth c D aC ρ H locs ls X hf hl hW hS hE hv)
end
section
/-! ===== calls ===== -/
def notMH (y : MethodName) : Prop := y.cls ≠ "java/lang/invoke/MethodHandle" ∧ y.cls ≠ "java/lang/invoke/VarHandle"
/-- an instance method of ours, as the tables link it -/
def ML (own : String) (index : Nat) (y : MethodName) (M' : MI) (n ci : Nat) : Prop := Cond.methodLink own index y ∈ TW ∧ Cond.instanceMethod y ∈ TW ∧ Cond.selects (clR ci) y y ∈ TW ∧ Cond.initialized (clR ci) ∈ TW ∧ Cond.code y M'.2.1 M'.2.2.1 M'.2.2.2 ∈ TW ∧ (y.cls = clR ci ∧ y.cls ≠ "java/lang/invoke/MethodHandle" ∧ y.cls ≠ "java/lang/invoke/VarHandle" ∧ (parseMethodDescriptor y.desc).map (fun d => d.parameters.length) = some n) ∧ M'.2.2.1 ≤ 19 ∧ ci < 14
/-- a static method, its own class's or another's -/
def SL (own : String) (index : Nat) (y : MethodName) (M' : MI) (n : Nat) : Prop := (Cond.methodLink own index y ∈ TW ∨ ∃ host, Cond.methodLinkNest own index y host ∈ lw_tbl) ∧ Cond.static y ∈ TW ∧ Cond.initialized y.cls ∈ TW ∧ Cond.code y M'.2.1 M'.2.2.1 M'.2.2.2 ∈ TW ∧ (y.cls ≠ "java/lang/invoke/MethodHandle" ∧ y.cls ≠ "java/lang/invoke/VarHandle" ∧ (parseMethodDescriptor y.desc).map (fun d => d.parameters.length) = some n) ∧ M'.2.2.1 ≤ 19
theorem TW_cons {w : Cond} (h : w ∈ TW) : GoodIn TW (w :: TW) := fun x hx => (List.mem_cons.mp hx).elim (fun e => by subst e; exact ⟨h, good_of_word (List.mem_filter.mp h).2⟩) (fun hx => ⟨hx, good_of_word (List.mem_filter.mp hx).2⟩)
theorem TW_g {w : Cond} (h : w ∈ TW) : w ∈ TW ∧ ((w.onTables && w.keeps) = true ∨ ∃ ty, w = .arrayClass ty) := ⟨h, good_of_word (List.mem_filter.mp h).2⟩
section CR
variable {p : Program} {l : Launch} {e : Env} {R : Room} {s : State} {m : MethodId} {args : Array Value} {below : List Frame} {meth : Method} {c : Code} {D : va_G} {aC : Nat → ClassId} {ρ : Nat → Nat} {H : Heap} {locs : List Loc} {ls : Array Slot} {M : MI} {dm : Nat × Nat} {G : Nat → Nat → Value} {A : AH} {pc : Nat} {y : MethodName} {M' : MI} {n index : Nat} {As rest : List Value} {d d' : Nat} {K : Option Value → AH → Prop} {L : List (Option Value)}
theorem EX.at {B : Nat → Prop} {U : State} (hE : EX B ρ s s.heap) (hS : va_S B s.heap H locs) (hU : U.heap = H) (hWm : s.WarmedH U.vm) : EX B ρ U U.heap := by
  rw [hU]
  exact (hE.kept hS.2.1).warm hWm
theorem cat_le (S : List Value) (h : (S.map (fun v => v.category)).sum ≤ 8) : ((S.map (cv ρ)).map (fun v => v.category)).sum ≤ 8 := by
  have : ((S.map (cv ρ)).map (fun v => v.category)) = S.map (fun v => v.category) := by
    rw [List.map_map]
    apply List.map_congr_left
    intro v _
    cases v <;> rfl
  rw [this]
  exact h
theorem w_inv (q : Nat) {ci o : Nat} (hd : decode M.2.1 pc = .ok (.invokevirtual index, 3)) (hq : pc + 3 = q) (hm : ML M.1 index y M' n ci) (ho : inD dm o = true) (hs : shp o = .inl ci) (hn : As.length = n) (hdd : d' + 1 ≤ d) (hst : (rest.map (fun v => v.category)).sum ≤ 8) (hc : Ct y M' d' dm G (.ref o :: As) A (fun v A' => WP M d dm G q L (ov v rest) A' K)) : WP M d dm G pc L (As.reverse ++ .ref o :: rest) A K := by
  subst hq
  intro p l e R s m args below meth c D aC ρ H locs ls X hf hl hW hS hE hv
  obtain ⟨m1, m2, m3, m4, m5, m6, m7, m8⟩ := hm
  obtain ⟨q0, hq0, hat⟩ := wsA_at (aC := aC) (ρ := ρ) (G := G) (A := A) ho
  have he : (wsA aC ρ dm G A)[q0]? = some (ρ o, .inr (ci, (List.range (clN ci)).map (fun k => fvk (clTy ci k) ρ G A o k))) := by rw [hat]; simp only [cellE, hs]
  have hG : GoodIn TW (wsV M.1 index (clR ci) y (.code y M'.2.1 M'.2.2.1 M'.2.2.2 :: TW)) := by
    intro w hw
    unfold wsV at hw
    rcases List.mem_append.mp hw with hw | hw
    · simp only [List.mem_cons, List.not_mem_nil, or_false] at hw
      rcases hw with rfl | rfl | rfl | rfl
      · exact TW_g m1
      · exact TW_g m2
      · exact TW_g m3
      · exact TW_g m4
    · exact TW_cons m5 w hw
  have hrun := va_runV (meth := meth) (locs := locs) (H := H) (below := below) (e := e) (cells := 0) (slots := 0) (g := F0 m pc ls ((As.reverse ++ .ref o :: rest).map (cv ρ))) (rest := rest.map (cv ρ)) (As := As.map (cv ρ)) (b := ρ o) X.1 (hc l D aC ρ) (cwV (R := R) n X.1.2.2.2.2 hG rfl rfl rfl m6 ⟨by show d' + 1 ≤ _; omega, by show 8 + (M'.2.2.1 + 11) + 38 * d' ≤ _; omega⟩) ⟨fb_QK, va_recv hW.2.2 hW.1 (cl_at m8) he, fun U hU hWm => ⟨by simp [cv], by rw [hU]; exact hW.moved hWm.alike, hE.at hS hU hWm⟩⟩ rfl (by simpa using hn) hv.1 (by simp [List.map_append, List.map_reverse, cv]) (lv_room (cat_le rest hst)) hd ⟨Nat.zero_le _, Nat.zero_le _⟩
  exact run_k hrun hS (fun v A1 H1 locs1 hk hW1 hS1 => hk p l e R s m args below meth c D aC ρ H1 locs1 ls X hf hl hW1 hS1 hE hv)
theorem w_invs (q : Nat) (hd : decode M.2.1 pc = .ok (.invokestatic index, 3)) (hq : pc + 3 = q) (hm : SL M.1 index y M' n) (hn : As.length = n) (hdd : d' + 1 ≤ d) (hst : (rest.map (fun v => v.category)).sum ≤ 8) (hc : Ct y M' d' dm G As A (fun v A' => WP M d dm G q L (ov v rest) A' K)) : WP M d dm G pc L (As.reverse ++ rest) A K := by
  subst hq
  intro p l e R s m args below meth c D aC ρ H locs ls X hf hl hW hS hE hv
  obtain ⟨m1, m2, m3, m4, m5, m6⟩ := hm
  have hR : (rmD d').frames + 1 ≤ R.frames ∧ 8 + (M'.2.2.1 + 11) + (rmD d').locals ≤ R.locals := ⟨by show d' + 1 ≤ _; omega, by show 8 + (M'.2.2.1 + 11) + 38 * d' ≤ _; omega⟩
  have hp : PreS s H (va_Pc (As.map (cv ρ)) (fun U => WD D aC ρ dm G A U U.heap ∧ EX (fr ρ dm) ρ U U.heap)) (As.map (cv ρ)) := ⟨fb_QK, fun U hU hWm => ⟨rfl, by rw [hU]; exact hW.moved hWm.alike, hE.at hS hU hWm⟩⟩
  have kk : ∀ (v : Option Value) (A1 : AH) (H1 : Heap) (locs1 : List Loc), WP M d dm G (pc + 3) L (ov v rest) A1 K → WD D aC ρ dm G A1 s H1 → va_S (fr ρ dm) s.heap H1 locs1 → W p l e R s m args below meth c H1 locs1 0 0 (MQ below (QK D aC ρ dm G K) args s 0 0 (fr ρ dm)) (F0 m (pc + 3) ls ((ov v rest).map (cv ρ))) := fun v A1 H1 locs1 hk hW1 hS1 => hk p l e R s m args below meth c D aC ρ H1 locs1 ls X hf hl hW1 hS1 hE hv
  rcases m1 with m1 | ⟨host, m1⟩
  · have hG : GoodIn TW (va_wsS M.1 index y (.code y M'.2.1 M'.2.2.1 M'.2.2.2 :: TW)) := by
      intro w hw
      unfold va_wsS at hw
      rcases List.mem_append.mp hw with hw | hw
      · simp only [List.mem_cons, List.not_mem_nil, or_false] at hw
        rcases hw with rfl | rfl | rfl
        · exact TW_g m1
        · exact TW_g m2
        · exact TW_g m3
      · exact TW_cons m4 w hw
    have hrun := va_runS (meth := meth) (locs := locs) (H := H) (below := below) (e := e) (cells := 0) (slots := 0) (g := F0 m pc ls ((As.reverse ++ rest).map (cv ρ))) (rest := rest.map (cv ρ)) (As := As.map (cv ρ)) X.1 (hc l D aC ρ) (va_cwS (R := R) n X.1.2.2.2.2 hG rfl rfl rfl m5 hR) hp rfl (by simpa using hn) hv.1 (by simp [List.map_append, List.map_reverse]) (lv_room (cat_le rest hst)) hd ⟨Nat.zero_le _, Nat.zero_le _⟩
    exact run_k hrun hS kk
  · have hrun := va_runSN (meth := meth) (locs := locs) (H := H) (below := below) (e := e) (cells := 0) (slots := 0) (g := F0 m pc ls ((As.reverse ++ rest).map (cv ρ))) (rest := rest.map (cv ρ)) (As := As.map (cv ρ)) X.1 (hc l D aC ρ) ⟨va_cnB (R := R) n X.1.2.2.2.2 (TW_cons m4) rfl rfl rfl (hE.1 _ m1 rfl) (X.1.2.2.2.2 _ m3) m5 hR, X.1.2.2.2.2 _ m2, trivial⟩ hp rfl (by simpa using hn) hv.1 (by simp [List.map_append, List.map_reverse]) (lv_room (cat_le rest hst)) hd ⟨Nat.zero_le _, Nat.zero_le _⟩
    exact run_k hrun hS kk
end CR
end
section
abbrev mX11_init : MI := (RX11, cX11_init, 1, none)
abbrev mX5_init : MI := (RX5, cX5_init, 1, none)
abbrev mX3_init : MI := (RX3, cX3_init, 1, none)
abbrev mX9_init : MI := (RX9, cX9_init, 1, none)
abbrev mX10_init : MI := (RX10, cX10_init, 1, none)
abbrev mX8_init : MI := (RX8, cX8_init, 1, none)
abbrev mX7_init : MI := (RX7, cX7_init, 1, none)
abbrev mX4_init : MI := (RX4, cX4_init, 1, none)
abbrev mX0_init : MI := (RX0, cX0_init, 1, none)
abbrev mX2_init : MI := (RX2, cX2_init, 1, none)
abbrev mX1_init : MI := (RX1, cX1_init, 1, none)
abbrev mX6_init : MI := (RX6, cX6_init, 1, none)
abbrev mX11_feed : MI := (RX11, cX11_feed, 7, (some .int))
abbrev mX9_takesTwenty : MI := (RX9, cX9_takesTwenty, 1, (some .boolean))
abbrev mX9_append : MI := (RX9, cX9_append, 3, none)
abbrev mX11_web : MI := (RX11, cX11_web, 2, (some .int))
abbrev mX11_within : MI := (RX11, cX11_within, 3, (some .int))
abbrev mX11_refused : MI := (RX11, cX11_refused, 2, (some .boolean))
abbrev mX5_read : MI := (RX5, cX5_read, 4, none)
abbrev mX10_clear : MI := (RX10, cX10_clear, 2, none)
abbrev mX10_of : MI := (RX10, cX10_of, 2, (some (.object "PromiseWeb$Table")))
abbrev mX3_clear : MI := (RX3, cX3_clear, 1, none)
abbrev mX9_rewind : MI := (RX9, cX9_rewind, 2, none)
abbrev mX5_readLine : MI := (RX5, cX5_readLine, 3, (some .boolean))
abbrev mX9_advance : MI := (RX9, cX9_advance, 1, none)
abbrev mX9_takeLetters : MI := (RX9, cX9_takeLetters, 1, none)
abbrev mX9_takeDigits : MI := (RX9, cX9_takeDigits, 1, none)
abbrev mX5_sortOfLine : MI := (RX5, cX5_sortOfLine, 1, (some .int))
abbrev mX9_isWord : MI := (RX9, cX9_isWord, 5, (some .boolean))
abbrev mJ0_length_8abf5 : MI := (RJ0, cJ0_length_8abf5, 1, (some .int))
abbrev mJ0_coder_7d493 : MI := (RJ0, cJ0_coder_7d493, 1, (some .byte))
abbrev mJ0_charAt_5068e : MI := (RJ0, cJ0_charAt_5068e, 2, (some .char))
abbrev mJ0_isLatin1_aae02 : MI := (RJ0, cJ0_isLatin1_aae02, 1, (some .boolean))
abbrev mJ1_charAt_3b067 : MI := (RJ1, cJ1_charAt_3b067, 2, (some .char))
abbrev mJ0_checkIndex_df160 : MI := (RJ0, cJ0_checkIndex_df160, 2, none)
abbrev mJ3_checkIndex_8e157 : MI := (RJ3, cJ3_checkIndex_8e157, 3, (some .int))
abbrev mJ2_charAt_3b067 : MI := (RJ2, cJ2_charAt_3b067, 2, (some .char))
abbrev mJ2_checkIndex_2214a : MI := (RJ2, cJ2_checkIndex_2214a, 2, none)
abbrev mJ2_length_9d52b : MI := (RJ2, cJ2_length_9d52b, 1, (some .int))
abbrev mJ2_getChar_3b067 : MI := (RJ2, cJ2_getChar_3b067, 2, (some .char))
abbrev mX5_fail : MI := (RX5, cX5_fail, 2, (some .boolean))
abbrev mX10_howMany : MI := (RX10, cX10_howMany, 2, (some .int))
abbrev mX5_clearRow : MI := (RX5, cX5_clearRow, 2, none)
abbrev mX5_readBehind : MI := (RX5, cX5_readBehind, 2, (some .boolean))
abbrev mX5_takeWord : MI := (RX5, cX5_takeWord, 2, (some .boolean))
abbrev mX5_takeWhole : MI := (RX5, cX5_takeWhole, 3, (some .boolean))
abbrev mX5_put : MI := (RX5, cX5_put, 2, (some .boolean))
abbrev mX5_takeNewName : MI := (RX5, cX5_takeNewName, 2, (some .boolean))
abbrev mX3_isTold : MI := (RX3, cX3_isTold, 4, (some .boolean))
abbrev mX3_add : MI := (RX3, cX3_add, 5, none)
abbrev mX5_takeKind : MI := (RX5, cX5_takeKind, 1, (some .boolean))
abbrev mX5_takeName : MI := (RX5, cX5_takeName, 3, (some .boolean))
abbrev mX3_numberOf : MI := (RX3, cX3_numberOf, 5, (some .int))
abbrev mX5_areUnlike : MI := (RX5, cX5_areUnlike, 2, (some .boolean))
abbrev mX5_isNewClash : MI := (RX5, cX5_isNewClash, 2, (some .boolean))
abbrev mX10_clashingWith : MI := (RX10, cX10_clashingWith, 6, (some .int))
abbrev mX8_cell : MI := (RX8, cX8_cell, 4, (some .int))
abbrev mX11_has : MI := (RX11, cX11_has, 2, (some .boolean))
abbrev mX5_isNewUnsure : MI := (RX5, cX5_isNewUnsure, 2, (some .boolean))
abbrev mX10_cell : MI := (RX10, cX10_cell, 4, (some .int))
abbrev mX5_takeHow : MI := (RX5, cX5_takeHow, 1, (some .boolean))
abbrev mX10_add : MI := (RX10, cX10_add, 3, none)
abbrev mX8_add : MI := (RX8, cX8_add, 2, none)
abbrev mX5_goesOn : MI := (RX5, cX5_goesOn, 1, (some .boolean))
abbrev mX10_copyFrom : MI := (RX10, cX10_copyFrom, 3, none)
abbrev mX8_copyFrom : MI := (RX8, cX8_copyFrom, 2, none)
abbrev mX7_begin : MI := (RX7, cX7_begin, 3, none)
abbrev mX7_addKept : MI := (RX7, cX7_addKept, 5, none)
abbrev mX7_setCell : MI := (RX7, cX7_setCell, 4, none)
abbrev mX7_isThere : MI := (RX7, cX7_isThere, 3, (some .boolean))
abbrev mX4_forget : MI := (RX4, cX4_forget, 1, none)
abbrev mX2_weigh : MI := (RX2, cX2_weigh, 3, none)
abbrev mJ9_min_7cf53 : MI := (RJ9, cJ9_min_7cf53, 2, (some .int))
abbrev mX2_weightOf : MI := (RX2, cX2_weightOf, 7, (some .long))
abbrev mX10_slipsInHundred : MI := (RX10, cX10_slipsInHundred, 1, (some .int))
abbrev mX2_isBrown : MI := (RX2, cX2_isBrown, 4, (some .boolean))
abbrev mX2_isLiedOn : MI := (RX2, cX2_isLiedOn, 4, (some .boolean))
abbrev mX10_isLied : MI := (RX10, cX10_isLied, 2, (some .boolean))
abbrev mX10_isToldBrown : MI := (RX10, cX10_isToldBrown, 2, (some .boolean))
abbrev mX11_fault : MI := (RX11, cX11_fault, 1, (some .int))
abbrev mX11_where : MI := (RX11, cX11_where, 1, (some .int))
abbrev mX11_thread : MI := (RX11, cX11_thread, 3, (some .int))
abbrev mX11_needThread : MI := (RX11, cX11_needThread, 2, (some .int))
abbrev mX7_threads : MI := (RX7, cX7_threads, 1, (some .int))
abbrev mX11_firstOf : MI := (RX11, cX11_firstOf, 2, (some .int))
abbrev mX7_strength : MI := (RX7, cX7_strength, 6, (some .int))
abbrev mX7_isSnapped : MI := (RX7, cX7_isSnapped, 2, (some .boolean))
abbrev mX7_cell : MI := (RX7, cX7_cell, 3, (some .int))
abbrev mJ9_max_7cf53 : MI := (RJ9, cJ9_max_7cf53, 2, (some .int))
abbrev mX11_nail : MI := (RX11, cX11_nail, 4, (some .int))
abbrev mX11_needNail : MI := (RX11, cX11_needNail, 2, (some .int))
abbrev mX11_needRow : MI := (RX11, cX11_needRow, 3, (some .int))
abbrev mX11_goBehind : MI := (RX11, cX11_goBehind, 2, none)
abbrev mX0_arrange : MI := (RX0, cX0_arrange, 4, none)
abbrev mX0_fillSums : MI := (RX0, cX0_fillSums, 7, none)
abbrev mX0_strengthen : MI := (RX0, cX0_strengthen, 4, none)
abbrev mX0_heldAt : MI := (RX0, cX0_heldAt, 5, (some .int))
abbrev mX0_sumOf : MI := (RX0, cX0_sumOf, 2, (some .int))
abbrev mX11_strong : MI := (RX11, cX11_strong, 3, (some .int))
abbrev mX11_needYears : MI := (RX11, cX11_needYears, 1, (some .int))
abbrev mX11_breaksIn : MI := (RX11, cX11_breaksIn, 3, (some .int))
abbrev mX11_holding : MI := (RX11, cX11_holding, 2, (some .int))
abbrev mX11_needWeb : MI := (RX11, cX11_needWeb, 1, (some .int))
abbrev mX0_held : MI := (RX0, cX0_held, 3, (some .int))
abbrev mX11_strongest : MI := (RX11, cX11_strongest, 6, (some .int))
abbrev mX11_bears : MI := (RX11, cX11_bears, 4, (some .int))
abbrev mX11_needTwoNails : MI := (RX11, cX11_needTwoNails, 3, (some .int))
abbrev mX0_between : MI := (RX0, cX0_between, 3, (some .int))
abbrev mX0_part : MI := (RX0, cX0_part, 4, none)
abbrev mX0_across : MI := (RX0, cX0_across, 4, (some .int))
abbrev mX0_borneBy : MI := (RX0, cX0_borneBy, 5, (some .int))
abbrev mX11_cut : MI := (RX11, cX11_cut, 4, (some .int))
abbrev mX0_fewestCut : MI := (RX0, cX0_fewestCut, 6, (some .int))
abbrev mX0_isLess : MI := (RX0, cX0_isLess, 3, (some .boolean))
abbrev mJ6_bitCount_0f7a4 : MI := (RJ6, cJ6_bitCount_0f7a4, 1, (some .int))
abbrev mX11_vital : MI := (RX11, cX11_vital, 9, (some .int))
abbrev mX11_needed : MI := (RX11, cX11_needed, 8, (some .int))
abbrev mX11_weakest : MI := (RX11, cX11_weakest, 8, (some .int))
abbrev mX11_apart : MI := (RX11, cX11_apart, 4, (some .int))
abbrev mX0_steps : MI := (RX0, cX0_steps, 6, (some .int))
abbrev mX0_reachedFrom : MI := (RX0, cX0_reachedFrom, 5, (some .int))
abbrev mX11_parts : MI := (RX11, cX11_parts, 2, (some .int))
abbrev mX0_pieces : MI := (RX0, cX0_pieces, 5, (some .int))
abbrev mX0_pieceOf : MI := (RX0, cX0_pieceOf, 5, (some .int))
abbrev mX11_bridges : MI := (RX11, cX11_bridges, 6, (some .int))
abbrev mX11_borne : MI := (RX11, cX11_borne, 2, (some .int))
abbrev mX11_loadsBorneBy : MI := (RX11, cX11_loadsBorneBy, 4, (some .int))
abbrev mX11_partForLoad : MI := (RX11, cX11_partForLoad, 2, none)
abbrev mX11_fallsIn : MI := (RX11, cX11_fallsIn, 3, (some .int))
abbrev mX11_needLoad : MI := (RX11, cX11_needLoad, 2, (some .int))
abbrev mX11_spare : MI := (RX11, cX11_spare, 2, (some .int))
abbrev mX11_mend : MI := (RX11, cX11_mend, 1, (some .int))
abbrev mX11_cheapestMend : MI := (RX11, cX11_cheapestMend, 8, (some .int))
abbrev mX11_costOf : MI := (RX11, cX11_costOf, 4, (some .int))
abbrev mX0_ofOffers : MI := (RX0, cX0_ofOffers, 1, (some .int))
abbrev mX11_mendCost : MI := (RX11, cX11_mendCost, 2, (some .int))
abbrev mX11_bestOffer : MI := (RX11, cX11_bestOffer, 6, (some .int))
abbrev mX11_clashes : MI := (RX11, cX11_clashes, 2, (some .int))
abbrev mX10_clashesAmong : MI := (RX10, cX10_clashesAmong, 4, (some .int))
abbrev mX11_breakFew : MI := (RX11, cX11_breakFew, 1, (some .int))
abbrev mX11_leastBreak : MI := (RX11, cX11_leastBreak, 7, (some .int))
abbrev mX11_isWithin : MI := (RX11, cX11_isWithin, 2, (some .boolean))
abbrev mX11_breakRued : MI := (RX11, cX11_breakRued, 1, (some .int))
abbrev mX11_rue : MI := (RX11, cX11_rue, 1, (some .int))
abbrev mX11_peaces : MI := (RX11, cX11_peaces, 4, (some .int))
abbrev mX11_fits : MI := (RX11, cX11_fits, 1, (some .int))
abbrev mX2_fitting : MI := (RX2, cX2_fitting, 3, (some .int))
abbrev mX11_fitAt : MI := (RX11, cX11_fitAt, 2, (some .int))
abbrev mX2_fittingAt : MI := (RX2, cX2_fittingAt, 4, (some .int))
abbrev mX11_odds : MI := (RX11, cX11_odds, 3, (some .long))
abbrev mX2_weightWith : MI := (RX2, cX2_weightWith, 5, (some .long))
abbrev mX2_whole : MI := (RX2, cX2_whole, 4, (some .long))
abbrev mX6_set : MI := (RX6, cX6_set, 8, none)
abbrev mX6_commonOf : MI := (RX6, cX6_commonOf, 11, (some .long))
abbrev mX6_part : MI := (RX6, cX6_part, 2, (some .long))
abbrev mX11_likeliest : MI := (RX11, cX11_likeliest, 1, (some .int))
abbrev mX2_heaviest : MI := (RX2, cX2_heaviest, 5, (some .int))
abbrev mX11_test : MI := (RX11, cX11_test, 1, (some .int))
abbrev mX2_bestAsked : MI := (RX2, cX2_bestAsked, 5, (some .int))
abbrev mX2_leftAtMost : MI := (RX2, cX2_leftAtMost, 4, (some .int))
abbrev mX11_testLeaves : MI := (RX11, cX11_testLeaves, 2, (some .int))
abbrev mX11_brown : MI := (RX11, cX11_brown, 4, (some .long))
abbrev mX2_weightOfBrown : MI := (RX2, cX2_weightOfBrown, 7, (some .long))
abbrev mX11_judge : MI := (RX11, cX11_judge, 3, (some .int))
abbrev mX11_snaps : MI := (RX11, cX11_snaps, 3, (some .int))
abbrev mX0_playTurns : MI := (RX0, cX0_playTurns, 5, none)
abbrev mX0_winningSnap : MI := (RX0, cX0_winningSnap, 3, (some .int))
abbrev mX0_wins : MI := (RX0, cX0_wins, 2, (some .boolean))
abbrev mX11_snapsBy : MI := (RX11, cX11_snapsBy, 4, (some .int))
abbrev mX11_blows : MI := (RX11, cX11_blows, 5, (some .int))
abbrev mX11_gain : MI := (RX11, cX11_gain, 3, (some .int))
abbrev mX11_rests : MI := (RX11, cX11_rests, 4, (some .int))
abbrev mX11_isRest : MI := (RX11, cX11_isRest, 3, (some .boolean))
abbrev mX11_rest : MI := (RX11, cX11_rest, 3, (some .int))
abbrev mX11_bearOdds : MI := (RX11, cX11_bearOdds, 9, (some .long))
abbrev mX11_chanceOf : MI := (RX11, cX11_chanceOf, 4, (some .long))
abbrev mX10_clerksInHundred : MI := (RX10, cX10_clerksInHundred, 1, (some .int))
abbrev mX11_power : MI := (RX11, cX11_power, 6, (some .long))
abbrev mX11_mean : MI := (RX11, cX11_mean, 8, (some .long))
abbrev mX11_years : MI := (RX11, cX11_years, 4, (some .int))
abbrev mX1_begin : MI := (RX1, cX1_begin, 2, none)
abbrev mX1_passYear : MI := (RX1, cX1_passYear, 6, none)
abbrev mX1_draw : MI := (RX1, cX1_draw, 1, (some .int))
abbrev mX11_fallsBy : MI := (RX11, cX11_fallsBy, 5, (some .int))
abbrev mX11_year : MI := (RX11, cX11_year, 2, (some .int))
abbrev mX7_yearsGone : MI := (RX7, cX7_yearsGone, 1, (some .int))
abbrev mX4_keep : MI := (RX4, cX4_keep, 2, none)
abbrev mX7_copyTo : MI := (RX7, cX7_copyTo, 3, none)
abbrev mX7_passYear : MI := (RX7, cX7_passYear, 1, none)
abbrev mX11_snap : MI := (RX11, cX11_snap, 2, (some .boolean))
abbrev mX7_setSnapped : MI := (RX7, cX7_setSnapped, 2, none)
abbrev mX11_spin : MI := (RX11, cX11_spin, 2, (some .int))
abbrev mX11_darn : MI := (RX11, cX11_darn, 2, (some .int))
abbrev mX7_age : MI := (RX7, cX7_age, 2, (some .int))
abbrev mX7_renew : MI := (RX7, cX7_renew, 2, none)
abbrev mX11_undo : MI := (RX11, cX11_undo, 1, (some .boolean))
abbrev mX4_takeBack : MI := (RX4, cX4_takeBack, 2, none)
abbrev mX7_copyFrom : MI := (RX7, cX7_copyFrom, 3, none)
abbrev mX11_image : MI := (RX11, cX11_image, 1, (some .int))
abbrev mX4_takeImage : MI := (RX4, cX4_takeImage, 2, none)
abbrev mX11_back : MI := (RX11, cX11_back, 2, (some .boolean))
abbrev mX4_goBack : MI := (RX4, cX4_goBack, 3, none)
abbrev mX11_size : MI := (RX11, cX11_size, 2, (some .int))
abbrev mX11_trouble : MI := (RX11, cX11_trouble, 1, (some .int))
abbrev mX11_led : MI := (RX11, cX11_led, 4, (some .int))
abbrev mX13_init : MI := (RX13, cX13_init, 1, none)
abbrev mX13_thrown : MI := (RX13, cX13_thrown, 1, (some .int))
abbrev mX13_feed : MI := (RX13, cX13_feed, 8, (some .int))
abbrev mX13_web : MI := (RX13, cX13_web, 3, (some .int))
abbrev mX13_refused : MI := (RX13, cX13_refused, 2, (some .int))
abbrev mX12_init : MI := (RX12, cX12_init, 1, none)
abbrev mX13_goesOn : MI := (RX13, cX13_goesOn, 3, none)
abbrev mX13_byteAt : MI := (RX13, cX13_byteAt, 2, (some .int))
abbrev mX13_isLetter : MI := (RX13, cX13_isLetter, 1, (some .boolean))
abbrev mX13_isDigit : MI := (RX13, cX13_isDigit, 1, (some .boolean))
abbrev mX13_readAll : MI := (RX13, cX13_readAll, 2, none)
abbrev mX13_readLine : MI := (RX13, cX13_readLine, 1, none)
abbrev mX13_isWord : MI := (RX13, cX13_isWord, 2, (some .boolean))
abbrev mX13_packed : MI := (RX13, cX13_packed, 4, (some .long))
abbrev mX13_readWeb : MI := (RX13, cX13_readWeb, 3, none)
abbrev mX13_flaw : MI := (RX13, cX13_flaw, 2, none)
abbrev mX13_readPart : MI := (RX13, cX13_readPart, 4, (some .int))
abbrev mX13_readWhole : MI := (RX13, cX13_readWhole, 4, (some .int))
abbrev mX13_in : MI := (RX13, cX13_in, 3, (some .boolean))
abbrev mX13_readNail : MI := (RX13, cX13_readNail, 3, none)
abbrev mX13_lineBegins : MI := (RX13, cX13_lineBegins, 3, none)
abbrev mX13_readFresh : MI := (RX13, cX13_readFresh, 3, (some .long))
abbrev mX13_isName : MI := (RX13, cX13_isName, 1, (some .boolean))
abbrev mX12_find : MI := (RX12, cX12_find, 4, (some .int))
abbrev mX13_names : MI := (RX13, cX13_names, 5, none)
abbrev mX13_readThread : MI := (RX13, cX13_readThread, 9, none)
abbrev mX13_readNails : MI := (RX13, cX13_readNails, 2, (some .int))
abbrev mX13_readKnown : MI := (RX13, cX13_readKnown, 3, (some .int))
abbrev mX13_knownOne : MI := (RX13, cX13_knownOne, 3, (some .int))
abbrev mX13_readClash : MI := (RX13, cX13_readClash, 3, none)
abbrev mX13_bit : MI := (RX13, cX13_bit, 2, (some .boolean))
abbrev mX13_readLoad : MI := (RX13, cX13_readLoad, 4, none)
abbrev mX13_readOffer : MI := (RX13, cX13_readOffer, 5, none)
abbrev mX13_readUnsure : MI := (RX13, cX13_readUnsure, 2, none)
abbrev mX12_unsureOf : MI := (RX12, cX12_unsureOf, 3, (some .int))
abbrev mX13_readHair : MI := (RX13, cX13_readHair, 4, none)
abbrev mX13_eatsSemicolon : MI := (RX13, cX13_eatsSemicolon, 2, (some .boolean))
abbrev mX13_good : MI := (RX13, cX13_good, 2, (some .int))
abbrev mX13_fault : MI := (RX13, cX13_fault, 1, (some .int))
abbrev mX13_where : MI := (RX13, cX13_where, 1, (some .int))
abbrev mX13_thread : MI := (RX13, cX13_thread, 3, (some .int))
abbrev mX13_isThread : MI := (RX13, cX13_isThread, 2, (some .boolean))
abbrev mX13_works : MI := (RX13, cX13_works, 2, none)
abbrev mX13_kindOf : MI := (RX13, cX13_kindOf, 2, (some .int))
abbrev mX13_oneOf : MI := (RX13, cX13_oneOf, 2, (some .int))
abbrev mX13_twoOf : MI := (RX13, cX13_twoOf, 2, (some .int))
abbrev mX13_strongOf : MI := (RX13, cX13_strongOf, 6, (some .int))
abbrev mX13_stepOf : MI := (RX13, cX13_stepOf, 2, (some .int))
abbrev mX13_foesOf : MI := (RX13, cX13_foesOf, 2, (some .int))
abbrev mX13_nail : MI := (RX13, cX13_nail, 6, (some .int))
abbrev mX13_isNail : MI := (RX13, cX13_isNail, 2, (some .boolean))
abbrev mX13_lays : MI := (RX13, cX13_lays, 2, none)
abbrev mX13_laysWorked : MI := (RX13, cX13_laysWorked, 3, none)
abbrev mX13_edge : MI := (RX13, cX13_edge, 4, none)
abbrev mX13_strong : MI := (RX13, cX13_strong, 4, (some .int))
abbrev mX13_refusesYears : MI := (RX13, cX13_refusesYears, 3, (some .int))
abbrev mX13_breaksIn : MI := (RX13, cX13_breaksIn, 3, (some .int))
abbrev mX13_holding : MI := (RX13, cX13_holding, 3, (some .int))
abbrev mX13_held : MI := (RX13, cX13_held, 3, (some .int))
abbrev mX13_strongest : MI := (RX13, cX13_strongest, 6, (some .int))
abbrev mX13_bears : MI := (RX13, cX13_bears, 5, (some .int))
abbrev mX13_areTwo : MI := (RX13, cX13_areTwo, 3, (some .boolean))
abbrev mX13_borneBetween : MI := (RX13, cX13_borneBetween, 6, (some .int))
abbrev mX13_crossing : MI := (RX13, cX13_crossing, 5, (some .int))
abbrev mX13_isCrossing : MI := (RX13, cX13_isCrossing, 3, (some .boolean))
abbrev mX13_cut : MI := (RX13, cX13_cut, 10, (some .int))
abbrev mX13_bits : MI := (RX13, cX13_bits, 3, (some .int))
abbrev mX13_vital : MI := (RX13, cX13_vital, 9, (some .int))
abbrev mX13_needed : MI := (RX13, cX13_needed, 8, (some .int))
abbrev mX13_weakest : MI := (RX13, cX13_weakest, 8, (some .int))
abbrev mX13_apart : MI := (RX13, cX13_apart, 9, (some .int))
abbrev mX13_parts : MI := (RX13, cX13_parts, 3, (some .int))
abbrev mX13_partsBut : MI := (RX13, cX13_partsBut, 5, (some .int))
abbrev mX13_together : MI := (RX13, cX13_together, 6, (some .int))
abbrev mX13_bridges : MI := (RX13, cX13_bridges, 5, (some .int))
abbrev mX13_borne : MI := (RX13, cX13_borne, 3, (some .int))
abbrev mX13_borneAll : MI := (RX13, cX13_borneAll, 3, (some .int))
abbrev mX13_fallsIn : MI := (RX13, cX13_fallsIn, 3, (some .int))
abbrev mX13_isLoad : MI := (RX13, cX13_isLoad, 2, (some .boolean))
abbrev mX13_spare : MI := (RX13, cX13_spare, 2, (some .int))
abbrev mX13_lost : MI := (RX13, cX13_lost, 3, (some .int))
abbrev mX13_mend : MI := (RX13, cX13_mend, 1, (some .int))
abbrev mX13_mending : MI := (RX13, cX13_mending, 3, (some .int))
abbrev mX13_costOf : MI := (RX13, cX13_costOf, 4, (some .int))
abbrev mX13_laysOffers : MI := (RX13, cX13_laysOffers, 3, none)
abbrev mX13_mendCost : MI := (RX13, cX13_mendCost, 2, (some .int))
abbrev mX13_bestOffer : MI := (RX13, cX13_bestOffer, 5, (some .int))
abbrev mX13_clashes : MI := (RX13, cX13_clashes, 3, (some .int))
abbrev mX13_clashing : MI := (RX13, cX13_clashing, 4, (some .int))
abbrev mX13_breakFew : MI := (RX13, cX13_breakFew, 1, (some .int))
abbrev mX13_breaking : MI := (RX13, cX13_breaking, 5, (some .int))
abbrev mX13_strengthOf : MI := (RX13, cX13_strengthOf, 4, (some .int))
abbrev mX13_breakRued : MI := (RX13, cX13_breakRued, 1, (some .int))
abbrev mX13_rue : MI := (RX13, cX13_rue, 1, (some .int))
abbrev mX13_peaces : MI := (RX13, cX13_peaces, 4, (some .int))
abbrev mX13_fits : MI := (RX13, cX13_fits, 1, (some .int))
abbrev mX13_fitting : MI := (RX13, cX13_fitting, 5, (some .int))
abbrev mX13_sets : MI := (RX13, cX13_sets, 1, (some .int))
abbrev mX13_weightOf : MI := (RX13, cX13_weightOf, 5, (some .long))
abbrev mX13_isRight : MI := (RX13, cX13_isRight, 3, (some .boolean))
abbrev mX13_isLied : MI := (RX13, cX13_isLied, 4, (some .boolean))
abbrev mX13_fitAt : MI := (RX13, cX13_fitAt, 3, (some .int))
abbrev mX13_odds : MI := (RX13, cX13_odds, 8, (some .long))
abbrev mX13_fraction : MI := (RX13, cX13_fraction, 6, (some .long))
abbrev mX13_common : MI := (RX13, cX13_common, 10, (some .long))
abbrev mX13_likeliest : MI := (RX13, cX13_likeliest, 5, (some .int))
abbrev mX13_test : MI := (RX13, cX13_test, 1, (some .int))
abbrev mX13_tests : MI := (RX13, cX13_tests, 4, (some .int))
abbrev mX13_testLeaves : MI := (RX13, cX13_testLeaves, 1, (some .int))
abbrev mX13_brown : MI := (RX13, cX13_brown, 9, (some .long))
abbrev mX13_isLiedNow : MI := (RX13, cX13_isLiedNow, 3, (some .boolean))
abbrev mX13_judge : MI := (RX13, cX13_judge, 2, (some .int))
abbrev mX13_snaps : MI := (RX13, cX13_snaps, 3, (some .int))
abbrev mX13_snapping : MI := (RX13, cX13_snapping, 6, none)
abbrev mX13_snapsBy : MI := (RX13, cX13_snapsBy, 5, (some .int))
abbrev mX13_blows : MI := (RX13, cX13_blows, 6, (some .int))
abbrev mX13_refusesWeb : MI := (RX13, cX13_refusesWeb, 2, (some .int))
abbrev mX13_blown : MI := (RX13, cX13_blown, 3, (some .int))
abbrev mX13_rests : MI := (RX13, cX13_rests, 5, (some .int))
abbrev mX13_isRest : MI := (RX13, cX13_isRest, 4, (some .boolean))
abbrev mX13_rest : MI := (RX13, cX13_rest, 4, (some .int))
abbrev mX13_bearOdds : MI := (RX13, cX13_bearOdds, 11, (some .long))
abbrev mX13_partOf : MI := (RX13, cX13_partOf, 6, (some .long))
abbrev mX13_mean : MI := (RX13, cX13_mean, 10, (some .long))
abbrev mX13_years : MI := (RX13, cX13_years, 5, (some .int))
abbrev mX13_refusesSeed : MI := (RX13, cX13_refusesSeed, 4, (some .int))
abbrev mX13_clerksYear : MI := (RX13, cX13_clerksYear, 3, none)
abbrev mX13_fallsBy : MI := (RX13, cX13_fallsBy, 6, (some .int))
abbrev mX13_year : MI := (RX13, cX13_year, 2, (some .int))
abbrev mX13_remembers : MI := (RX13, cX13_remembers, 2, none)
abbrev mX13_snap : MI := (RX13, cX13_snap, 2, (some .boolean))
abbrev mX13_denied : MI := (RX13, cX13_denied, 2, (some .boolean))
abbrev mX13_granted : MI := (RX13, cX13_granted, 1, (some .boolean))
abbrev mX13_spin : MI := (RX13, cX13_spin, 3, (some .int))
abbrev mX13_darn : MI := (RX13, cX13_darn, 2, (some .int))
abbrev mX13_undo : MI := (RX13, cX13_undo, 2, (some .boolean))
abbrev mX13_image : MI := (RX13, cX13_image, 2, (some .int))
abbrev mX13_back : MI := (RX13, cX13_back, 3, (some .boolean))
abbrev mX13_led : MI := (RX13, cX13_led, 4, (some .int))
abbrev mX13_size : MI := (RX13, cX13_size, 2, (some .int))
abbrev mX13_trouble : MI := (RX13, cX13_trouble, 1, (some .int))
theorem ssX0_ofOffers : Cond.static yX0_ofOffers ∈ TW ∧ Cond.initialized yX0_ofOffers.cls ∈ TW ∧ Cond.code yX0_ofOffers mX0_ofOffers.2.1 mX0_ofOffers.2.2.1 mX0_ofOffers.2.2.2 ∈ TW ∧ (yX0_ofOffers.cls ≠ "java/lang/invoke/MethodHandle" ∧ yX0_ofOffers.cls ≠ "java/lang/invoke/VarHandle" ∧ (parseMethodDescriptor yX0_ofOffers.desc).map (fun d => d.parameters.length) = some 1) ∧ mX0_ofOffers.2.2.1 ≤ 19 := ⟨TW_at 957 (by decide +kernel) (by decide +kernel), TW_at 121 (by decide +kernel) (by decide +kernel), TW_at 958 (by decide +kernel) (by decide +kernel), by decide +kernel, by decide⟩
theorem mmX0_arrange : Cond.instanceMethod yX0_arrange ∈ TW ∧ Cond.selects (clR 0) yX0_arrange yX0_arrange ∈ TW ∧ Cond.initialized (clR 0) ∈ TW ∧ Cond.code yX0_arrange mX0_arrange.2.1 mX0_arrange.2.2.1 mX0_arrange.2.2.2 ∈ TW ∧ (yX0_arrange.cls = clR 0 ∧ yX0_arrange.cls ≠ "java/lang/invoke/MethodHandle" ∧ yX0_arrange.cls ≠ "java/lang/invoke/VarHandle" ∧ (parseMethodDescriptor yX0_arrange.desc).map (fun d => d.parameters.length) = some 2) ∧ mX0_arrange.2.2.1 ≤ 19 ∧ 0 < 14 := ⟨TW_at 779 (by decide +kernel) (by decide +kernel), TW_at 780 (by decide +kernel) (by decide +kernel), TW_at 121 (by decide +kernel) (by decide +kernel), TW_at 781 (by decide +kernel) (by decide +kernel), by decide +kernel, by decide, by decide⟩
theorem mmX0_strengthen : Cond.instanceMethod yX0_strengthen ∈ TW ∧ Cond.selects (clR 0) yX0_strengthen yX0_strengthen ∈ TW ∧ Cond.initialized (clR 0) ∈ TW ∧ Cond.code yX0_strengthen mX0_strengthen.2.1 mX0_strengthen.2.2.1 mX0_strengthen.2.2.2 ∈ TW ∧ (yX0_strengthen.cls = clR 0 ∧ yX0_strengthen.cls ≠ "java/lang/invoke/MethodHandle" ∧ yX0_strengthen.cls ≠ "java/lang/invoke/VarHandle" ∧ (parseMethodDescriptor yX0_strengthen.desc).map (fun d => d.parameters.length) = some 2) ∧ mX0_strengthen.2.2.1 ≤ 19 ∧ 0 < 14 := ⟨TW_at 791 (by decide +kernel) (by decide +kernel), TW_at 792 (by decide +kernel) (by decide +kernel), TW_at 121 (by decide +kernel) (by decide +kernel), TW_at 793 (by decide +kernel) (by decide +kernel), by decide +kernel, by decide, by decide⟩
theorem mmX0_fillSums : Cond.instanceMethod yX0_fillSums ∈ TW ∧ Cond.selects (clR 0) yX0_fillSums yX0_fillSums ∈ TW ∧ Cond.initialized (clR 0) ∈ TW ∧ Cond.code yX0_fillSums mX0_fillSums.2.1 mX0_fillSums.2.2.1 mX0_fillSums.2.2.2 ∈ TW ∧ (yX0_fillSums.cls = clR 0 ∧ yX0_fillSums.cls ≠ "java/lang/invoke/MethodHandle" ∧ yX0_fillSums.cls ≠ "java/lang/invoke/VarHandle" ∧ (parseMethodDescriptor yX0_fillSums.desc).map (fun d => d.parameters.length) = some 3) ∧ mX0_fillSums.2.2.1 ≤ 19 ∧ 0 < 14 := ⟨TW_at 788 (by decide +kernel) (by decide +kernel), TW_at 26 (by decide +kernel) (by decide +kernel), TW_at 121 (by decide +kernel) (by decide +kernel), TW_at 789 (by decide +kernel) (by decide +kernel), by decide +kernel, by decide, by decide⟩
theorem mmX0_sumOf : Cond.instanceMethod yX0_sumOf ∈ TW ∧ Cond.selects (clR 0) yX0_sumOf yX0_sumOf ∈ TW ∧ Cond.initialized (clR 0) ∈ TW ∧ Cond.code yX0_sumOf mX0_sumOf.2.1 mX0_sumOf.2.2.1 mX0_sumOf.2.2.2 ∈ TW ∧ (yX0_sumOf.cls = clR 0 ∧ yX0_sumOf.cls ≠ "java/lang/invoke/MethodHandle" ∧ yX0_sumOf.cls ≠ "java/lang/invoke/VarHandle" ∧ (parseMethodDescriptor yX0_sumOf.desc).map (fun d => d.parameters.length) = some 1) ∧ mX0_sumOf.2.2.1 ≤ 19 ∧ 0 < 14 := ⟨TW_at 801 (by decide +kernel) (by decide +kernel), TW_at 802 (by decide +kernel) (by decide +kernel), TW_at 121 (by decide +kernel) (by decide +kernel), TW_at 803 (by decide +kernel) (by decide +kernel), by decide +kernel, by decide, by decide⟩
theorem mmX0_held : Cond.instanceMethod yX0_held ∈ TW ∧ Cond.selects (clR 0) yX0_held yX0_held ∈ TW ∧ Cond.initialized (clR 0) ∈ TW ∧ Cond.code yX0_held mX0_held.2.1 mX0_held.2.2.1 mX0_held.2.2.2 ∈ TW ∧ (yX0_held.cls = clR 0 ∧ yX0_held.cls ≠ "java/lang/invoke/MethodHandle" ∧ yX0_held.cls ≠ "java/lang/invoke/VarHandle" ∧ (parseMethodDescriptor yX0_held.desc).map (fun d => d.parameters.length) = some 0) ∧ mX0_held.2.2.1 ≤ 19 ∧ 0 < 14 := ⟨TW_at 824 (by decide +kernel) (by decide +kernel), TW_at 825 (by decide +kernel) (by decide +kernel), TW_at 121 (by decide +kernel) (by decide +kernel), TW_at 826 (by decide +kernel) (by decide +kernel), by decide +kernel, by decide, by decide⟩
theorem mmX0_heldAt : Cond.instanceMethod yX0_heldAt ∈ TW ∧ Cond.selects (clR 0) yX0_heldAt yX0_heldAt ∈ TW ∧ Cond.initialized (clR 0) ∈ TW ∧ Cond.code yX0_heldAt mX0_heldAt.2.1 mX0_heldAt.2.2.1 mX0_heldAt.2.2.2 ∈ TW ∧ (yX0_heldAt.cls = clR 0 ∧ yX0_heldAt.cls ≠ "java/lang/invoke/MethodHandle" ∧ yX0_heldAt.cls ≠ "java/lang/invoke/VarHandle" ∧ (parseMethodDescriptor yX0_heldAt.desc).map (fun d => d.parameters.length) = some 1) ∧ mX0_heldAt.2.2.1 ≤ 19 ∧ 0 < 14 := ⟨TW_at 797 (by decide +kernel) (by decide +kernel), TW_at 798 (by decide +kernel) (by decide +kernel), TW_at 121 (by decide +kernel) (by decide +kernel), TW_at 799 (by decide +kernel) (by decide +kernel), by decide +kernel, by decide, by decide⟩
theorem mmX0_part : Cond.instanceMethod yX0_part ∈ TW ∧ Cond.selects (clR 0) yX0_part yX0_part ∈ TW ∧ Cond.initialized (clR 0) ∈ TW ∧ Cond.code yX0_part mX0_part.2.1 mX0_part.2.2.1 mX0_part.2.2.2 ∈ TW ∧ (yX0_part.cls = clR 0 ∧ yX0_part.cls ≠ "java/lang/invoke/MethodHandle" ∧ yX0_part.cls ≠ "java/lang/invoke/VarHandle" ∧ (parseMethodDescriptor yX0_part.desc).map (fun d => d.parameters.length) = some 2) ∧ mX0_part.2.2.1 ≤ 19 ∧ 0 < 14 := ⟨TW_at 844 (by decide +kernel) (by decide +kernel), TW_at 845 (by decide +kernel) (by decide +kernel), TW_at 121 (by decide +kernel) (by decide +kernel), TW_at 846 (by decide +kernel) (by decide +kernel), by decide +kernel, by decide, by decide⟩
theorem mmX0_across : Cond.instanceMethod yX0_across ∈ TW ∧ Cond.selects (clR 0) yX0_across yX0_across ∈ TW ∧ Cond.initialized (clR 0) ∈ TW ∧ Cond.code yX0_across mX0_across.2.1 mX0_across.2.2.1 mX0_across.2.2.2 ∈ TW ∧ (yX0_across.cls = clR 0 ∧ yX0_across.cls ≠ "java/lang/invoke/MethodHandle" ∧ yX0_across.cls ≠ "java/lang/invoke/VarHandle" ∧ (parseMethodDescriptor yX0_across.desc).map (fun d => d.parameters.length) = some 1) ∧ mX0_across.2.2.1 ≤ 19 ∧ 0 < 14 := ⟨TW_at 850 (by decide +kernel) (by decide +kernel), TW_at 29 (by decide +kernel) (by decide +kernel), TW_at 121 (by decide +kernel) (by decide +kernel), TW_at 851 (by decide +kernel) (by decide +kernel), by decide +kernel, by decide, by decide⟩
theorem mmX0_borneBy : Cond.instanceMethod yX0_borneBy ∈ TW ∧ Cond.selects (clR 0) yX0_borneBy yX0_borneBy ∈ TW ∧ Cond.initialized (clR 0) ∈ TW ∧ Cond.code yX0_borneBy mX0_borneBy.2.1 mX0_borneBy.2.2.1 mX0_borneBy.2.2.2 ∈ TW ∧ (yX0_borneBy.cls = clR 0 ∧ yX0_borneBy.cls ≠ "java/lang/invoke/MethodHandle" ∧ yX0_borneBy.cls ≠ "java/lang/invoke/VarHandle" ∧ (parseMethodDescriptor yX0_borneBy.desc).map (fun d => d.parameters.length) = some 1) ∧ mX0_borneBy.2.2.1 ≤ 19 ∧ 0 < 14 := ⟨TW_at 854 (by decide +kernel) (by decide +kernel), TW_at 855 (by decide +kernel) (by decide +kernel), TW_at 121 (by decide +kernel) (by decide +kernel), TW_at 856 (by decide +kernel) (by decide +kernel), by decide +kernel, by decide, by decide⟩
theorem mmX0_between : Cond.instanceMethod yX0_between ∈ TW ∧ Cond.selects (clR 0) yX0_between yX0_between ∈ TW ∧ Cond.initialized (clR 0) ∈ TW ∧ Cond.code yX0_between mX0_between.2.1 mX0_between.2.2.1 mX0_between.2.2.2 ∈ TW ∧ (yX0_between.cls = clR 0 ∧ yX0_between.cls ≠ "java/lang/invoke/MethodHandle" ∧ yX0_between.cls ≠ "java/lang/invoke/VarHandle" ∧ (parseMethodDescriptor yX0_between.desc).map (fun d => d.parameters.length) = some 2) ∧ mX0_between.2.2.1 ≤ 19 ∧ 0 < 14 := ⟨TW_at 840 (by decide +kernel) (by decide +kernel), TW_at 841 (by decide +kernel) (by decide +kernel), TW_at 121 (by decide +kernel) (by decide +kernel), TW_at 842 (by decide +kernel) (by decide +kernel), by decide +kernel, by decide, by decide⟩
theorem mmX0_fewestCut : Cond.instanceMethod yX0_fewestCut ∈ TW ∧ Cond.selects (clR 0) yX0_fewestCut yX0_fewestCut ∈ TW ∧ Cond.initialized (clR 0) ∈ TW ∧ Cond.code yX0_fewestCut mX0_fewestCut.2.1 mX0_fewestCut.2.2.1 mX0_fewestCut.2.2.2 ∈ TW ∧ (yX0_fewestCut.cls = clR 0 ∧ yX0_fewestCut.cls ≠ "java/lang/invoke/MethodHandle" ∧ yX0_fewestCut.cls ≠ "java/lang/invoke/VarHandle" ∧ (parseMethodDescriptor yX0_fewestCut.desc).map (fun d => d.parameters.length) = some 0) ∧ mX0_fewestCut.2.2.1 ≤ 19 ∧ 0 < 14 := ⟨TW_at 865 (by decide +kernel) (by decide +kernel), TW_at 866 (by decide +kernel) (by decide +kernel), TW_at 121 (by decide +kernel) (by decide +kernel), TW_at 867 (by decide +kernel) (by decide +kernel), by decide +kernel, by decide, by decide⟩
theorem ssX0_isLess : Cond.static yX0_isLess ∈ TW ∧ Cond.initialized yX0_isLess.cls ∈ TW ∧ Cond.code yX0_isLess mX0_isLess.2.1 mX0_isLess.2.2.1 mX0_isLess.2.2.2 ∈ TW ∧ (yX0_isLess.cls ≠ "java/lang/invoke/MethodHandle" ∧ yX0_isLess.cls ≠ "java/lang/invoke/VarHandle" ∧ (parseMethodDescriptor yX0_isLess.desc).map (fun d => d.parameters.length) = some 2) ∧ mX0_isLess.2.2.1 ≤ 19 := ⟨TW_at 869 (by decide +kernel) (by decide +kernel), TW_at 121 (by decide +kernel) (by decide +kernel), TW_at 870 (by decide +kernel) (by decide +kernel), by decide +kernel, by decide⟩
theorem mmX0_reachedFrom : Cond.instanceMethod yX0_reachedFrom ∈ TW ∧ Cond.selects (clR 0) yX0_reachedFrom yX0_reachedFrom ∈ TW ∧ Cond.initialized (clR 0) ∈ TW ∧ Cond.code yX0_reachedFrom mX0_reachedFrom.2.1 mX0_reachedFrom.2.2.1 mX0_reachedFrom.2.2.2 ∈ TW ∧ (yX0_reachedFrom.cls = clR 0 ∧ yX0_reachedFrom.cls ≠ "java/lang/invoke/MethodHandle" ∧ yX0_reachedFrom.cls ≠ "java/lang/invoke/VarHandle" ∧ (parseMethodDescriptor yX0_reachedFrom.desc).map (fun d => d.parameters.length) = some 2) ∧ mX0_reachedFrom.2.2.1 ≤ 19 ∧ 0 < 14 := ⟨TW_at 901 (by decide +kernel) (by decide +kernel), TW_at 30 (by decide +kernel) (by decide +kernel), TW_at 121 (by decide +kernel) (by decide +kernel), TW_at 902 (by decide +kernel) (by decide +kernel), by decide +kernel, by decide, by decide⟩
theorem mmX0_steps : Cond.instanceMethod yX0_steps ∈ TW ∧ Cond.selects (clR 0) yX0_steps yX0_steps ∈ TW ∧ Cond.initialized (clR 0) ∈ TW ∧ Cond.code yX0_steps mX0_steps.2.1 mX0_steps.2.2.1 mX0_steps.2.2.2 ∈ TW ∧ (yX0_steps.cls = clR 0 ∧ yX0_steps.cls ≠ "java/lang/invoke/MethodHandle" ∧ yX0_steps.cls ≠ "java/lang/invoke/VarHandle" ∧ (parseMethodDescriptor yX0_steps.desc).map (fun d => d.parameters.length) = some 2) ∧ mX0_steps.2.2.1 ≤ 19 ∧ 0 < 14 := ⟨TW_at 896 (by decide +kernel) (by decide +kernel), TW_at 897 (by decide +kernel) (by decide +kernel), TW_at 121 (by decide +kernel) (by decide +kernel), TW_at 898 (by decide +kernel) (by decide +kernel), by decide +kernel, by decide, by decide⟩
theorem mmX0_pieces : Cond.instanceMethod yX0_pieces ∈ TW ∧ Cond.selects (clR 0) yX0_pieces yX0_pieces ∈ TW ∧ Cond.initialized (clR 0) ∈ TW ∧ Cond.code yX0_pieces mX0_pieces.2.1 mX0_pieces.2.2.1 mX0_pieces.2.2.2 ∈ TW ∧ (yX0_pieces.cls = clR 0 ∧ yX0_pieces.cls ≠ "java/lang/invoke/MethodHandle" ∧ yX0_pieces.cls ≠ "java/lang/invoke/VarHandle" ∧ (parseMethodDescriptor yX0_pieces.desc).map (fun d => d.parameters.length) = some 1) ∧ mX0_pieces.2.2.1 ≤ 19 ∧ 0 < 14 := ⟨TW_at 908 (by decide +kernel) (by decide +kernel), TW_at 909 (by decide +kernel) (by decide +kernel), TW_at 121 (by decide +kernel) (by decide +kernel), TW_at 910 (by decide +kernel) (by decide +kernel), by decide +kernel, by decide, by decide⟩
theorem mmX0_pieceOf : Cond.instanceMethod yX0_pieceOf ∈ TW ∧ Cond.selects (clR 0) yX0_pieceOf yX0_pieceOf ∈ TW ∧ Cond.initialized (clR 0) ∈ TW ∧ Cond.code yX0_pieceOf mX0_pieceOf.2.1 mX0_pieceOf.2.2.1 mX0_pieceOf.2.2.2 ∈ TW ∧ (yX0_pieceOf.cls = clR 0 ∧ yX0_pieceOf.cls ≠ "java/lang/invoke/MethodHandle" ∧ yX0_pieceOf.cls ≠ "java/lang/invoke/VarHandle" ∧ (parseMethodDescriptor yX0_pieceOf.desc).map (fun d => d.parameters.length) = some 2) ∧ mX0_pieceOf.2.2.1 ≤ 19 ∧ 0 < 14 := ⟨TW_at 913 (by decide +kernel) (by decide +kernel), TW_at 31 (by decide +kernel) (by decide +kernel), TW_at 121 (by decide +kernel) (by decide +kernel), TW_at 914 (by decide +kernel) (by decide +kernel), by decide +kernel, by decide, by decide⟩
theorem mmX0_playTurns : Cond.instanceMethod yX0_playTurns ∈ TW ∧ Cond.selects (clR 0) yX0_playTurns yX0_playTurns ∈ TW ∧ Cond.initialized (clR 0) ∈ TW ∧ Cond.code yX0_playTurns mX0_playTurns.2.1 mX0_playTurns.2.2.1 mX0_playTurns.2.2.2 ∈ TW ∧ (yX0_playTurns.cls = clR 0 ∧ yX0_playTurns.cls ≠ "java/lang/invoke/MethodHandle" ∧ yX0_playTurns.cls ≠ "java/lang/invoke/VarHandle" ∧ (parseMethodDescriptor yX0_playTurns.desc).map (fun d => d.parameters.length) = some 2) ∧ mX0_playTurns.2.2.1 ≤ 19 ∧ 0 < 14 := ⟨TW_at 1086 (by decide +kernel) (by decide +kernel), TW_at 1087 (by decide +kernel) (by decide +kernel), TW_at 121 (by decide +kernel) (by decide +kernel), TW_at 1088 (by decide +kernel) (by decide +kernel), by decide +kernel, by decide, by decide⟩
theorem mmX0_wins : Cond.instanceMethod yX0_wins ∈ TW ∧ Cond.selects (clR 0) yX0_wins yX0_wins ∈ TW ∧ Cond.initialized (clR 0) ∈ TW ∧ Cond.code yX0_wins mX0_wins.2.1 mX0_wins.2.2.1 mX0_wins.2.2.2 ∈ TW ∧ (yX0_wins.cls = clR 0 ∧ yX0_wins.cls ≠ "java/lang/invoke/MethodHandle" ∧ yX0_wins.cls ≠ "java/lang/invoke/VarHandle" ∧ (parseMethodDescriptor yX0_wins.desc).map (fun d => d.parameters.length) = some 1) ∧ mX0_wins.2.2.1 ≤ 19 ∧ 0 < 14 := ⟨TW_at 1095 (by decide +kernel) (by decide +kernel), TW_at 1096 (by decide +kernel) (by decide +kernel), TW_at 121 (by decide +kernel) (by decide +kernel), TW_at 1097 (by decide +kernel) (by decide +kernel), by decide +kernel, by decide, by decide⟩
theorem mmX0_winningSnap : Cond.instanceMethod yX0_winningSnap ∈ TW ∧ Cond.selects (clR 0) yX0_winningSnap yX0_winningSnap ∈ TW ∧ Cond.initialized (clR 0) ∈ TW ∧ Cond.code yX0_winningSnap mX0_winningSnap.2.1 mX0_winningSnap.2.2.1 mX0_winningSnap.2.2.2 ∈ TW ∧ (yX0_winningSnap.cls = clR 0 ∧ yX0_winningSnap.cls ≠ "java/lang/invoke/MethodHandle" ∧ yX0_winningSnap.cls ≠ "java/lang/invoke/VarHandle" ∧ (parseMethodDescriptor yX0_winningSnap.desc).map (fun d => d.parameters.length) = some 1) ∧ mX0_winningSnap.2.2.1 ≤ 19 ∧ 0 < 14 := ⟨TW_at 1091 (by decide +kernel) (by decide +kernel), TW_at 1092 (by decide +kernel) (by decide +kernel), TW_at 121 (by decide +kernel) (by decide +kernel), TW_at 1093 (by decide +kernel) (by decide +kernel), by decide +kernel, by decide, by decide⟩
theorem mmX1_begin : Cond.instanceMethod yX1_begin ∈ TW ∧ Cond.selects (clR 1) yX1_begin yX1_begin ∈ TW ∧ Cond.initialized (clR 1) ∈ TW ∧ Cond.code yX1_begin mX1_begin.2.1 mX1_begin.2.2.1 mX1_begin.2.2.2 ∈ TW ∧ (yX1_begin.cls = clR 1 ∧ yX1_begin.cls ≠ "java/lang/invoke/MethodHandle" ∧ yX1_begin.cls ≠ "java/lang/invoke/VarHandle" ∧ (parseMethodDescriptor yX1_begin.desc).map (fun d => d.parameters.length) = some 1) ∧ mX1_begin.2.2.1 ≤ 19 ∧ 1 < 14 := ⟨TW_at 1148 (by decide +kernel) (by decide +kernel), TW_at 1149 (by decide +kernel) (by decide +kernel), TW_at 123 (by decide +kernel) (by decide +kernel), TW_at 1150 (by decide +kernel) (by decide +kernel), by decide +kernel, by decide, by decide⟩
theorem mmX1_passYear : Cond.instanceMethod yX1_passYear ∈ TW ∧ Cond.selects (clR 1) yX1_passYear yX1_passYear ∈ TW ∧ Cond.initialized (clR 1) ∈ TW ∧ Cond.code yX1_passYear mX1_passYear.2.1 mX1_passYear.2.2.1 mX1_passYear.2.2.2 ∈ TW ∧ (yX1_passYear.cls = clR 1 ∧ yX1_passYear.cls ≠ "java/lang/invoke/MethodHandle" ∧ yX1_passYear.cls ≠ "java/lang/invoke/VarHandle" ∧ (parseMethodDescriptor yX1_passYear.desc).map (fun d => d.parameters.length) = some 3) ∧ mX1_passYear.2.2.1 ≤ 19 ∧ 1 < 14 := ⟨TW_at 1152 (by decide +kernel) (by decide +kernel), TW_at 1153 (by decide +kernel) (by decide +kernel), TW_at 123 (by decide +kernel) (by decide +kernel), TW_at 1154 (by decide +kernel) (by decide +kernel), by decide +kernel, by decide, by decide⟩
theorem mmX1_draw : Cond.instanceMethod yX1_draw ∈ TW ∧ Cond.selects (clR 1) yX1_draw yX1_draw ∈ TW ∧ Cond.initialized (clR 1) ∈ TW ∧ Cond.code yX1_draw mX1_draw.2.1 mX1_draw.2.2.1 mX1_draw.2.2.2 ∈ TW ∧ (yX1_draw.cls = clR 1 ∧ yX1_draw.cls ≠ "java/lang/invoke/MethodHandle" ∧ yX1_draw.cls ≠ "java/lang/invoke/VarHandle" ∧ (parseMethodDescriptor yX1_draw.desc).map (fun d => d.parameters.length) = some 0) ∧ mX1_draw.2.2.1 ≤ 19 ∧ 1 < 14 := ⟨TW_at 1160 (by decide +kernel) (by decide +kernel), TW_at 39 (by decide +kernel) (by decide +kernel), TW_at 123 (by decide +kernel) (by decide +kernel), TW_at 1161 (by decide +kernel) (by decide +kernel), by decide +kernel, by decide, by decide⟩
theorem mmX2_weigh : Cond.instanceMethod yX2_weigh ∈ TW ∧ Cond.selects (clR 2) yX2_weigh yX2_weigh ∈ TW ∧ Cond.initialized (clR 2) ∈ TW ∧ Cond.code yX2_weigh mX2_weigh.2.1 mX2_weigh.2.2.1 mX2_weigh.2.2.2 ∈ TW ∧ (yX2_weigh.cls = clR 2 ∧ yX2_weigh.cls ≠ "java/lang/invoke/MethodHandle" ∧ yX2_weigh.cls ≠ "java/lang/invoke/VarHandle" ∧ (parseMethodDescriptor yX2_weigh.desc).map (fun d => d.parameters.length) = some 1) ∧ mX2_weigh.2.2.1 ≤ 19 ∧ 2 < 14 := ⟨TW_at 688 (by decide +kernel) (by decide +kernel), TW_at 689 (by decide +kernel) (by decide +kernel), TW_at 122 (by decide +kernel) (by decide +kernel), TW_at 690 (by decide +kernel) (by decide +kernel), by decide +kernel, by decide, by decide⟩
theorem ssX2_weightOf : Cond.static yX2_weightOf ∈ TW ∧ Cond.initialized yX2_weightOf.cls ∈ TW ∧ Cond.code yX2_weightOf mX2_weightOf.2.1 mX2_weightOf.2.2.1 mX2_weightOf.2.2.2 ∈ TW ∧ (yX2_weightOf.cls ≠ "java/lang/invoke/MethodHandle" ∧ yX2_weightOf.cls ≠ "java/lang/invoke/VarHandle" ∧ (parseMethodDescriptor yX2_weightOf.desc).map (fun d => d.parameters.length) = some 2) ∧ mX2_weightOf.2.2.1 ≤ 19 := ⟨TW_at 696 (by decide +kernel) (by decide +kernel), TW_at 122 (by decide +kernel) (by decide +kernel), TW_at 697 (by decide +kernel) (by decide +kernel), by decide +kernel, by decide⟩
theorem ssX2_isBrown : Cond.static yX2_isBrown ∈ TW ∧ Cond.initialized yX2_isBrown.cls ∈ TW ∧ Cond.code yX2_isBrown mX2_isBrown.2.1 mX2_isBrown.2.2.1 mX2_isBrown.2.2.2 ∈ TW ∧ (yX2_isBrown.cls ≠ "java/lang/invoke/MethodHandle" ∧ yX2_isBrown.cls ≠ "java/lang/invoke/VarHandle" ∧ (parseMethodDescriptor yX2_isBrown.desc).map (fun d => d.parameters.length) = some 4) ∧ mX2_isBrown.2.2.1 ≤ 19 := ⟨TW_at 704 (by decide +kernel) (by decide +kernel), TW_at 122 (by decide +kernel) (by decide +kernel), TW_at 705 (by decide +kernel) (by decide +kernel), by decide +kernel, by decide⟩
theorem ssX2_isLiedOn : Cond.static yX2_isLiedOn ∈ TW ∧ Cond.initialized yX2_isLiedOn.cls ∈ TW ∧ Cond.code yX2_isLiedOn mX2_isLiedOn.2.1 mX2_isLiedOn.2.2.1 mX2_isLiedOn.2.2.2 ∈ TW ∧ (yX2_isLiedOn.cls ≠ "java/lang/invoke/MethodHandle" ∧ yX2_isLiedOn.cls ≠ "java/lang/invoke/VarHandle" ∧ (parseMethodDescriptor yX2_isLiedOn.desc).map (fun d => d.parameters.length) = some 3) ∧ mX2_isLiedOn.2.2.1 ≤ 19 := ⟨TW_at 707 (by decide +kernel) (by decide +kernel), TW_at 122 (by decide +kernel) (by decide +kernel), TW_at 708 (by decide +kernel) (by decide +kernel), by decide +kernel, by decide⟩
theorem mmX2_fitting : Cond.instanceMethod yX2_fitting ∈ TW ∧ Cond.selects (clR 2) yX2_fitting yX2_fitting ∈ TW ∧ Cond.initialized (clR 2) ∈ TW ∧ Cond.code yX2_fitting mX2_fitting.2.1 mX2_fitting.2.2.1 mX2_fitting.2.2.2 ∈ TW ∧ (yX2_fitting.cls = clR 2 ∧ yX2_fitting.cls ≠ "java/lang/invoke/MethodHandle" ∧ yX2_fitting.cls ≠ "java/lang/invoke/VarHandle" ∧ (parseMethodDescriptor yX2_fitting.desc).map (fun d => d.parameters.length) = some 0) ∧ mX2_fitting.2.2.1 ≤ 19 ∧ 2 < 14 := ⟨TW_at 1005 (by decide +kernel) (by decide +kernel), TW_at 1006 (by decide +kernel) (by decide +kernel), TW_at 122 (by decide +kernel) (by decide +kernel), TW_at 1007 (by decide +kernel) (by decide +kernel), by decide +kernel, by decide, by decide⟩
theorem mmX2_fittingAt : Cond.instanceMethod yX2_fittingAt ∈ TW ∧ Cond.selects (clR 2) yX2_fittingAt yX2_fittingAt ∈ TW ∧ Cond.initialized (clR 2) ∈ TW ∧ Cond.code yX2_fittingAt mX2_fittingAt.2.1 mX2_fittingAt.2.2.1 mX2_fittingAt.2.2.2 ∈ TW ∧ (yX2_fittingAt.cls = clR 2 ∧ yX2_fittingAt.cls ≠ "java/lang/invoke/MethodHandle" ∧ yX2_fittingAt.cls ≠ "java/lang/invoke/VarHandle" ∧ (parseMethodDescriptor yX2_fittingAt.desc).map (fun d => d.parameters.length) = some 1) ∧ mX2_fittingAt.2.2.1 ≤ 19 ∧ 2 < 14 := ⟨TW_at 1013 (by decide +kernel) (by decide +kernel), TW_at 1014 (by decide +kernel) (by decide +kernel), TW_at 122 (by decide +kernel) (by decide +kernel), TW_at 1015 (by decide +kernel) (by decide +kernel), by decide +kernel, by decide, by decide⟩
theorem mmX2_whole : Cond.instanceMethod yX2_whole ∈ TW ∧ Cond.selects (clR 2) yX2_whole yX2_whole ∈ TW ∧ Cond.initialized (clR 2) ∈ TW ∧ Cond.code yX2_whole mX2_whole.2.1 mX2_whole.2.2.1 mX2_whole.2.2.2 ∈ TW ∧ (yX2_whole.cls = clR 2 ∧ yX2_whole.cls ≠ "java/lang/invoke/MethodHandle" ∧ yX2_whole.cls ≠ "java/lang/invoke/VarHandle" ∧ (parseMethodDescriptor yX2_whole.desc).map (fun d => d.parameters.length) = some 0) ∧ mX2_whole.2.2.1 ≤ 19 ∧ 2 < 14 := ⟨TW_at 1026 (by decide +kernel) (by decide +kernel), TW_at 1027 (by decide +kernel) (by decide +kernel), TW_at 122 (by decide +kernel) (by decide +kernel), TW_at 1028 (by decide +kernel) (by decide +kernel), by decide +kernel, by decide, by decide⟩
theorem mmX2_weightWith : Cond.instanceMethod yX2_weightWith ∈ TW ∧ Cond.selects (clR 2) yX2_weightWith yX2_weightWith ∈ TW ∧ Cond.initialized (clR 2) ∈ TW ∧ Cond.code yX2_weightWith mX2_weightWith.2.1 mX2_weightWith.2.2.1 mX2_weightWith.2.2.2 ∈ TW ∧ (yX2_weightWith.cls = clR 2 ∧ yX2_weightWith.cls ≠ "java/lang/invoke/MethodHandle" ∧ yX2_weightWith.cls ≠ "java/lang/invoke/VarHandle" ∧ (parseMethodDescriptor yX2_weightWith.desc).map (fun d => d.parameters.length) = some 1) ∧ mX2_weightWith.2.2.1 ≤ 19 ∧ 2 < 14 := ⟨TW_at 1022 (by decide +kernel) (by decide +kernel), TW_at 1023 (by decide +kernel) (by decide +kernel), TW_at 122 (by decide +kernel) (by decide +kernel), TW_at 1024 (by decide +kernel) (by decide +kernel), by decide +kernel, by decide, by decide⟩
theorem mmX2_weightOfBrown : Cond.instanceMethod yX2_weightOfBrown ∈ TW ∧ Cond.selects (clR 2) yX2_weightOfBrown yX2_weightOfBrown ∈ TW ∧ Cond.initialized (clR 2) ∈ TW ∧ Cond.code yX2_weightOfBrown mX2_weightOfBrown.2.1 mX2_weightOfBrown.2.2.1 mX2_weightOfBrown.2.2.2 ∈ TW ∧ (yX2_weightOfBrown.cls = clR 2 ∧ yX2_weightOfBrown.cls ≠ "java/lang/invoke/MethodHandle" ∧ yX2_weightOfBrown.cls ≠ "java/lang/invoke/VarHandle" ∧ (parseMethodDescriptor yX2_weightOfBrown.desc).map (fun d => d.parameters.length) = some 3) ∧ mX2_weightOfBrown.2.2.1 ≤ 19 ∧ 2 < 14 := ⟨TW_at 1072 (by decide +kernel) (by decide +kernel), TW_at 1073 (by decide +kernel) (by decide +kernel), TW_at 122 (by decide +kernel) (by decide +kernel), TW_at 1074 (by decide +kernel) (by decide +kernel), by decide +kernel, by decide, by decide⟩
theorem mmX2_heaviest : Cond.instanceMethod yX2_heaviest ∈ TW ∧ Cond.selects (clR 2) yX2_heaviest yX2_heaviest ∈ TW ∧ Cond.initialized (clR 2) ∈ TW ∧ Cond.code yX2_heaviest mX2_heaviest.2.1 mX2_heaviest.2.2.1 mX2_heaviest.2.2.2 ∈ TW ∧ (yX2_heaviest.cls = clR 2 ∧ yX2_heaviest.cls ≠ "java/lang/invoke/MethodHandle" ∧ yX2_heaviest.cls ≠ "java/lang/invoke/VarHandle" ∧ (parseMethodDescriptor yX2_heaviest.desc).map (fun d => d.parameters.length) = some 0) ∧ mX2_heaviest.2.2.1 ≤ 19 ∧ 2 < 14 := ⟨TW_at 1045 (by decide +kernel) (by decide +kernel), TW_at 1046 (by decide +kernel) (by decide +kernel), TW_at 122 (by decide +kernel) (by decide +kernel), TW_at 1047 (by decide +kernel) (by decide +kernel), by decide +kernel, by decide, by decide⟩
theorem mmX2_leftAtMost : Cond.instanceMethod yX2_leftAtMost ∈ TW ∧ Cond.selects (clR 2) yX2_leftAtMost yX2_leftAtMost ∈ TW ∧ Cond.initialized (clR 2) ∈ TW ∧ Cond.code yX2_leftAtMost mX2_leftAtMost.2.1 mX2_leftAtMost.2.2.1 mX2_leftAtMost.2.2.2 ∈ TW ∧ (yX2_leftAtMost.cls = clR 2 ∧ yX2_leftAtMost.cls ≠ "java/lang/invoke/MethodHandle" ∧ yX2_leftAtMost.cls ≠ "java/lang/invoke/VarHandle" ∧ (parseMethodDescriptor yX2_leftAtMost.desc).map (fun d => d.parameters.length) = some 1) ∧ mX2_leftAtMost.2.2.1 ≤ 19 ∧ 2 < 14 := ⟨TW_at 1058 (by decide +kernel) (by decide +kernel), TW_at 1059 (by decide +kernel) (by decide +kernel), TW_at 122 (by decide +kernel) (by decide +kernel), TW_at 1060 (by decide +kernel) (by decide +kernel), by decide +kernel, by decide, by decide⟩
theorem mmX2_bestAsked : Cond.instanceMethod yX2_bestAsked ∈ TW ∧ Cond.selects (clR 2) yX2_bestAsked yX2_bestAsked ∈ TW ∧ Cond.initialized (clR 2) ∈ TW ∧ Cond.code yX2_bestAsked mX2_bestAsked.2.1 mX2_bestAsked.2.2.1 mX2_bestAsked.2.2.2 ∈ TW ∧ (yX2_bestAsked.cls = clR 2 ∧ yX2_bestAsked.cls ≠ "java/lang/invoke/MethodHandle" ∧ yX2_bestAsked.cls ≠ "java/lang/invoke/VarHandle" ∧ (parseMethodDescriptor yX2_bestAsked.desc).map (fun d => d.parameters.length) = some 0) ∧ mX2_bestAsked.2.2.1 ≤ 19 ∧ 2 < 14 := ⟨TW_at 1053 (by decide +kernel) (by decide +kernel), TW_at 1054 (by decide +kernel) (by decide +kernel), TW_at 122 (by decide +kernel) (by decide +kernel), TW_at 1055 (by decide +kernel) (by decide +kernel), by decide +kernel, by decide, by decide⟩
theorem mmX3_clear : Cond.instanceMethod yX3_clear ∈ TW ∧ Cond.selects (clR 3) yX3_clear yX3_clear ∈ TW ∧ Cond.initialized (clR 3) ∈ TW ∧ Cond.code yX3_clear mX3_clear.2.1 mX3_clear.2.2.1 mX3_clear.2.2.2 ∈ TW ∧ (yX3_clear.cls = clR 3 ∧ yX3_clear.cls ≠ "java/lang/invoke/MethodHandle" ∧ yX3_clear.cls ≠ "java/lang/invoke/VarHandle" ∧ (parseMethodDescriptor yX3_clear.desc).map (fun d => d.parameters.length) = some 0) ∧ mX3_clear.2.2.1 ≤ 19 ∧ 3 < 14 := ⟨TW_at 459 (by decide +kernel) (by decide +kernel), TW_at 460 (by decide +kernel) (by decide +kernel), TW_at 115 (by decide +kernel) (by decide +kernel), TW_at 461 (by decide +kernel) (by decide +kernel), by decide +kernel, by decide, by decide⟩
theorem mmX3_add : Cond.instanceMethod yX3_add ∈ TW ∧ Cond.selects (clR 3) yX3_add yX3_add ∈ TW ∧ Cond.initialized (clR 3) ∈ TW ∧ Cond.code yX3_add mX3_add.2.1 mX3_add.2.2.1 mX3_add.2.2.2 ∈ TW ∧ (yX3_add.cls = clR 3 ∧ yX3_add.cls ≠ "java/lang/invoke/MethodHandle" ∧ yX3_add.cls ≠ "java/lang/invoke/VarHandle" ∧ (parseMethodDescriptor yX3_add.desc).map (fun d => d.parameters.length) = some 3) ∧ mX3_add.2.2.1 ≤ 19 ∧ 3 < 14 := ⟨TW_at 587 (by decide +kernel) (by decide +kernel), TW_at 588 (by decide +kernel) (by decide +kernel), TW_at 115 (by decide +kernel) (by decide +kernel), TW_at 589 (by decide +kernel) (by decide +kernel), by decide +kernel, by decide, by decide⟩
theorem mmX3_isTold : Cond.instanceMethod yX3_isTold ∈ TW ∧ Cond.selects (clR 3) yX3_isTold yX3_isTold ∈ TW ∧ Cond.initialized (clR 3) ∈ TW ∧ Cond.code yX3_isTold mX3_isTold.2.1 mX3_isTold.2.2.1 mX3_isTold.2.2.2 ∈ TW ∧ (yX3_isTold.cls = clR 3 ∧ yX3_isTold.cls ≠ "java/lang/invoke/MethodHandle" ∧ yX3_isTold.cls ≠ "java/lang/invoke/VarHandle" ∧ (parseMethodDescriptor yX3_isTold.desc).map (fun d => d.parameters.length) = some 1) ∧ mX3_isTold.2.2.1 ≤ 19 ∧ 3 < 14 := ⟨TW_at 583 (by decide +kernel) (by decide +kernel), TW_at 584 (by decide +kernel) (by decide +kernel), TW_at 115 (by decide +kernel) (by decide +kernel), TW_at 585 (by decide +kernel) (by decide +kernel), by decide +kernel, by decide, by decide⟩
theorem mmX3_numberOf : Cond.instanceMethod yX3_numberOf ∈ TW ∧ Cond.selects (clR 3) yX3_numberOf yX3_numberOf ∈ TW ∧ Cond.initialized (clR 3) ∈ TW ∧ Cond.code yX3_numberOf mX3_numberOf.2.1 mX3_numberOf.2.2.1 mX3_numberOf.2.2.2 ∈ TW ∧ (yX3_numberOf.cls = clR 3 ∧ yX3_numberOf.cls ≠ "java/lang/invoke/MethodHandle" ∧ yX3_numberOf.cls ≠ "java/lang/invoke/VarHandle" ∧ (parseMethodDescriptor yX3_numberOf.desc).map (fun d => d.parameters.length) = some 2) ∧ mX3_numberOf.2.2.1 ≤ 19 ∧ 3 < 14 := ⟨TW_at 603 (by decide +kernel) (by decide +kernel), TW_at 604 (by decide +kernel) (by decide +kernel), TW_at 115 (by decide +kernel) (by decide +kernel), TW_at 605 (by decide +kernel) (by decide +kernel), by decide +kernel, by decide, by decide⟩
theorem mmX4_forget : Cond.instanceMethod yX4_forget ∈ TW ∧ Cond.selects (clR 4) yX4_forget yX4_forget ∈ TW ∧ Cond.initialized (clR 4) ∈ TW ∧ Cond.code yX4_forget mX4_forget.2.1 mX4_forget.2.2.1 mX4_forget.2.2.2 ∈ TW ∧ (yX4_forget.cls = clR 4 ∧ yX4_forget.cls ≠ "java/lang/invoke/MethodHandle" ∧ yX4_forget.cls ≠ "java/lang/invoke/VarHandle" ∧ (parseMethodDescriptor yX4_forget.desc).map (fun d => d.parameters.length) = some 0) ∧ mX4_forget.2.2.1 ≤ 19 ∧ 4 < 14 := ⟨TW_at 684 (by decide +kernel) (by decide +kernel), TW_at 685 (by decide +kernel) (by decide +kernel), TW_at 120 (by decide +kernel) (by decide +kernel), TW_at 686 (by decide +kernel) (by decide +kernel), by decide +kernel, by decide, by decide⟩
theorem mmX4_keep : Cond.instanceMethod yX4_keep ∈ TW ∧ Cond.selects (clR 4) yX4_keep yX4_keep ∈ TW ∧ Cond.initialized (clR 4) ∈ TW ∧ Cond.code yX4_keep mX4_keep.2.1 mX4_keep.2.2.1 mX4_keep.2.2.2 ∈ TW ∧ (yX4_keep.cls = clR 4 ∧ yX4_keep.cls ≠ "java/lang/invoke/MethodHandle" ∧ yX4_keep.cls ≠ "java/lang/invoke/VarHandle" ∧ (parseMethodDescriptor yX4_keep.desc).map (fun d => d.parameters.length) = some 1) ∧ mX4_keep.2.2.1 ≤ 19 ∧ 4 < 14 := ⟨TW_at 1176 (by decide +kernel) (by decide +kernel), TW_at 1177 (by decide +kernel) (by decide +kernel), TW_at 120 (by decide +kernel) (by decide +kernel), TW_at 1178 (by decide +kernel) (by decide +kernel), by decide +kernel, by decide, by decide⟩
theorem mmX4_takeBack : Cond.instanceMethod yX4_takeBack ∈ TW ∧ Cond.selects (clR 4) yX4_takeBack yX4_takeBack ∈ TW ∧ Cond.initialized (clR 4) ∈ TW ∧ Cond.code yX4_takeBack mX4_takeBack.2.1 mX4_takeBack.2.2.1 mX4_takeBack.2.2.2 ∈ TW ∧ (yX4_takeBack.cls = clR 4 ∧ yX4_takeBack.cls ≠ "java/lang/invoke/MethodHandle" ∧ yX4_takeBack.cls ≠ "java/lang/invoke/VarHandle" ∧ (parseMethodDescriptor yX4_takeBack.desc).map (fun d => d.parameters.length) = some 1) ∧ mX4_takeBack.2.2.1 ≤ 19 ∧ 4 < 14 := ⟨TW_at 1219 (by decide +kernel) (by decide +kernel), TW_at 1220 (by decide +kernel) (by decide +kernel), TW_at 120 (by decide +kernel) (by decide +kernel), TW_at 1221 (by decide +kernel) (by decide +kernel), by decide +kernel, by decide, by decide⟩
theorem mmX4_takeImage : Cond.instanceMethod yX4_takeImage ∈ TW ∧ Cond.selects (clR 4) yX4_takeImage yX4_takeImage ∈ TW ∧ Cond.initialized (clR 4) ∈ TW ∧ Cond.code yX4_takeImage mX4_takeImage.2.1 mX4_takeImage.2.2.1 mX4_takeImage.2.2.2 ∈ TW ∧ (yX4_takeImage.cls = clR 4 ∧ yX4_takeImage.cls ≠ "java/lang/invoke/MethodHandle" ∧ yX4_takeImage.cls ≠ "java/lang/invoke/VarHandle" ∧ (parseMethodDescriptor yX4_takeImage.desc).map (fun d => d.parameters.length) = some 1) ∧ mX4_takeImage.2.2.1 ≤ 19 ∧ 4 < 14 := ⟨TW_at 1231 (by decide +kernel) (by decide +kernel), TW_at 1232 (by decide +kernel) (by decide +kernel), TW_at 120 (by decide +kernel) (by decide +kernel), TW_at 1233 (by decide +kernel) (by decide +kernel), by decide +kernel, by decide, by decide⟩
theorem mmX4_goBack : Cond.instanceMethod yX4_goBack ∈ TW ∧ Cond.selects (clR 4) yX4_goBack yX4_goBack ∈ TW ∧ Cond.initialized (clR 4) ∈ TW ∧ Cond.code yX4_goBack mX4_goBack.2.1 mX4_goBack.2.2.1 mX4_goBack.2.2.2 ∈ TW ∧ (yX4_goBack.cls = clR 4 ∧ yX4_goBack.cls ≠ "java/lang/invoke/MethodHandle" ∧ yX4_goBack.cls ≠ "java/lang/invoke/VarHandle" ∧ (parseMethodDescriptor yX4_goBack.desc).map (fun d => d.parameters.length) = some 2) ∧ mX4_goBack.2.2.1 ≤ 19 ∧ 4 < 14 := ⟨TW_at 1239 (by decide +kernel) (by decide +kernel), TW_at 1240 (by decide +kernel) (by decide +kernel), TW_at 120 (by decide +kernel) (by decide +kernel), TW_at 1241 (by decide +kernel) (by decide +kernel), by decide +kernel, by decide, by decide⟩
theorem mmX5_read : Cond.instanceMethod yX5_read ∈ TW ∧ Cond.selects (clR 5) yX5_read yX5_read ∈ TW ∧ Cond.initialized (clR 5) ∈ TW ∧ Cond.code yX5_read mX5_read.2.1 mX5_read.2.2.1 mX5_read.2.2.2 ∈ TW ∧ (yX5_read.cls = clR 5 ∧ yX5_read.cls ≠ "java/lang/invoke/MethodHandle" ∧ yX5_read.cls ≠ "java/lang/invoke/VarHandle" ∧ (parseMethodDescriptor yX5_read.desc).map (fun d => d.parameters.length) = some 1) ∧ mX5_read.2.2.1 ≤ 19 ∧ 5 < 14 := ⟨TW_at 447 (by decide +kernel) (by decide +kernel), TW_at 448 (by decide +kernel) (by decide +kernel), TW_at 114 (by decide +kernel) (by decide +kernel), TW_at 449 (by decide +kernel) (by decide +kernel), by decide +kernel, by decide, by decide⟩
theorem mmX5_fail : Cond.instanceMethod yX5_fail ∈ TW ∧ Cond.selects (clR 5) yX5_fail yX5_fail ∈ TW ∧ Cond.initialized (clR 5) ∈ TW ∧ Cond.code yX5_fail mX5_fail.2.1 mX5_fail.2.2.1 mX5_fail.2.2.2 ∈ TW ∧ (yX5_fail.cls = clR 5 ∧ yX5_fail.cls ≠ "java/lang/invoke/MethodHandle" ∧ yX5_fail.cls ≠ "java/lang/invoke/VarHandle" ∧ (parseMethodDescriptor yX5_fail.desc).map (fun d => d.parameters.length) = some 1) ∧ mX5_fail.2.2.1 ≤ 19 ∧ 5 < 14 := ⟨TW_at 550 (by decide +kernel) (by decide +kernel), TW_at 6 (by decide +kernel) (by decide +kernel), TW_at 114 (by decide +kernel) (by decide +kernel), TW_at 551 (by decide +kernel) (by decide +kernel), by decide +kernel, by decide, by decide⟩
theorem mmX5_goesOn : Cond.instanceMethod yX5_goesOn ∈ TW ∧ Cond.selects (clR 5) yX5_goesOn yX5_goesOn ∈ TW ∧ Cond.initialized (clR 5) ∈ TW ∧ Cond.code yX5_goesOn mX5_goesOn.2.1 mX5_goesOn.2.2.1 mX5_goesOn.2.2.2 ∈ TW ∧ (yX5_goesOn.cls = clR 5 ∧ yX5_goesOn.cls ≠ "java/lang/invoke/MethodHandle" ∧ yX5_goesOn.cls ≠ "java/lang/invoke/VarHandle" ∧ (parseMethodDescriptor yX5_goesOn.desc).map (fun d => d.parameters.length) = some 0) ∧ mX5_goesOn.2.2.1 ≤ 19 ∧ 5 < 14 := ⟨TW_at 655 (by decide +kernel) (by decide +kernel), TW_at 19 (by decide +kernel) (by decide +kernel), TW_at 114 (by decide +kernel) (by decide +kernel), TW_at 656 (by decide +kernel) (by decide +kernel), by decide +kernel, by decide, by decide⟩
theorem mmX5_readLine : Cond.instanceMethod yX5_readLine ∈ TW ∧ Cond.selects (clR 5) yX5_readLine yX5_readLine ∈ TW ∧ Cond.initialized (clR 5) ∈ TW ∧ Cond.code yX5_readLine mX5_readLine.2.1 mX5_readLine.2.2.1 mX5_readLine.2.2.2 ∈ TW ∧ (yX5_readLine.cls = clR 5 ∧ yX5_readLine.cls ≠ "java/lang/invoke/MethodHandle" ∧ yX5_readLine.cls ≠ "java/lang/invoke/VarHandle" ∧ (parseMethodDescriptor yX5_readLine.desc).map (fun d => d.parameters.length) = some 0) ∧ mX5_readLine.2.2.1 ≤ 19 ∧ 5 < 14 := ⟨TW_at 468 (by decide +kernel) (by decide +kernel), TW_at 2 (by decide +kernel) (by decide +kernel), TW_at 114 (by decide +kernel) (by decide +kernel), TW_at 469 (by decide +kernel) (by decide +kernel), by decide +kernel, by decide, by decide⟩
theorem mmX5_sortOfLine : Cond.instanceMethod yX5_sortOfLine ∈ TW ∧ Cond.selects (clR 5) yX5_sortOfLine yX5_sortOfLine ∈ TW ∧ Cond.initialized (clR 5) ∈ TW ∧ Cond.code yX5_sortOfLine mX5_sortOfLine.2.1 mX5_sortOfLine.2.2.1 mX5_sortOfLine.2.2.2 ∈ TW ∧ (yX5_sortOfLine.cls = clR 5 ∧ yX5_sortOfLine.cls ≠ "java/lang/invoke/MethodHandle" ∧ yX5_sortOfLine.cls ≠ "java/lang/invoke/VarHandle" ∧ (parseMethodDescriptor yX5_sortOfLine.desc).map (fun d => d.parameters.length) = some 0) ∧ mX5_sortOfLine.2.2.1 ≤ 19 ∧ 5 < 14 := ⟨TW_at 484 (by decide +kernel) (by decide +kernel), TW_at 5 (by decide +kernel) (by decide +kernel), TW_at 114 (by decide +kernel) (by decide +kernel), TW_at 485 (by decide +kernel) (by decide +kernel), by decide +kernel, by decide, by decide⟩
theorem mmX5_readBehind : Cond.instanceMethod yX5_readBehind ∈ TW ∧ Cond.selects (clR 5) yX5_readBehind yX5_readBehind ∈ TW ∧ Cond.initialized (clR 5) ∈ TW ∧ Cond.code yX5_readBehind mX5_readBehind.2.1 mX5_readBehind.2.2.1 mX5_readBehind.2.2.2 ∈ TW ∧ (yX5_readBehind.cls = clR 5 ∧ yX5_readBehind.cls ≠ "java/lang/invoke/MethodHandle" ∧ yX5_readBehind.cls ≠ "java/lang/invoke/VarHandle" ∧ (parseMethodDescriptor yX5_readBehind.desc).map (fun d => d.parameters.length) = some 1) ∧ mX5_readBehind.2.2.1 ≤ 19 ∧ 5 < 14 := ⟨TW_at 562 (by decide +kernel) (by decide +kernel), TW_at 8 (by decide +kernel) (by decide +kernel), TW_at 114 (by decide +kernel) (by decide +kernel), TW_at 563 (by decide +kernel) (by decide +kernel), by decide +kernel, by decide, by decide⟩
theorem mmX5_clearRow : Cond.instanceMethod yX5_clearRow ∈ TW ∧ Cond.selects (clR 5) yX5_clearRow yX5_clearRow ∈ TW ∧ Cond.initialized (clR 5) ∈ TW ∧ Cond.code yX5_clearRow mX5_clearRow.2.1 mX5_clearRow.2.2.1 mX5_clearRow.2.2.2 ∈ TW ∧ (yX5_clearRow.cls = clR 5 ∧ yX5_clearRow.cls ≠ "java/lang/invoke/MethodHandle" ∧ yX5_clearRow.cls ≠ "java/lang/invoke/VarHandle" ∧ (parseMethodDescriptor yX5_clearRow.desc).map (fun d => d.parameters.length) = some 0) ∧ mX5_clearRow.2.2.1 ≤ 19 ∧ 5 < 14 := ⟨TW_at 558 (by decide +kernel) (by decide +kernel), TW_at 7 (by decide +kernel) (by decide +kernel), TW_at 114 (by decide +kernel) (by decide +kernel), TW_at 559 (by decide +kernel) (by decide +kernel), by decide +kernel, by decide, by decide⟩
theorem mmX5_put : Cond.instanceMethod yX5_put ∈ TW ∧ Cond.selects (clR 5) yX5_put yX5_put ∈ TW ∧ Cond.initialized (clR 5) ∈ TW ∧ Cond.code yX5_put mX5_put.2.1 mX5_put.2.2.1 mX5_put.2.2.2 ∈ TW ∧ (yX5_put.cls = clR 5 ∧ yX5_put.cls ≠ "java/lang/invoke/MethodHandle" ∧ yX5_put.cls ≠ "java/lang/invoke/VarHandle" ∧ (parseMethodDescriptor yX5_put.desc).map (fun d => d.parameters.length) = some 1) ∧ mX5_put.2.2.1 ≤ 19 ∧ 5 < 14 := ⟨TW_at 575 (by decide +kernel) (by decide +kernel), TW_at 11 (by decide +kernel) (by decide +kernel), TW_at 114 (by decide +kernel) (by decide +kernel), TW_at 576 (by decide +kernel) (by decide +kernel), by decide +kernel, by decide, by decide⟩
theorem mmX5_takeWord : Cond.instanceMethod yX5_takeWord ∈ TW ∧ Cond.selects (clR 5) yX5_takeWord yX5_takeWord ∈ TW ∧ Cond.initialized (clR 5) ∈ TW ∧ Cond.code yX5_takeWord mX5_takeWord.2.1 mX5_takeWord.2.2.1 mX5_takeWord.2.2.2 ∈ TW ∧ (yX5_takeWord.cls = clR 5 ∧ yX5_takeWord.cls ≠ "java/lang/invoke/MethodHandle" ∧ yX5_takeWord.cls ≠ "java/lang/invoke/VarHandle" ∧ (parseMethodDescriptor yX5_takeWord.desc).map (fun d => d.parameters.length) = some 1) ∧ mX5_takeWord.2.2.1 ≤ 19 ∧ 5 < 14 := ⟨TW_at 567 (by decide +kernel) (by decide +kernel), TW_at 9 (by decide +kernel) (by decide +kernel), TW_at 114 (by decide +kernel) (by decide +kernel), TW_at 568 (by decide +kernel) (by decide +kernel), by decide +kernel, by decide, by decide⟩
theorem mmX5_takeWhole : Cond.instanceMethod yX5_takeWhole ∈ TW ∧ Cond.selects (clR 5) yX5_takeWhole yX5_takeWhole ∈ TW ∧ Cond.initialized (clR 5) ∈ TW ∧ Cond.code yX5_takeWhole mX5_takeWhole.2.1 mX5_takeWhole.2.2.1 mX5_takeWhole.2.2.2 ∈ TW ∧ (yX5_takeWhole.cls = clR 5 ∧ yX5_takeWhole.cls ≠ "java/lang/invoke/MethodHandle" ∧ yX5_takeWhole.cls ≠ "java/lang/invoke/VarHandle" ∧ (parseMethodDescriptor yX5_takeWhole.desc).map (fun d => d.parameters.length) = some 2) ∧ mX5_takeWhole.2.2.1 ≤ 19 ∧ 5 < 14 := ⟨TW_at 571 (by decide +kernel) (by decide +kernel), TW_at 10 (by decide +kernel) (by decide +kernel), TW_at 114 (by decide +kernel) (by decide +kernel), TW_at 572 (by decide +kernel) (by decide +kernel), by decide +kernel, by decide, by decide⟩
theorem mmX5_takeNewName : Cond.instanceMethod yX5_takeNewName ∈ TW ∧ Cond.selects (clR 5) yX5_takeNewName yX5_takeNewName ∈ TW ∧ Cond.initialized (clR 5) ∈ TW ∧ Cond.code yX5_takeNewName mX5_takeNewName.2.1 mX5_takeNewName.2.2.1 mX5_takeNewName.2.2.2 ∈ TW ∧ (yX5_takeNewName.cls = clR 5 ∧ yX5_takeNewName.cls ≠ "java/lang/invoke/MethodHandle" ∧ yX5_takeNewName.cls ≠ "java/lang/invoke/VarHandle" ∧ (parseMethodDescriptor yX5_takeNewName.desc).map (fun d => d.parameters.length) = some 1) ∧ mX5_takeNewName.2.2.1 ≤ 19 ∧ 5 < 14 := ⟨TW_at 580 (by decide +kernel) (by decide +kernel), TW_at 12 (by decide +kernel) (by decide +kernel), TW_at 114 (by decide +kernel) (by decide +kernel), TW_at 581 (by decide +kernel) (by decide +kernel), by decide +kernel, by decide, by decide⟩
theorem mmX5_takeName : Cond.instanceMethod yX5_takeName ∈ TW ∧ Cond.selects (clR 5) yX5_takeName yX5_takeName ∈ TW ∧ Cond.initialized (clR 5) ∈ TW ∧ Cond.code yX5_takeName mX5_takeName.2.1 mX5_takeName.2.2.1 mX5_takeName.2.2.2 ∈ TW ∧ (yX5_takeName.cls = clR 5 ∧ yX5_takeName.cls ≠ "java/lang/invoke/MethodHandle" ∧ yX5_takeName.cls ≠ "java/lang/invoke/VarHandle" ∧ (parseMethodDescriptor yX5_takeName.desc).map (fun d => d.parameters.length) = some 1) ∧ mX5_takeName.2.2.1 ≤ 19 ∧ 5 < 14 := ⟨TW_at 600 (by decide +kernel) (by decide +kernel), TW_at 14 (by decide +kernel) (by decide +kernel), TW_at 114 (by decide +kernel) (by decide +kernel), TW_at 601 (by decide +kernel) (by decide +kernel), by decide +kernel, by decide, by decide⟩
theorem mmX5_areUnlike : Cond.instanceMethod yX5_areUnlike ∈ TW ∧ Cond.selects (clR 5) yX5_areUnlike yX5_areUnlike ∈ TW ∧ Cond.initialized (clR 5) ∈ TW ∧ Cond.code yX5_areUnlike mX5_areUnlike.2.1 mX5_areUnlike.2.2.1 mX5_areUnlike.2.2.2 ∈ TW ∧ (yX5_areUnlike.cls = clR 5 ∧ yX5_areUnlike.cls ≠ "java/lang/invoke/MethodHandle" ∧ yX5_areUnlike.cls ≠ "java/lang/invoke/VarHandle" ∧ (parseMethodDescriptor yX5_areUnlike.desc).map (fun d => d.parameters.length) = some 0) ∧ mX5_areUnlike.2.2.1 ≤ 19 ∧ 5 < 14 := ⟨TW_at 608 (by decide +kernel) (by decide +kernel), TW_at 15 (by decide +kernel) (by decide +kernel), TW_at 114 (by decide +kernel) (by decide +kernel), TW_at 609 (by decide +kernel) (by decide +kernel), by decide +kernel, by decide, by decide⟩
theorem mmX5_takeKind : Cond.instanceMethod yX5_takeKind ∈ TW ∧ Cond.selects (clR 5) yX5_takeKind yX5_takeKind ∈ TW ∧ Cond.initialized (clR 5) ∈ TW ∧ Cond.code yX5_takeKind mX5_takeKind.2.1 mX5_takeKind.2.2.1 mX5_takeKind.2.2.2 ∈ TW ∧ (yX5_takeKind.cls = clR 5 ∧ yX5_takeKind.cls ≠ "java/lang/invoke/MethodHandle" ∧ yX5_takeKind.cls ≠ "java/lang/invoke/VarHandle" ∧ (parseMethodDescriptor yX5_takeKind.desc).map (fun d => d.parameters.length) = some 0) ∧ mX5_takeKind.2.2.1 ≤ 19 ∧ 5 < 14 := ⟨TW_at 592 (by decide +kernel) (by decide +kernel), TW_at 13 (by decide +kernel) (by decide +kernel), TW_at 114 (by decide +kernel) (by decide +kernel), TW_at 593 (by decide +kernel) (by decide +kernel), by decide +kernel, by decide, by decide⟩
theorem mmX5_takeHow : Cond.instanceMethod yX5_takeHow ∈ TW ∧ Cond.selects (clR 5) yX5_takeHow yX5_takeHow ∈ TW ∧ Cond.initialized (clR 5) ∈ TW ∧ Cond.code yX5_takeHow mX5_takeHow.2.1 mX5_takeHow.2.2.1 mX5_takeHow.2.2.2 ∈ TW ∧ (yX5_takeHow.cls = clR 5 ∧ yX5_takeHow.cls ≠ "java/lang/invoke/MethodHandle" ∧ yX5_takeHow.cls ≠ "java/lang/invoke/VarHandle" ∧ (parseMethodDescriptor yX5_takeHow.desc).map (fun d => d.parameters.length) = some 0) ∧ mX5_takeHow.2.2.1 ≤ 19 ∧ 5 < 14 := ⟨TW_at 638 (by decide +kernel) (by decide +kernel), TW_at 18 (by decide +kernel) (by decide +kernel), TW_at 114 (by decide +kernel) (by decide +kernel), TW_at 639 (by decide +kernel) (by decide +kernel), by decide +kernel, by decide, by decide⟩
theorem mmX5_isNewClash : Cond.instanceMethod yX5_isNewClash ∈ TW ∧ Cond.selects (clR 5) yX5_isNewClash yX5_isNewClash ∈ TW ∧ Cond.initialized (clR 5) ∈ TW ∧ Cond.code yX5_isNewClash mX5_isNewClash.2.1 mX5_isNewClash.2.2.1 mX5_isNewClash.2.2.2 ∈ TW ∧ (yX5_isNewClash.cls = clR 5 ∧ yX5_isNewClash.cls ≠ "java/lang/invoke/MethodHandle" ∧ yX5_isNewClash.cls ≠ "java/lang/invoke/VarHandle" ∧ (parseMethodDescriptor yX5_isNewClash.desc).map (fun d => d.parameters.length) = some 0) ∧ mX5_isNewClash.2.2.1 ≤ 19 ∧ 5 < 14 := ⟨TW_at 614 (by decide +kernel) (by decide +kernel), TW_at 16 (by decide +kernel) (by decide +kernel), TW_at 114 (by decide +kernel) (by decide +kernel), TW_at 615 (by decide +kernel) (by decide +kernel), by decide +kernel, by decide, by decide⟩
theorem mmX5_isNewUnsure : Cond.instanceMethod yX5_isNewUnsure ∈ TW ∧ Cond.selects (clR 5) yX5_isNewUnsure yX5_isNewUnsure ∈ TW ∧ Cond.initialized (clR 5) ∈ TW ∧ Cond.code yX5_isNewUnsure mX5_isNewUnsure.2.1 mX5_isNewUnsure.2.2.1 mX5_isNewUnsure.2.2.2 ∈ TW ∧ (yX5_isNewUnsure.cls = clR 5 ∧ yX5_isNewUnsure.cls ≠ "java/lang/invoke/MethodHandle" ∧ yX5_isNewUnsure.cls ≠ "java/lang/invoke/VarHandle" ∧ (parseMethodDescriptor yX5_isNewUnsure.desc).map (fun d => d.parameters.length) = some 0) ∧ mX5_isNewUnsure.2.2.1 ≤ 19 ∧ 5 < 14 := ⟨TW_at 630 (by decide +kernel) (by decide +kernel), TW_at 17 (by decide +kernel) (by decide +kernel), TW_at 114 (by decide +kernel) (by decide +kernel), TW_at 631 (by decide +kernel) (by decide +kernel), by decide +kernel, by decide, by decide⟩
theorem mmX6_set : Cond.instanceMethod yX6_set ∈ TW ∧ Cond.selects (clR 6) yX6_set yX6_set ∈ TW ∧ Cond.initialized (clR 6) ∈ TW ∧ Cond.code yX6_set mX6_set.2.1 mX6_set.2.2.1 mX6_set.2.2.2 ∈ TW ∧ (yX6_set.cls = clR 6 ∧ yX6_set.cls ≠ "java/lang/invoke/MethodHandle" ∧ yX6_set.cls ≠ "java/lang/invoke/VarHandle" ∧ (parseMethodDescriptor yX6_set.desc).map (fun d => d.parameters.length) = some 2) ∧ mX6_set.2.2.1 ≤ 19 ∧ 6 < 14 := ⟨TW_at 1030 (by decide +kernel) (by decide +kernel), TW_at 1031 (by decide +kernel) (by decide +kernel), TW_at 124 (by decide +kernel) (by decide +kernel), TW_at 1032 (by decide +kernel) (by decide +kernel), by decide +kernel, by decide, by decide⟩
theorem ssX6_commonOf : Cond.static yX6_commonOf ∈ TW ∧ Cond.initialized yX6_commonOf.cls ∈ TW ∧ Cond.code yX6_commonOf mX6_commonOf.2.1 mX6_commonOf.2.2.1 mX6_commonOf.2.2.2 ∈ TW ∧ (yX6_commonOf.cls ≠ "java/lang/invoke/MethodHandle" ∧ yX6_commonOf.cls ≠ "java/lang/invoke/VarHandle" ∧ (parseMethodDescriptor yX6_commonOf.desc).map (fun d => d.parameters.length) = some 2) ∧ mX6_commonOf.2.2.1 ≤ 19 := ⟨TW_at 1034 (by decide +kernel) (by decide +kernel), TW_at 124 (by decide +kernel) (by decide +kernel), TW_at 1035 (by decide +kernel) (by decide +kernel), by decide +kernel, by decide⟩
theorem mmX6_part : Cond.instanceMethod yX6_part ∈ TW ∧ Cond.selects (clR 6) yX6_part yX6_part ∈ TW ∧ Cond.initialized (clR 6) ∈ TW ∧ Cond.code yX6_part mX6_part.2.1 mX6_part.2.2.1 mX6_part.2.2.2 ∈ TW ∧ (yX6_part.cls = clR 6 ∧ yX6_part.cls ≠ "java/lang/invoke/MethodHandle" ∧ yX6_part.cls ≠ "java/lang/invoke/VarHandle" ∧ (parseMethodDescriptor yX6_part.desc).map (fun d => d.parameters.length) = some 1) ∧ mX6_part.2.2.1 ≤ 19 ∧ 6 < 14 := ⟨TW_at 1037 (by decide +kernel) (by decide +kernel), TW_at 1038 (by decide +kernel) (by decide +kernel), TW_at 124 (by decide +kernel) (by decide +kernel), TW_at 1039 (by decide +kernel) (by decide +kernel), by decide +kernel, by decide, by decide⟩
theorem mmX7_begin : Cond.instanceMethod yX7_begin ∈ TW ∧ Cond.selects (clR 7) yX7_begin yX7_begin ∈ TW ∧ Cond.initialized (clR 7) ∈ TW ∧ Cond.code yX7_begin mX7_begin.2.1 mX7_begin.2.2.1 mX7_begin.2.2.2 ∈ TW ∧ (yX7_begin.cls = clR 7 ∧ yX7_begin.cls ≠ "java/lang/invoke/MethodHandle" ∧ yX7_begin.cls ≠ "java/lang/invoke/VarHandle" ∧ (parseMethodDescriptor yX7_begin.desc).map (fun d => d.parameters.length) = some 1) ∧ mX7_begin.2.2.1 ≤ 19 ∧ 7 < 14 := ⟨TW_at 666 (by decide +kernel) (by decide +kernel), TW_at 667 (by decide +kernel) (by decide +kernel), TW_at 119 (by decide +kernel) (by decide +kernel), TW_at 668 (by decide +kernel) (by decide +kernel), by decide +kernel, by decide, by decide⟩
theorem mmX7_addKept : Cond.instanceMethod yX7_addKept ∈ TW ∧ Cond.selects (clR 7) yX7_addKept yX7_addKept ∈ TW ∧ Cond.initialized (clR 7) ∈ TW ∧ Cond.code yX7_addKept mX7_addKept.2.1 mX7_addKept.2.2.1 mX7_addKept.2.2.2 ∈ TW ∧ (yX7_addKept.cls = clR 7 ∧ yX7_addKept.cls ≠ "java/lang/invoke/MethodHandle" ∧ yX7_addKept.cls ≠ "java/lang/invoke/VarHandle" ∧ (parseMethodDescriptor yX7_addKept.desc).map (fun d => d.parameters.length) = some 3) ∧ mX7_addKept.2.2.1 ≤ 19 ∧ 7 < 14 := ⟨TW_at 672 (by decide +kernel) (by decide +kernel), TW_at 673 (by decide +kernel) (by decide +kernel), TW_at 119 (by decide +kernel) (by decide +kernel), TW_at 674 (by decide +kernel) (by decide +kernel), by decide +kernel, by decide, by decide⟩
theorem mmX7_isThere : Cond.instanceMethod yX7_isThere ∈ TW ∧ Cond.selects (clR 7) yX7_isThere yX7_isThere ∈ TW ∧ Cond.initialized (clR 7) ∈ TW ∧ Cond.code yX7_isThere mX7_isThere.2.1 mX7_isThere.2.2.1 mX7_isThere.2.2.2 ∈ TW ∧ (yX7_isThere.cls = clR 7 ∧ yX7_isThere.cls ≠ "java/lang/invoke/MethodHandle" ∧ yX7_isThere.cls ≠ "java/lang/invoke/VarHandle" ∧ (parseMethodDescriptor yX7_isThere.desc).map (fun d => d.parameters.length) = some 2) ∧ mX7_isThere.2.2.1 ≤ 19 ∧ 7 < 14 := ⟨TW_at 681 (by decide +kernel) (by decide +kernel), TW_at 21 (by decide +kernel) (by decide +kernel), TW_at 119 (by decide +kernel) (by decide +kernel), TW_at 682 (by decide +kernel) (by decide +kernel), by decide +kernel, by decide, by decide⟩
theorem mmX7_setCell : Cond.instanceMethod yX7_setCell ∈ TW ∧ Cond.selects (clR 7) yX7_setCell yX7_setCell ∈ TW ∧ Cond.initialized (clR 7) ∈ TW ∧ Cond.code yX7_setCell mX7_setCell.2.1 mX7_setCell.2.2.1 mX7_setCell.2.2.2 ∈ TW ∧ (yX7_setCell.cls = clR 7 ∧ yX7_setCell.cls ≠ "java/lang/invoke/MethodHandle" ∧ yX7_setCell.cls ≠ "java/lang/invoke/VarHandle" ∧ (parseMethodDescriptor yX7_setCell.desc).map (fun d => d.parameters.length) = some 3) ∧ mX7_setCell.2.2.1 ≤ 19 ∧ 7 < 14 := ⟨TW_at 677 (by decide +kernel) (by decide +kernel), TW_at 20 (by decide +kernel) (by decide +kernel), TW_at 119 (by decide +kernel) (by decide +kernel), TW_at 678 (by decide +kernel) (by decide +kernel), by decide +kernel, by decide, by decide⟩
theorem mmX7_cell : Cond.instanceMethod yX7_cell ∈ TW ∧ Cond.selects (clR 7) yX7_cell yX7_cell ∈ TW ∧ Cond.initialized (clR 7) ∈ TW ∧ Cond.code yX7_cell mX7_cell.2.1 mX7_cell.2.2.1 mX7_cell.2.2.2 ∈ TW ∧ (yX7_cell.cls = clR 7 ∧ yX7_cell.cls ≠ "java/lang/invoke/MethodHandle" ∧ yX7_cell.cls ≠ "java/lang/invoke/VarHandle" ∧ (parseMethodDescriptor yX7_cell.desc).map (fun d => d.parameters.length) = some 2) ∧ mX7_cell.2.2.1 ≤ 19 ∧ 7 < 14 := ⟨TW_at 752 (by decide +kernel) (by decide +kernel), TW_at 753 (by decide +kernel) (by decide +kernel), TW_at 119 (by decide +kernel) (by decide +kernel), TW_at 754 (by decide +kernel) (by decide +kernel), by decide +kernel, by decide, by decide⟩
theorem mmX7_threads : Cond.instanceMethod yX7_threads ∈ TW ∧ Cond.selects (clR 7) yX7_threads yX7_threads ∈ TW ∧ Cond.initialized (clR 7) ∈ TW ∧ Cond.code yX7_threads mX7_threads.2.1 mX7_threads.2.2.1 mX7_threads.2.2.2 ∈ TW ∧ (yX7_threads.cls = clR 7 ∧ yX7_threads.cls ≠ "java/lang/invoke/MethodHandle" ∧ yX7_threads.cls ≠ "java/lang/invoke/VarHandle" ∧ (parseMethodDescriptor yX7_threads.desc).map (fun d => d.parameters.length) = some 0) ∧ mX7_threads.2.2.1 ≤ 19 ∧ 7 < 14 := ⟨TW_at 736 (by decide +kernel) (by decide +kernel), TW_at 737 (by decide +kernel) (by decide +kernel), TW_at 119 (by decide +kernel) (by decide +kernel), TW_at 738 (by decide +kernel) (by decide +kernel), by decide +kernel, by decide, by decide⟩
theorem mmX7_yearsGone : Cond.instanceMethod yX7_yearsGone ∈ TW ∧ Cond.selects (clR 7) yX7_yearsGone yX7_yearsGone ∈ TW ∧ Cond.initialized (clR 7) ∈ TW ∧ Cond.code yX7_yearsGone mX7_yearsGone.2.1 mX7_yearsGone.2.2.1 mX7_yearsGone.2.2.2 ∈ TW ∧ (yX7_yearsGone.cls = clR 7 ∧ yX7_yearsGone.cls ≠ "java/lang/invoke/MethodHandle" ∧ yX7_yearsGone.cls ≠ "java/lang/invoke/VarHandle" ∧ (parseMethodDescriptor yX7_yearsGone.desc).map (fun d => d.parameters.length) = some 0) ∧ mX7_yearsGone.2.2.1 ≤ 19 ∧ 7 < 14 := ⟨TW_at 1172 (by decide +kernel) (by decide +kernel), TW_at 1173 (by decide +kernel) (by decide +kernel), TW_at 119 (by decide +kernel) (by decide +kernel), TW_at 1174 (by decide +kernel) (by decide +kernel), by decide +kernel, by decide, by decide⟩
theorem mmX7_age : Cond.instanceMethod yX7_age ∈ TW ∧ Cond.selects (clR 7) yX7_age yX7_age ∈ TW ∧ Cond.initialized (clR 7) ∈ TW ∧ Cond.code yX7_age mX7_age.2.1 mX7_age.2.2.1 mX7_age.2.2.2 ∈ TW ∧ (yX7_age.cls = clR 7 ∧ yX7_age.cls ≠ "java/lang/invoke/MethodHandle" ∧ yX7_age.cls ≠ "java/lang/invoke/VarHandle" ∧ (parseMethodDescriptor yX7_age.desc).map (fun d => d.parameters.length) = some 1) ∧ mX7_age.2.2.1 ≤ 19 ∧ 7 < 14 := ⟨TW_at 1207 (by decide +kernel) (by decide +kernel), TW_at 1208 (by decide +kernel) (by decide +kernel), TW_at 119 (by decide +kernel) (by decide +kernel), TW_at 1209 (by decide +kernel) (by decide +kernel), by decide +kernel, by decide, by decide⟩
theorem mmX7_isSnapped : Cond.instanceMethod yX7_isSnapped ∈ TW ∧ Cond.selects (clR 7) yX7_isSnapped yX7_isSnapped ∈ TW ∧ Cond.initialized (clR 7) ∈ TW ∧ Cond.code yX7_isSnapped mX7_isSnapped.2.1 mX7_isSnapped.2.2.1 mX7_isSnapped.2.2.2 ∈ TW ∧ (yX7_isSnapped.cls = clR 7 ∧ yX7_isSnapped.cls ≠ "java/lang/invoke/MethodHandle" ∧ yX7_isSnapped.cls ≠ "java/lang/invoke/VarHandle" ∧ (parseMethodDescriptor yX7_isSnapped.desc).map (fun d => d.parameters.length) = some 1) ∧ mX7_isSnapped.2.2.1 ≤ 19 ∧ 7 < 14 := ⟨TW_at 747 (by decide +kernel) (by decide +kernel), TW_at 748 (by decide +kernel) (by decide +kernel), TW_at 119 (by decide +kernel) (by decide +kernel), TW_at 749 (by decide +kernel) (by decide +kernel), by decide +kernel, by decide, by decide⟩
theorem mmX7_strength : Cond.instanceMethod yX7_strength ∈ TW ∧ Cond.selects (clR 7) yX7_strength yX7_strength ∈ TW ∧ Cond.initialized (clR 7) ∈ TW ∧ Cond.code yX7_strength mX7_strength.2.1 mX7_strength.2.2.1 mX7_strength.2.2.2 ∈ TW ∧ (yX7_strength.cls = clR 7 ∧ yX7_strength.cls ≠ "java/lang/invoke/MethodHandle" ∧ yX7_strength.cls ≠ "java/lang/invoke/VarHandle" ∧ (parseMethodDescriptor yX7_strength.desc).map (fun d => d.parameters.length) = some 2) ∧ mX7_strength.2.2.1 ≤ 19 ∧ 7 < 14 := ⟨TW_at 743 (by decide +kernel) (by decide +kernel), TW_at 744 (by decide +kernel) (by decide +kernel), TW_at 119 (by decide +kernel) (by decide +kernel), TW_at 745 (by decide +kernel) (by decide +kernel), by decide +kernel, by decide, by decide⟩
theorem mmX7_passYear : Cond.instanceMethod yX7_passYear ∈ TW ∧ Cond.selects (clR 7) yX7_passYear yX7_passYear ∈ TW ∧ Cond.initialized (clR 7) ∈ TW ∧ Cond.code yX7_passYear mX7_passYear.2.1 mX7_passYear.2.2.1 mX7_passYear.2.2.2 ∈ TW ∧ (yX7_passYear.cls = clR 7 ∧ yX7_passYear.cls ≠ "java/lang/invoke/MethodHandle" ∧ yX7_passYear.cls ≠ "java/lang/invoke/VarHandle" ∧ (parseMethodDescriptor yX7_passYear.desc).map (fun d => d.parameters.length) = some 0) ∧ mX7_passYear.2.2.1 ≤ 19 ∧ 7 < 14 := ⟨TW_at 1186 (by decide +kernel) (by decide +kernel), TW_at 1187 (by decide +kernel) (by decide +kernel), TW_at 119 (by decide +kernel) (by decide +kernel), TW_at 1188 (by decide +kernel) (by decide +kernel), by decide +kernel, by decide, by decide⟩
theorem mmX7_setSnapped : Cond.instanceMethod yX7_setSnapped ∈ TW ∧ Cond.selects (clR 7) yX7_setSnapped yX7_setSnapped ∈ TW ∧ Cond.initialized (clR 7) ∈ TW ∧ Cond.code yX7_setSnapped mX7_setSnapped.2.1 mX7_setSnapped.2.2.1 mX7_setSnapped.2.2.2 ∈ TW ∧ (yX7_setSnapped.cls = clR 7 ∧ yX7_setSnapped.cls ≠ "java/lang/invoke/MethodHandle" ∧ yX7_setSnapped.cls ≠ "java/lang/invoke/VarHandle" ∧ (parseMethodDescriptor yX7_setSnapped.desc).map (fun d => d.parameters.length) = some 1) ∧ mX7_setSnapped.2.2.1 ≤ 19 ∧ 7 < 14 := ⟨TW_at 1194 (by decide +kernel) (by decide +kernel), TW_at 1195 (by decide +kernel) (by decide +kernel), TW_at 119 (by decide +kernel) (by decide +kernel), TW_at 1196 (by decide +kernel) (by decide +kernel), by decide +kernel, by decide, by decide⟩
theorem mmX7_renew : Cond.instanceMethod yX7_renew ∈ TW ∧ Cond.selects (clR 7) yX7_renew yX7_renew ∈ TW ∧ Cond.initialized (clR 7) ∈ TW ∧ Cond.code yX7_renew mX7_renew.2.1 mX7_renew.2.2.1 mX7_renew.2.2.2 ∈ TW ∧ (yX7_renew.cls = clR 7 ∧ yX7_renew.cls ≠ "java/lang/invoke/MethodHandle" ∧ yX7_renew.cls ≠ "java/lang/invoke/VarHandle" ∧ (parseMethodDescriptor yX7_renew.desc).map (fun d => d.parameters.length) = some 1) ∧ mX7_renew.2.2.1 ≤ 19 ∧ 7 < 14 := ⟨TW_at 1211 (by decide +kernel) (by decide +kernel), TW_at 1212 (by decide +kernel) (by decide +kernel), TW_at 119 (by decide +kernel) (by decide +kernel), TW_at 1213 (by decide +kernel) (by decide +kernel), by decide +kernel, by decide, by decide⟩
theorem mmX7_copyTo : Cond.instanceMethod yX7_copyTo ∈ TW ∧ Cond.selects (clR 7) yX7_copyTo yX7_copyTo ∈ TW ∧ Cond.initialized (clR 7) ∈ TW ∧ Cond.code yX7_copyTo mX7_copyTo.2.1 mX7_copyTo.2.2.1 mX7_copyTo.2.2.2 ∈ TW ∧ (yX7_copyTo.cls = clR 7 ∧ yX7_copyTo.cls ≠ "java/lang/invoke/MethodHandle" ∧ yX7_copyTo.cls ≠ "java/lang/invoke/VarHandle" ∧ (parseMethodDescriptor yX7_copyTo.desc).map (fun d => d.parameters.length) = some 2) ∧ mX7_copyTo.2.2.1 ≤ 19 ∧ 7 < 14 := ⟨TW_at 1180 (by decide +kernel) (by decide +kernel), TW_at 1181 (by decide +kernel) (by decide +kernel), TW_at 119 (by decide +kernel) (by decide +kernel), TW_at 1182 (by decide +kernel) (by decide +kernel), by decide +kernel, by decide, by decide⟩
theorem mmX7_copyFrom : Cond.instanceMethod yX7_copyFrom ∈ TW ∧ Cond.selects (clR 7) yX7_copyFrom yX7_copyFrom ∈ TW ∧ Cond.initialized (clR 7) ∈ TW ∧ Cond.code yX7_copyFrom mX7_copyFrom.2.1 mX7_copyFrom.2.2.1 mX7_copyFrom.2.2.2 ∈ TW ∧ (yX7_copyFrom.cls = clR 7 ∧ yX7_copyFrom.cls ≠ "java/lang/invoke/MethodHandle" ∧ yX7_copyFrom.cls ≠ "java/lang/invoke/VarHandle" ∧ (parseMethodDescriptor yX7_copyFrom.desc).map (fun d => d.parameters.length) = some 2) ∧ mX7_copyFrom.2.2.1 ≤ 19 ∧ 7 < 14 := ⟨TW_at 1223 (by decide +kernel) (by decide +kernel), TW_at 1224 (by decide +kernel) (by decide +kernel), TW_at 119 (by decide +kernel) (by decide +kernel), TW_at 1225 (by decide +kernel) (by decide +kernel), by decide +kernel, by decide, by decide⟩
theorem mmX8_add : Cond.instanceMethod yX8_add ∈ TW ∧ Cond.selects (clR 8) yX8_add yX8_add ∈ TW ∧ Cond.initialized (clR 8) ∈ TW ∧ Cond.code yX8_add mX8_add.2.1 mX8_add.2.2.1 mX8_add.2.2.2 ∈ TW ∧ (yX8_add.cls = clR 8 ∧ yX8_add.cls ≠ "java/lang/invoke/MethodHandle" ∧ yX8_add.cls ≠ "java/lang/invoke/VarHandle" ∧ (parseMethodDescriptor yX8_add.desc).map (fun d => d.parameters.length) = some 1) ∧ mX8_add.2.2.1 ≤ 19 ∧ 8 < 14 := ⟨TW_at 647 (by decide +kernel) (by decide +kernel), TW_at 648 (by decide +kernel) (by decide +kernel), TW_at 118 (by decide +kernel) (by decide +kernel), TW_at 649 (by decide +kernel) (by decide +kernel), by decide +kernel, by decide, by decide⟩
theorem mmX8_cell : Cond.instanceMethod yX8_cell ∈ TW ∧ Cond.selects (clR 8) yX8_cell yX8_cell ∈ TW ∧ Cond.initialized (clR 8) ∈ TW ∧ Cond.code yX8_cell mX8_cell.2.1 mX8_cell.2.2.1 mX8_cell.2.2.2 ∈ TW ∧ (yX8_cell.cls = clR 8 ∧ yX8_cell.cls ≠ "java/lang/invoke/MethodHandle" ∧ yX8_cell.cls ≠ "java/lang/invoke/VarHandle" ∧ (parseMethodDescriptor yX8_cell.desc).map (fun d => d.parameters.length) = some 2) ∧ mX8_cell.2.2.1 ≤ 19 ∧ 8 < 14 := ⟨TW_at 621 (by decide +kernel) (by decide +kernel), TW_at 622 (by decide +kernel) (by decide +kernel), TW_at 118 (by decide +kernel) (by decide +kernel), TW_at 623 (by decide +kernel) (by decide +kernel), by decide +kernel, by decide, by decide⟩
theorem mmX8_copyFrom : Cond.instanceMethod yX8_copyFrom ∈ TW ∧ Cond.selects (clR 8) yX8_copyFrom yX8_copyFrom ∈ TW ∧ Cond.initialized (clR 8) ∈ TW ∧ Cond.code yX8_copyFrom mX8_copyFrom.2.1 mX8_copyFrom.2.2.1 mX8_copyFrom.2.2.2 ∈ TW ∧ (yX8_copyFrom.cls = clR 8 ∧ yX8_copyFrom.cls ≠ "java/lang/invoke/MethodHandle" ∧ yX8_copyFrom.cls ≠ "java/lang/invoke/VarHandle" ∧ (parseMethodDescriptor yX8_copyFrom.desc).map (fun d => d.parameters.length) = some 1) ∧ mX8_copyFrom.2.2.1 ≤ 19 ∧ 8 < 14 := ⟨TW_at 662 (by decide +kernel) (by decide +kernel), TW_at 663 (by decide +kernel) (by decide +kernel), TW_at 118 (by decide +kernel) (by decide +kernel), TW_at 664 (by decide +kernel) (by decide +kernel), by decide +kernel, by decide, by decide⟩
theorem mmX9_takesTwenty : Cond.instanceMethod yX9_takesTwenty ∈ TW ∧ Cond.selects (clR 9) yX9_takesTwenty yX9_takesTwenty ∈ TW ∧ Cond.initialized (clR 9) ∈ TW ∧ Cond.code yX9_takesTwenty mX9_takesTwenty.2.1 mX9_takesTwenty.2.2.1 mX9_takesTwenty.2.2.2 ∈ TW ∧ (yX9_takesTwenty.cls = clR 9 ∧ yX9_takesTwenty.cls ≠ "java/lang/invoke/MethodHandle" ∧ yX9_takesTwenty.cls ≠ "java/lang/invoke/VarHandle" ∧ (parseMethodDescriptor yX9_takesTwenty.desc).map (fun d => d.parameters.length) = some 0) ∧ mX9_takesTwenty.2.2.1 ≤ 19 ∧ 9 < 14 := ⟨TW_at 428 (by decide +kernel) (by decide +kernel), TW_at 429 (by decide +kernel) (by decide +kernel), TW_at 116 (by decide +kernel) (by decide +kernel), TW_at 430 (by decide +kernel) (by decide +kernel), by decide +kernel, by decide, by decide⟩
theorem mmX9_append : Cond.instanceMethod yX9_append ∈ TW ∧ Cond.selects (clR 9) yX9_append yX9_append ∈ TW ∧ Cond.initialized (clR 9) ∈ TW ∧ Cond.code yX9_append mX9_append.2.1 mX9_append.2.2.1 mX9_append.2.2.2 ∈ TW ∧ (yX9_append.cls = clR 9 ∧ yX9_append.cls ≠ "java/lang/invoke/MethodHandle" ∧ yX9_append.cls ≠ "java/lang/invoke/VarHandle" ∧ (parseMethodDescriptor yX9_append.desc).map (fun d => d.parameters.length) = some 1) ∧ mX9_append.2.2.1 ≤ 19 ∧ 9 < 14 := ⟨TW_at 432 (by decide +kernel) (by decide +kernel), TW_at 433 (by decide +kernel) (by decide +kernel), TW_at 116 (by decide +kernel) (by decide +kernel), TW_at 434 (by decide +kernel) (by decide +kernel), by decide +kernel, by decide, by decide⟩
theorem mmX9_rewind : Cond.instanceMethod yX9_rewind ∈ TW ∧ Cond.selects (clR 9) yX9_rewind yX9_rewind ∈ TW ∧ Cond.initialized (clR 9) ∈ TW ∧ Cond.code yX9_rewind mX9_rewind.2.1 mX9_rewind.2.2.1 mX9_rewind.2.2.2 ∈ TW ∧ (yX9_rewind.cls = clR 9 ∧ yX9_rewind.cls ≠ "java/lang/invoke/MethodHandle" ∧ yX9_rewind.cls ≠ "java/lang/invoke/VarHandle" ∧ (parseMethodDescriptor yX9_rewind.desc).map (fun d => d.parameters.length) = some 1) ∧ mX9_rewind.2.2.1 ≤ 19 ∧ 9 < 14 := ⟨TW_at 463 (by decide +kernel) (by decide +kernel), TW_at 464 (by decide +kernel) (by decide +kernel), TW_at 116 (by decide +kernel) (by decide +kernel), TW_at 465 (by decide +kernel) (by decide +kernel), by decide +kernel, by decide, by decide⟩
theorem mmX9_advance : Cond.instanceMethod yX9_advance ∈ TW ∧ Cond.selects (clR 9) yX9_advance yX9_advance ∈ TW ∧ Cond.initialized (clR 9) ∈ TW ∧ Cond.code yX9_advance mX9_advance.2.1 mX9_advance.2.2.1 mX9_advance.2.2.2 ∈ TW ∧ (yX9_advance.cls = clR 9 ∧ yX9_advance.cls ≠ "java/lang/invoke/MethodHandle" ∧ yX9_advance.cls ≠ "java/lang/invoke/VarHandle" ∧ (parseMethodDescriptor yX9_advance.desc).map (fun d => d.parameters.length) = some 0) ∧ mX9_advance.2.2.1 ≤ 19 ∧ 9 < 14 := ⟨TW_at 471 (by decide +kernel) (by decide +kernel), TW_at 472 (by decide +kernel) (by decide +kernel), TW_at 116 (by decide +kernel) (by decide +kernel), TW_at 473 (by decide +kernel) (by decide +kernel), by decide +kernel, by decide, by decide⟩
theorem mmX9_takeLetters : Cond.instanceMethod yX9_takeLetters ∈ TW ∧ Cond.selects (clR 9) yX9_takeLetters yX9_takeLetters ∈ TW ∧ Cond.initialized (clR 9) ∈ TW ∧ Cond.code yX9_takeLetters mX9_takeLetters.2.1 mX9_takeLetters.2.2.1 mX9_takeLetters.2.2.2 ∈ TW ∧ (yX9_takeLetters.cls = clR 9 ∧ yX9_takeLetters.cls ≠ "java/lang/invoke/MethodHandle" ∧ yX9_takeLetters.cls ≠ "java/lang/invoke/VarHandle" ∧ (parseMethodDescriptor yX9_takeLetters.desc).map (fun d => d.parameters.length) = some 0) ∧ mX9_takeLetters.2.2.1 ≤ 19 ∧ 9 < 14 := ⟨TW_at 476 (by decide +kernel) (by decide +kernel), TW_at 3 (by decide +kernel) (by decide +kernel), TW_at 116 (by decide +kernel) (by decide +kernel), TW_at 477 (by decide +kernel) (by decide +kernel), by decide +kernel, by decide, by decide⟩
theorem mmX9_takeDigits : Cond.instanceMethod yX9_takeDigits ∈ TW ∧ Cond.selects (clR 9) yX9_takeDigits yX9_takeDigits ∈ TW ∧ Cond.initialized (clR 9) ∈ TW ∧ Cond.code yX9_takeDigits mX9_takeDigits.2.1 mX9_takeDigits.2.2.1 mX9_takeDigits.2.2.2 ∈ TW ∧ (yX9_takeDigits.cls = clR 9 ∧ yX9_takeDigits.cls ≠ "java/lang/invoke/MethodHandle" ∧ yX9_takeDigits.cls ≠ "java/lang/invoke/VarHandle" ∧ (parseMethodDescriptor yX9_takeDigits.desc).map (fun d => d.parameters.length) = some 0) ∧ mX9_takeDigits.2.2.1 ≤ 19 ∧ 9 < 14 := ⟨TW_at 480 (by decide +kernel) (by decide +kernel), TW_at 4 (by decide +kernel) (by decide +kernel), TW_at 116 (by decide +kernel) (by decide +kernel), TW_at 481 (by decide +kernel) (by decide +kernel), by decide +kernel, by decide, by decide⟩
theorem mmX9_isWord : Cond.instanceMethod yX9_isWord ∈ TW ∧ Cond.selects (clR 9) yX9_isWord yX9_isWord ∈ TW ∧ Cond.initialized (clR 9) ∈ TW ∧ Cond.code yX9_isWord mX9_isWord.2.1 mX9_isWord.2.2.1 mX9_isWord.2.2.2 ∈ TW ∧ (yX9_isWord.cls = clR 9 ∧ yX9_isWord.cls ≠ "java/lang/invoke/MethodHandle" ∧ yX9_isWord.cls ≠ "java/lang/invoke/VarHandle" ∧ (parseMethodDescriptor yX9_isWord.desc).map (fun d => d.parameters.length) = some 1) ∧ mX9_isWord.2.2.1 ≤ 19 ∧ 9 < 14 := ⟨TW_at 488 (by decide +kernel) (by decide +kernel), TW_at 489 (by decide +kernel) (by decide +kernel), TW_at 116 (by decide +kernel) (by decide +kernel), TW_at 490 (by decide +kernel) (by decide +kernel), by decide +kernel, by decide, by decide⟩
theorem mmX10_of : Cond.instanceMethod yX10_of ∈ TW ∧ Cond.selects (clR 10) yX10_of yX10_of ∈ TW ∧ Cond.initialized (clR 10) ∈ TW ∧ Cond.code yX10_of mX10_of.2.1 mX10_of.2.2.1 mX10_of.2.2.2 ∈ TW ∧ (yX10_of.cls = clR 10 ∧ yX10_of.cls ≠ "java/lang/invoke/MethodHandle" ∧ yX10_of.cls ≠ "java/lang/invoke/VarHandle" ∧ (parseMethodDescriptor yX10_of.desc).map (fun d => d.parameters.length) = some 1) ∧ mX10_of.2.2.1 ≤ 19 ∧ 10 < 14 := ⟨TW_at 456 (by decide +kernel) (by decide +kernel), TW_at 1 (by decide +kernel) (by decide +kernel), TW_at 117 (by decide +kernel) (by decide +kernel), TW_at 457 (by decide +kernel) (by decide +kernel), by decide +kernel, by decide, by decide⟩
theorem mmX10_clear : Cond.instanceMethod yX10_clear ∈ TW ∧ Cond.selects (clR 10) yX10_clear yX10_clear ∈ TW ∧ Cond.initialized (clR 10) ∈ TW ∧ Cond.code yX10_clear mX10_clear.2.1 mX10_clear.2.2.1 mX10_clear.2.2.2 ∈ TW ∧ (yX10_clear.cls = clR 10 ∧ yX10_clear.cls ≠ "java/lang/invoke/MethodHandle" ∧ yX10_clear.cls ≠ "java/lang/invoke/VarHandle" ∧ (parseMethodDescriptor yX10_clear.desc).map (fun d => d.parameters.length) = some 0) ∧ mX10_clear.2.2.1 ≤ 19 ∧ 10 < 14 := ⟨TW_at 451 (by decide +kernel) (by decide +kernel), TW_at 452 (by decide +kernel) (by decide +kernel), TW_at 117 (by decide +kernel) (by decide +kernel), TW_at 453 (by decide +kernel) (by decide +kernel), by decide +kernel, by decide, by decide⟩
theorem mmX10_copyFrom : Cond.instanceMethod yX10_copyFrom ∈ TW ∧ Cond.selects (clR 10) yX10_copyFrom yX10_copyFrom ∈ TW ∧ Cond.initialized (clR 10) ∈ TW ∧ Cond.code yX10_copyFrom mX10_copyFrom.2.1 mX10_copyFrom.2.2.1 mX10_copyFrom.2.2.2 ∈ TW ∧ (yX10_copyFrom.cls = clR 10 ∧ yX10_copyFrom.cls ≠ "java/lang/invoke/MethodHandle" ∧ yX10_copyFrom.cls ≠ "java/lang/invoke/VarHandle" ∧ (parseMethodDescriptor yX10_copyFrom.desc).map (fun d => d.parameters.length) = some 1) ∧ mX10_copyFrom.2.2.1 ≤ 19 ∧ 10 < 14 := ⟨TW_at 658 (by decide +kernel) (by decide +kernel), TW_at 659 (by decide +kernel) (by decide +kernel), TW_at 117 (by decide +kernel) (by decide +kernel), TW_at 660 (by decide +kernel) (by decide +kernel), by decide +kernel, by decide, by decide⟩
theorem mmX10_add : Cond.instanceMethod yX10_add ∈ TW ∧ Cond.selects (clR 10) yX10_add yX10_add ∈ TW ∧ Cond.initialized (clR 10) ∈ TW ∧ Cond.code yX10_add mX10_add.2.1 mX10_add.2.2.1 mX10_add.2.2.2 ∈ TW ∧ (yX10_add.cls = clR 10 ∧ yX10_add.cls ≠ "java/lang/invoke/MethodHandle" ∧ yX10_add.cls ≠ "java/lang/invoke/VarHandle" ∧ (parseMethodDescriptor yX10_add.desc).map (fun d => d.parameters.length) = some 2) ∧ mX10_add.2.2.1 ≤ 19 ∧ 10 < 14 := ⟨TW_at 643 (by decide +kernel) (by decide +kernel), TW_at 644 (by decide +kernel) (by decide +kernel), TW_at 117 (by decide +kernel) (by decide +kernel), TW_at 645 (by decide +kernel) (by decide +kernel), by decide +kernel, by decide, by decide⟩
theorem mmX10_howMany : Cond.instanceMethod yX10_howMany ∈ TW ∧ Cond.selects (clR 10) yX10_howMany yX10_howMany ∈ TW ∧ Cond.initialized (clR 10) ∈ TW ∧ Cond.code yX10_howMany mX10_howMany.2.1 mX10_howMany.2.2.1 mX10_howMany.2.2.2 ∈ TW ∧ (yX10_howMany.cls = clR 10 ∧ yX10_howMany.cls ≠ "java/lang/invoke/MethodHandle" ∧ yX10_howMany.cls ≠ "java/lang/invoke/VarHandle" ∧ (parseMethodDescriptor yX10_howMany.desc).map (fun d => d.parameters.length) = some 1) ∧ mX10_howMany.2.2.1 ≤ 19 ∧ 10 < 14 := ⟨TW_at 553 (by decide +kernel) (by decide +kernel), TW_at 554 (by decide +kernel) (by decide +kernel), TW_at 117 (by decide +kernel) (by decide +kernel), TW_at 555 (by decide +kernel) (by decide +kernel), by decide +kernel, by decide, by decide⟩
theorem mmX10_cell : Cond.instanceMethod yX10_cell ∈ TW ∧ Cond.selects (clR 10) yX10_cell yX10_cell ∈ TW ∧ Cond.initialized (clR 10) ∈ TW ∧ Cond.code yX10_cell mX10_cell.2.1 mX10_cell.2.2.1 mX10_cell.2.2.2 ∈ TW ∧ (yX10_cell.cls = clR 10 ∧ yX10_cell.cls ≠ "java/lang/invoke/MethodHandle" ∧ yX10_cell.cls ≠ "java/lang/invoke/VarHandle" ∧ (parseMethodDescriptor yX10_cell.desc).map (fun d => d.parameters.length) = some 3) ∧ mX10_cell.2.2.1 ≤ 19 ∧ 10 < 14 := ⟨TW_at 633 (by decide +kernel) (by decide +kernel), TW_at 634 (by decide +kernel) (by decide +kernel), TW_at 117 (by decide +kernel) (by decide +kernel), TW_at 635 (by decide +kernel) (by decide +kernel), by decide +kernel, by decide, by decide⟩
theorem mmX10_slipsInHundred : Cond.instanceMethod yX10_slipsInHundred ∈ TW ∧ Cond.selects (clR 10) yX10_slipsInHundred yX10_slipsInHundred ∈ TW ∧ Cond.initialized (clR 10) ∈ TW ∧ Cond.code yX10_slipsInHundred mX10_slipsInHundred.2.1 mX10_slipsInHundred.2.2.1 mX10_slipsInHundred.2.2.2 ∈ TW ∧ (yX10_slipsInHundred.cls = clR 10 ∧ yX10_slipsInHundred.cls ≠ "java/lang/invoke/MethodHandle" ∧ yX10_slipsInHundred.cls ≠ "java/lang/invoke/VarHandle" ∧ (parseMethodDescriptor yX10_slipsInHundred.desc).map (fun d => d.parameters.length) = some 0) ∧ mX10_slipsInHundred.2.2.1 ≤ 19 ∧ 10 < 14 := ⟨TW_at 699 (by decide +kernel) (by decide +kernel), TW_at 700 (by decide +kernel) (by decide +kernel), TW_at 117 (by decide +kernel) (by decide +kernel), TW_at 701 (by decide +kernel) (by decide +kernel), by decide +kernel, by decide, by decide⟩
theorem mmX10_clerksInHundred : Cond.instanceMethod yX10_clerksInHundred ∈ TW ∧ Cond.selects (clR 10) yX10_clerksInHundred yX10_clerksInHundred ∈ TW ∧ Cond.initialized (clR 10) ∈ TW ∧ Cond.code yX10_clerksInHundred mX10_clerksInHundred.2.1 mX10_clerksInHundred.2.2.1 mX10_clerksInHundred.2.2.2 ∈ TW ∧ (yX10_clerksInHundred.cls = clR 10 ∧ yX10_clerksInHundred.cls ≠ "java/lang/invoke/MethodHandle" ∧ yX10_clerksInHundred.cls ≠ "java/lang/invoke/VarHandle" ∧ (parseMethodDescriptor yX10_clerksInHundred.desc).map (fun d => d.parameters.length) = some 0) ∧ mX10_clerksInHundred.2.2.1 ≤ 19 ∧ 10 < 14 := ⟨TW_at 1131 (by decide +kernel) (by decide +kernel), TW_at 1132 (by decide +kernel) (by decide +kernel), TW_at 117 (by decide +kernel) (by decide +kernel), TW_at 1133 (by decide +kernel) (by decide +kernel), by decide +kernel, by decide, by decide⟩
theorem mmX10_isLied : Cond.instanceMethod yX10_isLied ∈ TW ∧ Cond.selects (clR 10) yX10_isLied yX10_isLied ∈ TW ∧ Cond.initialized (clR 10) ∈ TW ∧ Cond.code yX10_isLied mX10_isLied.2.1 mX10_isLied.2.2.1 mX10_isLied.2.2.2 ∈ TW ∧ (yX10_isLied.cls = clR 10 ∧ yX10_isLied.cls ≠ "java/lang/invoke/MethodHandle" ∧ yX10_isLied.cls ≠ "java/lang/invoke/VarHandle" ∧ (parseMethodDescriptor yX10_isLied.desc).map (fun d => d.parameters.length) = some 1) ∧ mX10_isLied.2.2.1 ≤ 19 ∧ 10 < 14 := ⟨TW_at 711 (by decide +kernel) (by decide +kernel), TW_at 712 (by decide +kernel) (by decide +kernel), TW_at 117 (by decide +kernel) (by decide +kernel), TW_at 713 (by decide +kernel) (by decide +kernel), by decide +kernel, by decide, by decide⟩
theorem mmX10_isToldBrown : Cond.instanceMethod yX10_isToldBrown ∈ TW ∧ Cond.selects (clR 10) yX10_isToldBrown yX10_isToldBrown ∈ TW ∧ Cond.initialized (clR 10) ∈ TW ∧ Cond.code yX10_isToldBrown mX10_isToldBrown.2.1 mX10_isToldBrown.2.2.1 mX10_isToldBrown.2.2.2 ∈ TW ∧ (yX10_isToldBrown.cls = clR 10 ∧ yX10_isToldBrown.cls ≠ "java/lang/invoke/MethodHandle" ∧ yX10_isToldBrown.cls ≠ "java/lang/invoke/VarHandle" ∧ (parseMethodDescriptor yX10_isToldBrown.desc).map (fun d => d.parameters.length) = some 1) ∧ mX10_isToldBrown.2.2.1 ≤ 19 ∧ 10 < 14 := ⟨TW_at 715 (by decide +kernel) (by decide +kernel), TW_at 716 (by decide +kernel) (by decide +kernel), TW_at 117 (by decide +kernel) (by decide +kernel), TW_at 717 (by decide +kernel) (by decide +kernel), by decide +kernel, by decide, by decide⟩
theorem mmX10_clashesAmong : Cond.instanceMethod yX10_clashesAmong ∈ TW ∧ Cond.selects (clR 10) yX10_clashesAmong yX10_clashesAmong ∈ TW ∧ Cond.initialized (clR 10) ∈ TW ∧ Cond.code yX10_clashesAmong mX10_clashesAmong.2.1 mX10_clashesAmong.2.2.1 mX10_clashesAmong.2.2.2 ∈ TW ∧ (yX10_clashesAmong.cls = clR 10 ∧ yX10_clashesAmong.cls ≠ "java/lang/invoke/MethodHandle" ∧ yX10_clashesAmong.cls ≠ "java/lang/invoke/VarHandle" ∧ (parseMethodDescriptor yX10_clashesAmong.desc).map (fun d => d.parameters.length) = some 1) ∧ mX10_clashesAmong.2.2.1 ≤ 19 ∧ 10 < 14 := ⟨TW_at 973 (by decide +kernel) (by decide +kernel), TW_at 974 (by decide +kernel) (by decide +kernel), TW_at 117 (by decide +kernel) (by decide +kernel), TW_at 975 (by decide +kernel) (by decide +kernel), by decide +kernel, by decide, by decide⟩
theorem mmX10_clashingWith : Cond.instanceMethod yX10_clashingWith ∈ TW ∧ Cond.selects (clR 10) yX10_clashingWith yX10_clashingWith ∈ TW ∧ Cond.initialized (clR 10) ∈ TW ∧ Cond.code yX10_clashingWith mX10_clashingWith.2.1 mX10_clashingWith.2.2.1 mX10_clashingWith.2.2.2 ∈ TW ∧ (yX10_clashingWith.cls = clR 10 ∧ yX10_clashingWith.cls ≠ "java/lang/invoke/MethodHandle" ∧ yX10_clashingWith.cls ≠ "java/lang/invoke/VarHandle" ∧ (parseMethodDescriptor yX10_clashingWith.desc).map (fun d => d.parameters.length) = some 1) ∧ mX10_clashingWith.2.2.1 ≤ 19 ∧ 10 < 14 := ⟨TW_at 617 (by decide +kernel) (by decide +kernel), TW_at 618 (by decide +kernel) (by decide +kernel), TW_at 117 (by decide +kernel) (by decide +kernel), TW_at 619 (by decide +kernel) (by decide +kernel), by decide +kernel, by decide, by decide⟩
theorem mmX11_feed : Cond.instanceMethod yX11_feed ∈ TW ∧ Cond.selects (clR 11) yX11_feed yX11_feed ∈ TW ∧ Cond.initialized (clR 11) ∈ TW ∧ Cond.code yX11_feed mX11_feed.2.1 mX11_feed.2.2.1 mX11_feed.2.2.2 ∈ TW ∧ (yX11_feed.cls = clR 11 ∧ yX11_feed.cls ≠ "java/lang/invoke/MethodHandle" ∧ yX11_feed.cls ≠ "java/lang/invoke/VarHandle" ∧ (parseMethodDescriptor yX11_feed.desc).map (fun d => d.parameters.length) = some 5) ∧ mX11_feed.2.2.1 ≤ 19 ∧ 11 < 14 := ⟨TW_at 424 (by decide +kernel) (by decide +kernel), TW_at 425 (by decide +kernel) (by decide +kernel), TW_at 113 (by decide +kernel) (by decide +kernel), TW_at 426 (by decide +kernel) (by decide +kernel), by decide +kernel, by decide, by decide⟩
theorem mmX11_web : Cond.instanceMethod yX11_web ∈ TW ∧ Cond.selects (clR 11) yX11_web yX11_web ∈ TW ∧ Cond.initialized (clR 11) ∈ TW ∧ Cond.code yX11_web mX11_web.2.1 mX11_web.2.2.1 mX11_web.2.2.2 ∈ TW ∧ (yX11_web.cls = clR 11 ∧ yX11_web.cls ≠ "java/lang/invoke/MethodHandle" ∧ yX11_web.cls ≠ "java/lang/invoke/VarHandle" ∧ (parseMethodDescriptor yX11_web.desc).map (fun d => d.parameters.length) = some 1) ∧ mX11_web.2.2.1 ≤ 19 ∧ 11 < 14 := ⟨TW_at 436 (by decide +kernel) (by decide +kernel), TW_at 437 (by decide +kernel) (by decide +kernel), TW_at 113 (by decide +kernel) (by decide +kernel), TW_at 438 (by decide +kernel) (by decide +kernel), by decide +kernel, by decide, by decide⟩
theorem mmX11_fault : Cond.instanceMethod yX11_fault ∈ TW ∧ Cond.selects (clR 11) yX11_fault yX11_fault ∈ TW ∧ Cond.initialized (clR 11) ∈ TW ∧ Cond.code yX11_fault mX11_fault.2.1 mX11_fault.2.2.1 mX11_fault.2.2.2 ∈ TW ∧ (yX11_fault.cls = clR 11 ∧ yX11_fault.cls ≠ "java/lang/invoke/MethodHandle" ∧ yX11_fault.cls ≠ "java/lang/invoke/VarHandle" ∧ (parseMethodDescriptor yX11_fault.desc).map (fun d => d.parameters.length) = some 0) ∧ mX11_fault.2.2.1 ≤ 19 ∧ 11 < 14 := ⟨TW_at 720 (by decide +kernel) (by decide +kernel), TW_at 721 (by decide +kernel) (by decide +kernel), TW_at 113 (by decide +kernel) (by decide +kernel), TW_at 722 (by decide +kernel) (by decide +kernel), by decide +kernel, by decide, by decide⟩
theorem mmX11_where : Cond.instanceMethod yX11_where ∈ TW ∧ Cond.selects (clR 11) yX11_where yX11_where ∈ TW ∧ Cond.initialized (clR 11) ∈ TW ∧ Cond.code yX11_where mX11_where.2.1 mX11_where.2.2.1 mX11_where.2.2.2 ∈ TW ∧ (yX11_where.cls = clR 11 ∧ yX11_where.cls ≠ "java/lang/invoke/MethodHandle" ∧ yX11_where.cls ≠ "java/lang/invoke/VarHandle" ∧ (parseMethodDescriptor yX11_where.desc).map (fun d => d.parameters.length) = some 0) ∧ mX11_where.2.2.1 ≤ 19 ∧ 11 < 14 := ⟨TW_at 724 (by decide +kernel) (by decide +kernel), TW_at 725 (by decide +kernel) (by decide +kernel), TW_at 113 (by decide +kernel) (by decide +kernel), TW_at 726 (by decide +kernel) (by decide +kernel), by decide +kernel, by decide, by decide⟩
theorem mmX11_thread : Cond.instanceMethod yX11_thread ∈ TW ∧ Cond.selects (clR 11) yX11_thread yX11_thread ∈ TW ∧ Cond.initialized (clR 11) ∈ TW ∧ Cond.code yX11_thread mX11_thread.2.1 mX11_thread.2.2.1 mX11_thread.2.2.2 ∈ TW ∧ (yX11_thread.cls = clR 11 ∧ yX11_thread.cls ≠ "java/lang/invoke/MethodHandle" ∧ yX11_thread.cls ≠ "java/lang/invoke/VarHandle" ∧ (parseMethodDescriptor yX11_thread.desc).map (fun d => d.parameters.length) = some 2) ∧ mX11_thread.2.2.1 ≤ 19 ∧ 11 < 14 := ⟨TW_at 728 (by decide +kernel) (by decide +kernel), TW_at 729 (by decide +kernel) (by decide +kernel), TW_at 113 (by decide +kernel) (by decide +kernel), TW_at 730 (by decide +kernel) (by decide +kernel), by decide +kernel, by decide, by decide⟩
theorem mmX11_nail : Cond.instanceMethod yX11_nail ∈ TW ∧ Cond.selects (clR 11) yX11_nail yX11_nail ∈ TW ∧ Cond.initialized (clR 11) ∈ TW ∧ Cond.code yX11_nail mX11_nail.2.1 mX11_nail.2.2.1 mX11_nail.2.2.2 ∈ TW ∧ (yX11_nail.cls = clR 11 ∧ yX11_nail.cls ≠ "java/lang/invoke/MethodHandle" ∧ yX11_nail.cls ≠ "java/lang/invoke/VarHandle" ∧ (parseMethodDescriptor yX11_nail.desc).map (fun d => d.parameters.length) = some 2) ∧ mX11_nail.2.2.1 ≤ 19 ∧ 11 < 14 := ⟨TW_at 763 (by decide +kernel) (by decide +kernel), TW_at 764 (by decide +kernel) (by decide +kernel), TW_at 113 (by decide +kernel) (by decide +kernel), TW_at 765 (by decide +kernel) (by decide +kernel), by decide +kernel, by decide, by decide⟩
theorem mmX11_strong : Cond.instanceMethod yX11_strong ∈ TW ∧ Cond.selects (clR 11) yX11_strong yX11_strong ∈ TW ∧ Cond.initialized (clR 11) ∈ TW ∧ Cond.code yX11_strong mX11_strong.2.1 mX11_strong.2.2.1 mX11_strong.2.2.2 ∈ TW ∧ (yX11_strong.cls = clR 11 ∧ yX11_strong.cls ≠ "java/lang/invoke/MethodHandle" ∧ yX11_strong.cls ≠ "java/lang/invoke/VarHandle" ∧ (parseMethodDescriptor yX11_strong.desc).map (fun d => d.parameters.length) = some 2) ∧ mX11_strong.2.2.1 ≤ 19 ∧ 11 < 14 := ⟨TW_at 805 (by decide +kernel) (by decide +kernel), TW_at 806 (by decide +kernel) (by decide +kernel), TW_at 113 (by decide +kernel) (by decide +kernel), TW_at 807 (by decide +kernel) (by decide +kernel), by decide +kernel, by decide, by decide⟩
theorem mmX11_breaksIn : Cond.instanceMethod yX11_breaksIn ∈ TW ∧ Cond.selects (clR 11) yX11_breaksIn yX11_breaksIn ∈ TW ∧ Cond.initialized (clR 11) ∈ TW ∧ Cond.code yX11_breaksIn mX11_breaksIn.2.1 mX11_breaksIn.2.2.1 mX11_breaksIn.2.2.2 ∈ TW ∧ (yX11_breaksIn.cls = clR 11 ∧ yX11_breaksIn.cls ≠ "java/lang/invoke/MethodHandle" ∧ yX11_breaksIn.cls ≠ "java/lang/invoke/VarHandle" ∧ (parseMethodDescriptor yX11_breaksIn.desc).map (fun d => d.parameters.length) = some 1) ∧ mX11_breaksIn.2.2.1 ≤ 19 ∧ 11 < 14 := ⟨TW_at 812 (by decide +kernel) (by decide +kernel), TW_at 813 (by decide +kernel) (by decide +kernel), TW_at 113 (by decide +kernel) (by decide +kernel), TW_at 814 (by decide +kernel) (by decide +kernel), by decide +kernel, by decide, by decide⟩
theorem mmX11_holding : Cond.instanceMethod yX11_holding ∈ TW ∧ Cond.selects (clR 11) yX11_holding yX11_holding ∈ TW ∧ Cond.initialized (clR 11) ∈ TW ∧ Cond.code yX11_holding mX11_holding.2.1 mX11_holding.2.2.1 mX11_holding.2.2.2 ∈ TW ∧ (yX11_holding.cls = clR 11 ∧ yX11_holding.cls ≠ "java/lang/invoke/MethodHandle" ∧ yX11_holding.cls ≠ "java/lang/invoke/VarHandle" ∧ (parseMethodDescriptor yX11_holding.desc).map (fun d => d.parameters.length) = some 1) ∧ mX11_holding.2.2.1 ≤ 19 ∧ 11 < 14 := ⟨TW_at 816 (by decide +kernel) (by decide +kernel), TW_at 817 (by decide +kernel) (by decide +kernel), TW_at 113 (by decide +kernel) (by decide +kernel), TW_at 818 (by decide +kernel) (by decide +kernel), by decide +kernel, by decide, by decide⟩
theorem mmX11_strongest : Cond.instanceMethod yX11_strongest ∈ TW ∧ Cond.selects (clR 11) yX11_strongest yX11_strongest ∈ TW ∧ Cond.initialized (clR 11) ∈ TW ∧ Cond.code yX11_strongest mX11_strongest.2.1 mX11_strongest.2.2.1 mX11_strongest.2.2.2 ∈ TW ∧ (yX11_strongest.cls = clR 11 ∧ yX11_strongest.cls ≠ "java/lang/invoke/MethodHandle" ∧ yX11_strongest.cls ≠ "java/lang/invoke/VarHandle" ∧ (parseMethodDescriptor yX11_strongest.desc).map (fun d => d.parameters.length) = some 1) ∧ mX11_strongest.2.2.1 ≤ 19 ∧ 11 < 14 := ⟨TW_at 828 (by decide +kernel) (by decide +kernel), TW_at 829 (by decide +kernel) (by decide +kernel), TW_at 113 (by decide +kernel) (by decide +kernel), TW_at 830 (by decide +kernel) (by decide +kernel), by decide +kernel, by decide, by decide⟩
theorem mmX11_bears : Cond.instanceMethod yX11_bears ∈ TW ∧ Cond.selects (clR 11) yX11_bears yX11_bears ∈ TW ∧ Cond.initialized (clR 11) ∈ TW ∧ Cond.code yX11_bears mX11_bears.2.1 mX11_bears.2.2.1 mX11_bears.2.2.2 ∈ TW ∧ (yX11_bears.cls = clR 11 ∧ yX11_bears.cls ≠ "java/lang/invoke/MethodHandle" ∧ yX11_bears.cls ≠ "java/lang/invoke/VarHandle" ∧ (parseMethodDescriptor yX11_bears.desc).map (fun d => d.parameters.length) = some 3) ∧ mX11_bears.2.2.1 ≤ 19 ∧ 11 < 14 := ⟨TW_at 832 (by decide +kernel) (by decide +kernel), TW_at 833 (by decide +kernel) (by decide +kernel), TW_at 113 (by decide +kernel) (by decide +kernel), TW_at 834 (by decide +kernel) (by decide +kernel), by decide +kernel, by decide, by decide⟩
theorem mmX11_cut : Cond.instanceMethod yX11_cut ∈ TW ∧ Cond.selects (clR 11) yX11_cut yX11_cut ∈ TW ∧ Cond.initialized (clR 11) ∈ TW ∧ Cond.code yX11_cut mX11_cut.2.1 mX11_cut.2.2.1 mX11_cut.2.2.2 ∈ TW ∧ (yX11_cut.cls = clR 11 ∧ yX11_cut.cls ≠ "java/lang/invoke/MethodHandle" ∧ yX11_cut.cls ≠ "java/lang/invoke/VarHandle" ∧ (parseMethodDescriptor yX11_cut.desc).map (fun d => d.parameters.length) = some 3) ∧ mX11_cut.2.2.1 ≤ 19 ∧ 11 < 14 := ⟨TW_at 860 (by decide +kernel) (by decide +kernel), TW_at 861 (by decide +kernel) (by decide +kernel), TW_at 113 (by decide +kernel) (by decide +kernel), TW_at 862 (by decide +kernel) (by decide +kernel), by decide +kernel, by decide, by decide⟩
theorem mmX11_vital : Cond.instanceMethod yX11_vital ∈ TW ∧ Cond.selects (clR 11) yX11_vital yX11_vital ∈ TW ∧ Cond.initialized (clR 11) ∈ TW ∧ Cond.code yX11_vital mX11_vital.2.1 mX11_vital.2.2.1 mX11_vital.2.2.2 ∈ TW ∧ (yX11_vital.cls = clR 11 ∧ yX11_vital.cls ≠ "java/lang/invoke/MethodHandle" ∧ yX11_vital.cls ≠ "java/lang/invoke/VarHandle" ∧ (parseMethodDescriptor yX11_vital.desc).map (fun d => d.parameters.length) = some 3) ∧ mX11_vital.2.2.1 ≤ 19 ∧ 11 < 14 := ⟨TW_at 878 (by decide +kernel) (by decide +kernel), TW_at 879 (by decide +kernel) (by decide +kernel), TW_at 113 (by decide +kernel) (by decide +kernel), TW_at 880 (by decide +kernel) (by decide +kernel), by decide +kernel, by decide, by decide⟩
theorem mmX11_needed : Cond.instanceMethod yX11_needed ∈ TW ∧ Cond.selects (clR 11) yX11_needed yX11_needed ∈ TW ∧ Cond.initialized (clR 11) ∈ TW ∧ Cond.code yX11_needed mX11_needed.2.1 mX11_needed.2.2.1 mX11_needed.2.2.2 ∈ TW ∧ (yX11_needed.cls = clR 11 ∧ yX11_needed.cls ≠ "java/lang/invoke/MethodHandle" ∧ yX11_needed.cls ≠ "java/lang/invoke/VarHandle" ∧ (parseMethodDescriptor yX11_needed.desc).map (fun d => d.parameters.length) = some 3) ∧ mX11_needed.2.2.1 ≤ 19 ∧ 11 < 14 := ⟨TW_at 884 (by decide +kernel) (by decide +kernel), TW_at 885 (by decide +kernel) (by decide +kernel), TW_at 113 (by decide +kernel) (by decide +kernel), TW_at 886 (by decide +kernel) (by decide +kernel), by decide +kernel, by decide, by decide⟩
theorem mmX11_weakest : Cond.instanceMethod yX11_weakest ∈ TW ∧ Cond.selects (clR 11) yX11_weakest yX11_weakest ∈ TW ∧ Cond.initialized (clR 11) ∈ TW ∧ Cond.code yX11_weakest mX11_weakest.2.1 mX11_weakest.2.2.1 mX11_weakest.2.2.2 ∈ TW ∧ (yX11_weakest.cls = clR 11 ∧ yX11_weakest.cls ≠ "java/lang/invoke/MethodHandle" ∧ yX11_weakest.cls ≠ "java/lang/invoke/VarHandle" ∧ (parseMethodDescriptor yX11_weakest.desc).map (fun d => d.parameters.length) = some 1) ∧ mX11_weakest.2.2.1 ≤ 19 ∧ 11 < 14 := ⟨TW_at 888 (by decide +kernel) (by decide +kernel), TW_at 889 (by decide +kernel) (by decide +kernel), TW_at 113 (by decide +kernel) (by decide +kernel), TW_at 890 (by decide +kernel) (by decide +kernel), by decide +kernel, by decide, by decide⟩
theorem mmX11_apart : Cond.instanceMethod yX11_apart ∈ TW ∧ Cond.selects (clR 11) yX11_apart yX11_apart ∈ TW ∧ Cond.initialized (clR 11) ∈ TW ∧ Cond.code yX11_apart mX11_apart.2.1 mX11_apart.2.2.1 mX11_apart.2.2.2 ∈ TW ∧ (yX11_apart.cls = clR 11 ∧ yX11_apart.cls ≠ "java/lang/invoke/MethodHandle" ∧ yX11_apart.cls ≠ "java/lang/invoke/VarHandle" ∧ (parseMethodDescriptor yX11_apart.desc).map (fun d => d.parameters.length) = some 3) ∧ mX11_apart.2.2.1 ≤ 19 ∧ 11 < 14 := ⟨TW_at 892 (by decide +kernel) (by decide +kernel), TW_at 893 (by decide +kernel) (by decide +kernel), TW_at 113 (by decide +kernel) (by decide +kernel), TW_at 894 (by decide +kernel) (by decide +kernel), by decide +kernel, by decide, by decide⟩
theorem mmX11_parts : Cond.instanceMethod yX11_parts ∈ TW ∧ Cond.selects (clR 11) yX11_parts yX11_parts ∈ TW ∧ Cond.initialized (clR 11) ∈ TW ∧ Cond.code yX11_parts mX11_parts.2.1 mX11_parts.2.2.1 mX11_parts.2.2.2 ∈ TW ∧ (yX11_parts.cls = clR 11 ∧ yX11_parts.cls ≠ "java/lang/invoke/MethodHandle" ∧ yX11_parts.cls ≠ "java/lang/invoke/VarHandle" ∧ (parseMethodDescriptor yX11_parts.desc).map (fun d => d.parameters.length) = some 1) ∧ mX11_parts.2.2.1 ≤ 19 ∧ 11 < 14 := ⟨TW_at 904 (by decide +kernel) (by decide +kernel), TW_at 905 (by decide +kernel) (by decide +kernel), TW_at 113 (by decide +kernel) (by decide +kernel), TW_at 906 (by decide +kernel) (by decide +kernel), by decide +kernel, by decide, by decide⟩
theorem mmX11_bridges : Cond.instanceMethod yX11_bridges ∈ TW ∧ Cond.selects (clR 11) yX11_bridges yX11_bridges ∈ TW ∧ Cond.initialized (clR 11) ∈ TW ∧ Cond.code yX11_bridges mX11_bridges.2.1 mX11_bridges.2.2.1 mX11_bridges.2.2.2 ∈ TW ∧ (yX11_bridges.cls = clR 11 ∧ yX11_bridges.cls ≠ "java/lang/invoke/MethodHandle" ∧ yX11_bridges.cls ≠ "java/lang/invoke/VarHandle" ∧ (parseMethodDescriptor yX11_bridges.desc).map (fun d => d.parameters.length) = some 1) ∧ mX11_bridges.2.2.1 ≤ 19 ∧ 11 < 14 := ⟨TW_at 916 (by decide +kernel) (by decide +kernel), TW_at 917 (by decide +kernel) (by decide +kernel), TW_at 113 (by decide +kernel) (by decide +kernel), TW_at 918 (by decide +kernel) (by decide +kernel), by decide +kernel, by decide, by decide⟩
theorem mmX11_borne : Cond.instanceMethod yX11_borne ∈ TW ∧ Cond.selects (clR 11) yX11_borne yX11_borne ∈ TW ∧ Cond.initialized (clR 11) ∈ TW ∧ Cond.code yX11_borne mX11_borne.2.1 mX11_borne.2.2.1 mX11_borne.2.2.2 ∈ TW ∧ (yX11_borne.cls = clR 11 ∧ yX11_borne.cls ≠ "java/lang/invoke/MethodHandle" ∧ yX11_borne.cls ≠ "java/lang/invoke/VarHandle" ∧ (parseMethodDescriptor yX11_borne.desc).map (fun d => d.parameters.length) = some 1) ∧ mX11_borne.2.2.1 ≤ 19 ∧ 11 < 14 := ⟨TW_at 920 (by decide +kernel) (by decide +kernel), TW_at 921 (by decide +kernel) (by decide +kernel), TW_at 113 (by decide +kernel) (by decide +kernel), TW_at 922 (by decide +kernel) (by decide +kernel), by decide +kernel, by decide, by decide⟩
theorem mmX11_fallsIn : Cond.instanceMethod yX11_fallsIn ∈ TW ∧ Cond.selects (clR 11) yX11_fallsIn yX11_fallsIn ∈ TW ∧ Cond.initialized (clR 11) ∈ TW ∧ Cond.code yX11_fallsIn mX11_fallsIn.2.1 mX11_fallsIn.2.2.1 mX11_fallsIn.2.2.2 ∈ TW ∧ (yX11_fallsIn.cls = clR 11 ∧ yX11_fallsIn.cls ≠ "java/lang/invoke/MethodHandle" ∧ yX11_fallsIn.cls ≠ "java/lang/invoke/VarHandle" ∧ (parseMethodDescriptor yX11_fallsIn.desc).map (fun d => d.parameters.length) = some 1) ∧ mX11_fallsIn.2.2.1 ≤ 19 ∧ 11 < 14 := ⟨TW_at 933 (by decide +kernel) (by decide +kernel), TW_at 934 (by decide +kernel) (by decide +kernel), TW_at 113 (by decide +kernel) (by decide +kernel), TW_at 935 (by decide +kernel) (by decide +kernel), by decide +kernel, by decide, by decide⟩
theorem mmX11_spare : Cond.instanceMethod yX11_spare ∈ TW ∧ Cond.selects (clR 11) yX11_spare yX11_spare ∈ TW ∧ Cond.initialized (clR 11) ∈ TW ∧ Cond.code yX11_spare mX11_spare.2.1 mX11_spare.2.2.1 mX11_spare.2.2.2 ∈ TW ∧ (yX11_spare.cls = clR 11 ∧ yX11_spare.cls ≠ "java/lang/invoke/MethodHandle" ∧ yX11_spare.cls ≠ "java/lang/invoke/VarHandle" ∧ (parseMethodDescriptor yX11_spare.desc).map (fun d => d.parameters.length) = some 1) ∧ mX11_spare.2.2.1 ≤ 19 ∧ 11 < 14 := ⟨TW_at 941 (by decide +kernel) (by decide +kernel), TW_at 942 (by decide +kernel) (by decide +kernel), TW_at 113 (by decide +kernel) (by decide +kernel), TW_at 943 (by decide +kernel) (by decide +kernel), by decide +kernel, by decide, by decide⟩
theorem mmX11_mend : Cond.instanceMethod yX11_mend ∈ TW ∧ Cond.selects (clR 11) yX11_mend yX11_mend ∈ TW ∧ Cond.initialized (clR 11) ∈ TW ∧ Cond.code yX11_mend mX11_mend.2.1 mX11_mend.2.2.1 mX11_mend.2.2.2 ∈ TW ∧ (yX11_mend.cls = clR 11 ∧ yX11_mend.cls ≠ "java/lang/invoke/MethodHandle" ∧ yX11_mend.cls ≠ "java/lang/invoke/VarHandle" ∧ (parseMethodDescriptor yX11_mend.desc).map (fun d => d.parameters.length) = some 0) ∧ mX11_mend.2.2.1 ≤ 19 ∧ 11 < 14 := ⟨TW_at 945 (by decide +kernel) (by decide +kernel), TW_at 946 (by decide +kernel) (by decide +kernel), TW_at 113 (by decide +kernel) (by decide +kernel), TW_at 947 (by decide +kernel) (by decide +kernel), by decide +kernel, by decide, by decide⟩
theorem mmX11_mendCost : Cond.instanceMethod yX11_mendCost ∈ TW ∧ Cond.selects (clR 11) yX11_mendCost yX11_mendCost ∈ TW ∧ Cond.initialized (clR 11) ∈ TW ∧ Cond.code yX11_mendCost mX11_mendCost.2.1 mX11_mendCost.2.2.1 mX11_mendCost.2.2.2 ∈ TW ∧ (yX11_mendCost.cls = clR 11 ∧ yX11_mendCost.cls ≠ "java/lang/invoke/MethodHandle" ∧ yX11_mendCost.cls ≠ "java/lang/invoke/VarHandle" ∧ (parseMethodDescriptor yX11_mendCost.desc).map (fun d => d.parameters.length) = some 0) ∧ mX11_mendCost.2.2.1 ≤ 19 ∧ 11 < 14 := ⟨TW_at 960 (by decide +kernel) (by decide +kernel), TW_at 961 (by decide +kernel) (by decide +kernel), TW_at 113 (by decide +kernel) (by decide +kernel), TW_at 962 (by decide +kernel) (by decide +kernel), by decide +kernel, by decide, by decide⟩
theorem mmX11_bestOffer : Cond.instanceMethod yX11_bestOffer ∈ TW ∧ Cond.selects (clR 11) yX11_bestOffer yX11_bestOffer ∈ TW ∧ Cond.initialized (clR 11) ∈ TW ∧ Cond.code yX11_bestOffer mX11_bestOffer.2.1 mX11_bestOffer.2.2.1 mX11_bestOffer.2.2.2 ∈ TW ∧ (yX11_bestOffer.cls = clR 11 ∧ yX11_bestOffer.cls ≠ "java/lang/invoke/MethodHandle" ∧ yX11_bestOffer.cls ≠ "java/lang/invoke/VarHandle" ∧ (parseMethodDescriptor yX11_bestOffer.desc).map (fun d => d.parameters.length) = some 0) ∧ mX11_bestOffer.2.2.1 ≤ 19 ∧ 11 < 14 := ⟨TW_at 964 (by decide +kernel) (by decide +kernel), TW_at 965 (by decide +kernel) (by decide +kernel), TW_at 113 (by decide +kernel) (by decide +kernel), TW_at 966 (by decide +kernel) (by decide +kernel), by decide +kernel, by decide, by decide⟩
theorem mmX11_clashes : Cond.instanceMethod yX11_clashes ∈ TW ∧ Cond.selects (clR 11) yX11_clashes yX11_clashes ∈ TW ∧ Cond.initialized (clR 11) ∈ TW ∧ Cond.code yX11_clashes mX11_clashes.2.1 mX11_clashes.2.2.1 mX11_clashes.2.2.2 ∈ TW ∧ (yX11_clashes.cls = clR 11 ∧ yX11_clashes.cls ≠ "java/lang/invoke/MethodHandle" ∧ yX11_clashes.cls ≠ "java/lang/invoke/VarHandle" ∧ (parseMethodDescriptor yX11_clashes.desc).map (fun d => d.parameters.length) = some 1) ∧ mX11_clashes.2.2.1 ≤ 19 ∧ 11 < 14 := ⟨TW_at 969 (by decide +kernel) (by decide +kernel), TW_at 970 (by decide +kernel) (by decide +kernel), TW_at 113 (by decide +kernel) (by decide +kernel), TW_at 971 (by decide +kernel) (by decide +kernel), by decide +kernel, by decide, by decide⟩
theorem mmX11_breakFew : Cond.instanceMethod yX11_breakFew ∈ TW ∧ Cond.selects (clR 11) yX11_breakFew yX11_breakFew ∈ TW ∧ Cond.initialized (clR 11) ∈ TW ∧ Cond.code yX11_breakFew mX11_breakFew.2.1 mX11_breakFew.2.2.1 mX11_breakFew.2.2.2 ∈ TW ∧ (yX11_breakFew.cls = clR 11 ∧ yX11_breakFew.cls ≠ "java/lang/invoke/MethodHandle" ∧ yX11_breakFew.cls ≠ "java/lang/invoke/VarHandle" ∧ (parseMethodDescriptor yX11_breakFew.desc).map (fun d => d.parameters.length) = some 0) ∧ mX11_breakFew.2.2.1 ≤ 19 ∧ 11 < 14 := ⟨TW_at 978 (by decide +kernel) (by decide +kernel), TW_at 979 (by decide +kernel) (by decide +kernel), TW_at 113 (by decide +kernel) (by decide +kernel), TW_at 980 (by decide +kernel) (by decide +kernel), by decide +kernel, by decide, by decide⟩
theorem mmX11_breakRued : Cond.instanceMethod yX11_breakRued ∈ TW ∧ Cond.selects (clR 11) yX11_breakRued yX11_breakRued ∈ TW ∧ Cond.initialized (clR 11) ∈ TW ∧ Cond.code yX11_breakRued mX11_breakRued.2.1 mX11_breakRued.2.2.1 mX11_breakRued.2.2.2 ∈ TW ∧ (yX11_breakRued.cls = clR 11 ∧ yX11_breakRued.cls ≠ "java/lang/invoke/MethodHandle" ∧ yX11_breakRued.cls ≠ "java/lang/invoke/VarHandle" ∧ (parseMethodDescriptor yX11_breakRued.desc).map (fun d => d.parameters.length) = some 0) ∧ mX11_breakRued.2.2.1 ≤ 19 ∧ 11 < 14 := ⟨TW_at 989 (by decide +kernel) (by decide +kernel), TW_at 990 (by decide +kernel) (by decide +kernel), TW_at 113 (by decide +kernel) (by decide +kernel), TW_at 991 (by decide +kernel) (by decide +kernel), by decide +kernel, by decide, by decide⟩
theorem mmX11_rue : Cond.instanceMethod yX11_rue ∈ TW ∧ Cond.selects (clR 11) yX11_rue yX11_rue ∈ TW ∧ Cond.initialized (clR 11) ∈ TW ∧ Cond.code yX11_rue mX11_rue.2.1 mX11_rue.2.2.1 mX11_rue.2.2.2 ∈ TW ∧ (yX11_rue.cls = clR 11 ∧ yX11_rue.cls ≠ "java/lang/invoke/MethodHandle" ∧ yX11_rue.cls ≠ "java/lang/invoke/VarHandle" ∧ (parseMethodDescriptor yX11_rue.desc).map (fun d => d.parameters.length) = some 0) ∧ mX11_rue.2.2.1 ≤ 19 ∧ 11 < 14 := ⟨TW_at 993 (by decide +kernel) (by decide +kernel), TW_at 994 (by decide +kernel) (by decide +kernel), TW_at 113 (by decide +kernel) (by decide +kernel), TW_at 995 (by decide +kernel) (by decide +kernel), by decide +kernel, by decide, by decide⟩
theorem mmX11_peaces : Cond.instanceMethod yX11_peaces ∈ TW ∧ Cond.selects (clR 11) yX11_peaces yX11_peaces ∈ TW ∧ Cond.initialized (clR 11) ∈ TW ∧ Cond.code yX11_peaces mX11_peaces.2.1 mX11_peaces.2.2.1 mX11_peaces.2.2.2 ∈ TW ∧ (yX11_peaces.cls = clR 11 ∧ yX11_peaces.cls ≠ "java/lang/invoke/MethodHandle" ∧ yX11_peaces.cls ≠ "java/lang/invoke/VarHandle" ∧ (parseMethodDescriptor yX11_peaces.desc).map (fun d => d.parameters.length) = some 0) ∧ mX11_peaces.2.2.1 ≤ 19 ∧ 11 < 14 := ⟨TW_at 997 (by decide +kernel) (by decide +kernel), TW_at 998 (by decide +kernel) (by decide +kernel), TW_at 113 (by decide +kernel) (by decide +kernel), TW_at 999 (by decide +kernel) (by decide +kernel), by decide +kernel, by decide, by decide⟩
theorem mmX11_fits : Cond.instanceMethod yX11_fits ∈ TW ∧ Cond.selects (clR 11) yX11_fits yX11_fits ∈ TW ∧ Cond.initialized (clR 11) ∈ TW ∧ Cond.code yX11_fits mX11_fits.2.1 mX11_fits.2.2.1 mX11_fits.2.2.2 ∈ TW ∧ (yX11_fits.cls = clR 11 ∧ yX11_fits.cls ≠ "java/lang/invoke/MethodHandle" ∧ yX11_fits.cls ≠ "java/lang/invoke/VarHandle" ∧ (parseMethodDescriptor yX11_fits.desc).map (fun d => d.parameters.length) = some 0) ∧ mX11_fits.2.2.1 ≤ 19 ∧ 11 < 14 := ⟨TW_at 1001 (by decide +kernel) (by decide +kernel), TW_at 1002 (by decide +kernel) (by decide +kernel), TW_at 113 (by decide +kernel) (by decide +kernel), TW_at 1003 (by decide +kernel) (by decide +kernel), by decide +kernel, by decide, by decide⟩
theorem mmX11_fitAt : Cond.instanceMethod yX11_fitAt ∈ TW ∧ Cond.selects (clR 11) yX11_fitAt yX11_fitAt ∈ TW ∧ Cond.initialized (clR 11) ∈ TW ∧ Cond.code yX11_fitAt mX11_fitAt.2.1 mX11_fitAt.2.2.1 mX11_fitAt.2.2.2 ∈ TW ∧ (yX11_fitAt.cls = clR 11 ∧ yX11_fitAt.cls ≠ "java/lang/invoke/MethodHandle" ∧ yX11_fitAt.cls ≠ "java/lang/invoke/VarHandle" ∧ (parseMethodDescriptor yX11_fitAt.desc).map (fun d => d.parameters.length) = some 1) ∧ mX11_fitAt.2.2.1 ≤ 19 ∧ 11 < 14 := ⟨TW_at 1009 (by decide +kernel) (by decide +kernel), TW_at 1010 (by decide +kernel) (by decide +kernel), TW_at 113 (by decide +kernel) (by decide +kernel), TW_at 1011 (by decide +kernel) (by decide +kernel), by decide +kernel, by decide, by decide⟩
theorem mmX11_odds : Cond.instanceMethod yX11_odds ∈ TW ∧ Cond.selects (clR 11) yX11_odds yX11_odds ∈ TW ∧ Cond.initialized (clR 11) ∈ TW ∧ Cond.code yX11_odds mX11_odds.2.1 mX11_odds.2.2.1 mX11_odds.2.2.2 ∈ TW ∧ (yX11_odds.cls = clR 11 ∧ yX11_odds.cls ≠ "java/lang/invoke/MethodHandle" ∧ yX11_odds.cls ≠ "java/lang/invoke/VarHandle" ∧ (parseMethodDescriptor yX11_odds.desc).map (fun d => d.parameters.length) = some 2) ∧ mX11_odds.2.2.1 ≤ 19 ∧ 11 < 14 := ⟨TW_at 1017 (by decide +kernel) (by decide +kernel), TW_at 1018 (by decide +kernel) (by decide +kernel), TW_at 113 (by decide +kernel) (by decide +kernel), TW_at 1019 (by decide +kernel) (by decide +kernel), by decide +kernel, by decide, by decide⟩
theorem mmX11_likeliest : Cond.instanceMethod yX11_likeliest ∈ TW ∧ Cond.selects (clR 11) yX11_likeliest yX11_likeliest ∈ TW ∧ Cond.initialized (clR 11) ∈ TW ∧ Cond.code yX11_likeliest mX11_likeliest.2.1 mX11_likeliest.2.2.1 mX11_likeliest.2.2.2 ∈ TW ∧ (yX11_likeliest.cls = clR 11 ∧ yX11_likeliest.cls ≠ "java/lang/invoke/MethodHandle" ∧ yX11_likeliest.cls ≠ "java/lang/invoke/VarHandle" ∧ (parseMethodDescriptor yX11_likeliest.desc).map (fun d => d.parameters.length) = some 0) ∧ mX11_likeliest.2.2.1 ≤ 19 ∧ 11 < 14 := ⟨TW_at 1041 (by decide +kernel) (by decide +kernel), TW_at 1042 (by decide +kernel) (by decide +kernel), TW_at 113 (by decide +kernel) (by decide +kernel), TW_at 1043 (by decide +kernel) (by decide +kernel), by decide +kernel, by decide, by decide⟩
theorem mmX11_test : Cond.instanceMethod yX11_test ∈ TW ∧ Cond.selects (clR 11) yX11_test yX11_test ∈ TW ∧ Cond.initialized (clR 11) ∈ TW ∧ Cond.code yX11_test mX11_test.2.1 mX11_test.2.2.1 mX11_test.2.2.2 ∈ TW ∧ (yX11_test.cls = clR 11 ∧ yX11_test.cls ≠ "java/lang/invoke/MethodHandle" ∧ yX11_test.cls ≠ "java/lang/invoke/VarHandle" ∧ (parseMethodDescriptor yX11_test.desc).map (fun d => d.parameters.length) = some 0) ∧ mX11_test.2.2.1 ≤ 19 ∧ 11 < 14 := ⟨TW_at 1049 (by decide +kernel) (by decide +kernel), TW_at 1050 (by decide +kernel) (by decide +kernel), TW_at 113 (by decide +kernel) (by decide +kernel), TW_at 1051 (by decide +kernel) (by decide +kernel), by decide +kernel, by decide, by decide⟩
theorem mmX11_testLeaves : Cond.instanceMethod yX11_testLeaves ∈ TW ∧ Cond.selects (clR 11) yX11_testLeaves yX11_testLeaves ∈ TW ∧ Cond.initialized (clR 11) ∈ TW ∧ Cond.code yX11_testLeaves mX11_testLeaves.2.1 mX11_testLeaves.2.2.1 mX11_testLeaves.2.2.2 ∈ TW ∧ (yX11_testLeaves.cls = clR 11 ∧ yX11_testLeaves.cls ≠ "java/lang/invoke/MethodHandle" ∧ yX11_testLeaves.cls ≠ "java/lang/invoke/VarHandle" ∧ (parseMethodDescriptor yX11_testLeaves.desc).map (fun d => d.parameters.length) = some 0) ∧ mX11_testLeaves.2.2.1 ≤ 19 ∧ 11 < 14 := ⟨TW_at 1063 (by decide +kernel) (by decide +kernel), TW_at 1064 (by decide +kernel) (by decide +kernel), TW_at 113 (by decide +kernel) (by decide +kernel), TW_at 1065 (by decide +kernel) (by decide +kernel), by decide +kernel, by decide, by decide⟩
theorem mmX11_brown : Cond.instanceMethod yX11_brown ∈ TW ∧ Cond.selects (clR 11) yX11_brown yX11_brown ∈ TW ∧ Cond.initialized (clR 11) ∈ TW ∧ Cond.code yX11_brown mX11_brown.2.1 mX11_brown.2.2.1 mX11_brown.2.2.2 ∈ TW ∧ (yX11_brown.cls = clR 11 ∧ yX11_brown.cls ≠ "java/lang/invoke/MethodHandle" ∧ yX11_brown.cls ≠ "java/lang/invoke/VarHandle" ∧ (parseMethodDescriptor yX11_brown.desc).map (fun d => d.parameters.length) = some 3) ∧ mX11_brown.2.2.1 ≤ 19 ∧ 11 < 14 := ⟨TW_at 1068 (by decide +kernel) (by decide +kernel), TW_at 1069 (by decide +kernel) (by decide +kernel), TW_at 113 (by decide +kernel) (by decide +kernel), TW_at 1070 (by decide +kernel) (by decide +kernel), by decide +kernel, by decide, by decide⟩
theorem mmX11_judge : Cond.instanceMethod yX11_judge ∈ TW ∧ Cond.selects (clR 11) yX11_judge yX11_judge ∈ TW ∧ Cond.initialized (clR 11) ∈ TW ∧ Cond.code yX11_judge mX11_judge.2.1 mX11_judge.2.2.1 mX11_judge.2.2.2 ∈ TW ∧ (yX11_judge.cls = clR 11 ∧ yX11_judge.cls ≠ "java/lang/invoke/MethodHandle" ∧ yX11_judge.cls ≠ "java/lang/invoke/VarHandle" ∧ (parseMethodDescriptor yX11_judge.desc).map (fun d => d.parameters.length) = some 0) ∧ mX11_judge.2.2.1 ≤ 19 ∧ 11 < 14 := ⟨TW_at 1076 (by decide +kernel) (by decide +kernel), TW_at 1077 (by decide +kernel) (by decide +kernel), TW_at 113 (by decide +kernel) (by decide +kernel), TW_at 1078 (by decide +kernel) (by decide +kernel), by decide +kernel, by decide, by decide⟩
theorem mmX11_snaps : Cond.instanceMethod yX11_snaps ∈ TW ∧ Cond.selects (clR 11) yX11_snaps yX11_snaps ∈ TW ∧ Cond.initialized (clR 11) ∈ TW ∧ Cond.code yX11_snaps mX11_snaps.2.1 mX11_snaps.2.2.1 mX11_snaps.2.2.2 ∈ TW ∧ (yX11_snaps.cls = clR 11 ∧ yX11_snaps.cls ≠ "java/lang/invoke/MethodHandle" ∧ yX11_snaps.cls ≠ "java/lang/invoke/VarHandle" ∧ (parseMethodDescriptor yX11_snaps.desc).map (fun d => d.parameters.length) = some 2) ∧ mX11_snaps.2.2.1 ≤ 19 ∧ 11 < 14 := ⟨TW_at 1082 (by decide +kernel) (by decide +kernel), TW_at 1083 (by decide +kernel) (by decide +kernel), TW_at 113 (by decide +kernel) (by decide +kernel), TW_at 1084 (by decide +kernel) (by decide +kernel), by decide +kernel, by decide, by decide⟩
theorem mmX11_snapsBy : Cond.instanceMethod yX11_snapsBy ∈ TW ∧ Cond.selects (clR 11) yX11_snapsBy yX11_snapsBy ∈ TW ∧ Cond.initialized (clR 11) ∈ TW ∧ Cond.code yX11_snapsBy mX11_snapsBy.2.1 mX11_snapsBy.2.2.1 mX11_snapsBy.2.2.2 ∈ TW ∧ (yX11_snapsBy.cls = clR 11 ∧ yX11_snapsBy.cls ≠ "java/lang/invoke/MethodHandle" ∧ yX11_snapsBy.cls ≠ "java/lang/invoke/VarHandle" ∧ (parseMethodDescriptor yX11_snapsBy.desc).map (fun d => d.parameters.length) = some 2) ∧ mX11_snapsBy.2.2.1 ≤ 19 ∧ 11 < 14 := ⟨TW_at 1100 (by decide +kernel) (by decide +kernel), TW_at 1101 (by decide +kernel) (by decide +kernel), TW_at 113 (by decide +kernel) (by decide +kernel), TW_at 1102 (by decide +kernel) (by decide +kernel), by decide +kernel, by decide, by decide⟩
theorem mmX11_blows : Cond.instanceMethod yX11_blows ∈ TW ∧ Cond.selects (clR 11) yX11_blows yX11_blows ∈ TW ∧ Cond.initialized (clR 11) ∈ TW ∧ Cond.code yX11_blows mX11_blows.2.1 mX11_blows.2.2.1 mX11_blows.2.2.2 ∈ TW ∧ (yX11_blows.cls = clR 11 ∧ yX11_blows.cls ≠ "java/lang/invoke/MethodHandle" ∧ yX11_blows.cls ≠ "java/lang/invoke/VarHandle" ∧ (parseMethodDescriptor yX11_blows.desc).map (fun d => d.parameters.length) = some 4) ∧ mX11_blows.2.2.1 ≤ 19 ∧ 11 < 14 := ⟨TW_at 1105 (by decide +kernel) (by decide +kernel), TW_at 1106 (by decide +kernel) (by decide +kernel), TW_at 113 (by decide +kernel) (by decide +kernel), TW_at 1107 (by decide +kernel) (by decide +kernel), by decide +kernel, by decide, by decide⟩
theorem mmX11_rests : Cond.instanceMethod yX11_rests ∈ TW ∧ Cond.selects (clR 11) yX11_rests yX11_rests ∈ TW ∧ Cond.initialized (clR 11) ∈ TW ∧ Cond.code yX11_rests mX11_rests.2.1 mX11_rests.2.2.1 mX11_rests.2.2.2 ∈ TW ∧ (yX11_rests.cls = clR 11 ∧ yX11_rests.cls ≠ "java/lang/invoke/MethodHandle" ∧ yX11_rests.cls ≠ "java/lang/invoke/VarHandle" ∧ (parseMethodDescriptor yX11_rests.desc).map (fun d => d.parameters.length) = some 1) ∧ mX11_rests.2.2.1 ≤ 19 ∧ 11 < 14 := ⟨TW_at 1112 (by decide +kernel) (by decide +kernel), TW_at 1113 (by decide +kernel) (by decide +kernel), TW_at 113 (by decide +kernel) (by decide +kernel), TW_at 1114 (by decide +kernel) (by decide +kernel), by decide +kernel, by decide, by decide⟩
theorem mmX11_rest : Cond.instanceMethod yX11_rest ∈ TW ∧ Cond.selects (clR 11) yX11_rest yX11_rest ∈ TW ∧ Cond.initialized (clR 11) ∈ TW ∧ Cond.code yX11_rest mX11_rest.2.1 mX11_rest.2.2.1 mX11_rest.2.2.2 ∈ TW ∧ (yX11_rest.cls = clR 11 ∧ yX11_rest.cls ≠ "java/lang/invoke/MethodHandle" ∧ yX11_rest.cls ≠ "java/lang/invoke/VarHandle" ∧ (parseMethodDescriptor yX11_rest.desc).map (fun d => d.parameters.length) = some 1) ∧ mX11_rest.2.2.1 ≤ 19 ∧ 11 < 14 := ⟨TW_at 1119 (by decide +kernel) (by decide +kernel), TW_at 1120 (by decide +kernel) (by decide +kernel), TW_at 113 (by decide +kernel) (by decide +kernel), TW_at 1121 (by decide +kernel) (by decide +kernel), by decide +kernel, by decide, by decide⟩
theorem mmX11_bearOdds : Cond.instanceMethod yX11_bearOdds ∈ TW ∧ Cond.selects (clR 11) yX11_bearOdds yX11_bearOdds ∈ TW ∧ Cond.initialized (clR 11) ∈ TW ∧ Cond.code yX11_bearOdds mX11_bearOdds.2.1 mX11_bearOdds.2.2.1 mX11_bearOdds.2.2.2 ∈ TW ∧ (yX11_bearOdds.cls = clR 11 ∧ yX11_bearOdds.cls ≠ "java/lang/invoke/MethodHandle" ∧ yX11_bearOdds.cls ≠ "java/lang/invoke/VarHandle" ∧ (parseMethodDescriptor yX11_bearOdds.desc).map (fun d => d.parameters.length) = some 4) ∧ mX11_bearOdds.2.2.1 ≤ 19 ∧ 11 < 14 := ⟨TW_at 1123 (by decide +kernel) (by decide +kernel), TW_at 1124 (by decide +kernel) (by decide +kernel), TW_at 113 (by decide +kernel) (by decide +kernel), TW_at 1125 (by decide +kernel) (by decide +kernel), by decide +kernel, by decide, by decide⟩
theorem mmX11_mean : Cond.instanceMethod yX11_mean ∈ TW ∧ Cond.selects (clR 11) yX11_mean yX11_mean ∈ TW ∧ Cond.initialized (clR 11) ∈ TW ∧ Cond.code yX11_mean mX11_mean.2.1 mX11_mean.2.2.1 mX11_mean.2.2.2 ∈ TW ∧ (yX11_mean.cls = clR 11 ∧ yX11_mean.cls ≠ "java/lang/invoke/MethodHandle" ∧ yX11_mean.cls ≠ "java/lang/invoke/VarHandle" ∧ (parseMethodDescriptor yX11_mean.desc).map (fun d => d.parameters.length) = some 3) ∧ mX11_mean.2.2.1 ≤ 19 ∧ 11 < 14 := ⟨TW_at 1139 (by decide +kernel) (by decide +kernel), TW_at 1140 (by decide +kernel) (by decide +kernel), TW_at 113 (by decide +kernel) (by decide +kernel), TW_at 1141 (by decide +kernel) (by decide +kernel), by decide +kernel, by decide, by decide⟩
theorem mmX11_years : Cond.instanceMethod yX11_years ∈ TW ∧ Cond.selects (clR 11) yX11_years yX11_years ∈ TW ∧ Cond.initialized (clR 11) ∈ TW ∧ Cond.code yX11_years mX11_years.2.1 mX11_years.2.2.1 mX11_years.2.2.2 ∈ TW ∧ (yX11_years.cls = clR 11 ∧ yX11_years.cls ≠ "java/lang/invoke/MethodHandle" ∧ yX11_years.cls ≠ "java/lang/invoke/VarHandle" ∧ (parseMethodDescriptor yX11_years.desc).map (fun d => d.parameters.length) = some 2) ∧ mX11_years.2.2.1 ≤ 19 ∧ 11 < 14 := ⟨TW_at 1143 (by decide +kernel) (by decide +kernel), TW_at 1144 (by decide +kernel) (by decide +kernel), TW_at 113 (by decide +kernel) (by decide +kernel), TW_at 1145 (by decide +kernel) (by decide +kernel), by decide +kernel, by decide, by decide⟩
theorem mmX11_fallsBy : Cond.instanceMethod yX11_fallsBy ∈ TW ∧ Cond.selects (clR 11) yX11_fallsBy yX11_fallsBy ∈ TW ∧ Cond.initialized (clR 11) ∈ TW ∧ Cond.code yX11_fallsBy mX11_fallsBy.2.1 mX11_fallsBy.2.2.1 mX11_fallsBy.2.2.2 ∈ TW ∧ (yX11_fallsBy.cls = clR 11 ∧ yX11_fallsBy.cls ≠ "java/lang/invoke/MethodHandle" ∧ yX11_fallsBy.cls ≠ "java/lang/invoke/VarHandle" ∧ (parseMethodDescriptor yX11_fallsBy.desc).map (fun d => d.parameters.length) = some 3) ∧ mX11_fallsBy.2.2.1 ≤ 19 ∧ 11 < 14 := ⟨TW_at 1164 (by decide +kernel) (by decide +kernel), TW_at 1165 (by decide +kernel) (by decide +kernel), TW_at 113 (by decide +kernel) (by decide +kernel), TW_at 1166 (by decide +kernel) (by decide +kernel), by decide +kernel, by decide, by decide⟩
theorem mmX11_year : Cond.instanceMethod yX11_year ∈ TW ∧ Cond.selects (clR 11) yX11_year yX11_year ∈ TW ∧ Cond.initialized (clR 11) ∈ TW ∧ Cond.code yX11_year mX11_year.2.1 mX11_year.2.2.1 mX11_year.2.2.2 ∈ TW ∧ (yX11_year.cls = clR 11 ∧ yX11_year.cls ≠ "java/lang/invoke/MethodHandle" ∧ yX11_year.cls ≠ "java/lang/invoke/VarHandle" ∧ (parseMethodDescriptor yX11_year.desc).map (fun d => d.parameters.length) = some 0) ∧ mX11_year.2.2.1 ≤ 19 ∧ 11 < 14 := ⟨TW_at 1168 (by decide +kernel) (by decide +kernel), TW_at 1169 (by decide +kernel) (by decide +kernel), TW_at 113 (by decide +kernel) (by decide +kernel), TW_at 1170 (by decide +kernel) (by decide +kernel), by decide +kernel, by decide, by decide⟩
theorem mmX11_snap : Cond.instanceMethod yX11_snap ∈ TW ∧ Cond.selects (clR 11) yX11_snap yX11_snap ∈ TW ∧ Cond.initialized (clR 11) ∈ TW ∧ Cond.code yX11_snap mX11_snap.2.1 mX11_snap.2.2.1 mX11_snap.2.2.2 ∈ TW ∧ (yX11_snap.cls = clR 11 ∧ yX11_snap.cls ≠ "java/lang/invoke/MethodHandle" ∧ yX11_snap.cls ≠ "java/lang/invoke/VarHandle" ∧ (parseMethodDescriptor yX11_snap.desc).map (fun d => d.parameters.length) = some 1) ∧ mX11_snap.2.2.1 ≤ 19 ∧ 11 < 14 := ⟨TW_at 1190 (by decide +kernel) (by decide +kernel), TW_at 1191 (by decide +kernel) (by decide +kernel), TW_at 113 (by decide +kernel) (by decide +kernel), TW_at 1192 (by decide +kernel) (by decide +kernel), by decide +kernel, by decide, by decide⟩
theorem mmX11_spin : Cond.instanceMethod yX11_spin ∈ TW ∧ Cond.selects (clR 11) yX11_spin yX11_spin ∈ TW ∧ Cond.initialized (clR 11) ∈ TW ∧ Cond.code yX11_spin mX11_spin.2.1 mX11_spin.2.2.1 mX11_spin.2.2.2 ∈ TW ∧ (yX11_spin.cls = clR 11 ∧ yX11_spin.cls ≠ "java/lang/invoke/MethodHandle" ∧ yX11_spin.cls ≠ "java/lang/invoke/VarHandle" ∧ (parseMethodDescriptor yX11_spin.desc).map (fun d => d.parameters.length) = some 1) ∧ mX11_spin.2.2.1 ≤ 19 ∧ 11 < 14 := ⟨TW_at 1198 (by decide +kernel) (by decide +kernel), TW_at 1199 (by decide +kernel) (by decide +kernel), TW_at 113 (by decide +kernel) (by decide +kernel), TW_at 1200 (by decide +kernel) (by decide +kernel), by decide +kernel, by decide, by decide⟩
theorem mmX11_darn : Cond.instanceMethod yX11_darn ∈ TW ∧ Cond.selects (clR 11) yX11_darn yX11_darn ∈ TW ∧ Cond.initialized (clR 11) ∈ TW ∧ Cond.code yX11_darn mX11_darn.2.1 mX11_darn.2.2.1 mX11_darn.2.2.2 ∈ TW ∧ (yX11_darn.cls = clR 11 ∧ yX11_darn.cls ≠ "java/lang/invoke/MethodHandle" ∧ yX11_darn.cls ≠ "java/lang/invoke/VarHandle" ∧ (parseMethodDescriptor yX11_darn.desc).map (fun d => d.parameters.length) = some 1) ∧ mX11_darn.2.2.1 ≤ 19 ∧ 11 < 14 := ⟨TW_at 1203 (by decide +kernel) (by decide +kernel), TW_at 1204 (by decide +kernel) (by decide +kernel), TW_at 113 (by decide +kernel) (by decide +kernel), TW_at 1205 (by decide +kernel) (by decide +kernel), by decide +kernel, by decide, by decide⟩
theorem mmX11_undo : Cond.instanceMethod yX11_undo ∈ TW ∧ Cond.selects (clR 11) yX11_undo yX11_undo ∈ TW ∧ Cond.initialized (clR 11) ∈ TW ∧ Cond.code yX11_undo mX11_undo.2.1 mX11_undo.2.2.1 mX11_undo.2.2.2 ∈ TW ∧ (yX11_undo.cls = clR 11 ∧ yX11_undo.cls ≠ "java/lang/invoke/MethodHandle" ∧ yX11_undo.cls ≠ "java/lang/invoke/VarHandle" ∧ (parseMethodDescriptor yX11_undo.desc).map (fun d => d.parameters.length) = some 0) ∧ mX11_undo.2.2.1 ≤ 19 ∧ 11 < 14 := ⟨TW_at 1215 (by decide +kernel) (by decide +kernel), TW_at 1216 (by decide +kernel) (by decide +kernel), TW_at 113 (by decide +kernel) (by decide +kernel), TW_at 1217 (by decide +kernel) (by decide +kernel), by decide +kernel, by decide, by decide⟩
theorem mmX11_image : Cond.instanceMethod yX11_image ∈ TW ∧ Cond.selects (clR 11) yX11_image yX11_image ∈ TW ∧ Cond.initialized (clR 11) ∈ TW ∧ Cond.code yX11_image mX11_image.2.1 mX11_image.2.2.1 mX11_image.2.2.2 ∈ TW ∧ (yX11_image.cls = clR 11 ∧ yX11_image.cls ≠ "java/lang/invoke/MethodHandle" ∧ yX11_image.cls ≠ "java/lang/invoke/VarHandle" ∧ (parseMethodDescriptor yX11_image.desc).map (fun d => d.parameters.length) = some 0) ∧ mX11_image.2.2.1 ≤ 19 ∧ 11 < 14 := ⟨TW_at 1227 (by decide +kernel) (by decide +kernel), TW_at 1228 (by decide +kernel) (by decide +kernel), TW_at 113 (by decide +kernel) (by decide +kernel), TW_at 1229 (by decide +kernel) (by decide +kernel), by decide +kernel, by decide, by decide⟩
theorem mmX11_back : Cond.instanceMethod yX11_back ∈ TW ∧ Cond.selects (clR 11) yX11_back yX11_back ∈ TW ∧ Cond.initialized (clR 11) ∈ TW ∧ Cond.code yX11_back mX11_back.2.1 mX11_back.2.2.1 mX11_back.2.2.2 ∈ TW ∧ (yX11_back.cls = clR 11 ∧ yX11_back.cls ≠ "java/lang/invoke/MethodHandle" ∧ yX11_back.cls ≠ "java/lang/invoke/VarHandle" ∧ (parseMethodDescriptor yX11_back.desc).map (fun d => d.parameters.length) = some 1) ∧ mX11_back.2.2.1 ≤ 19 ∧ 11 < 14 := ⟨TW_at 1235 (by decide +kernel) (by decide +kernel), TW_at 1236 (by decide +kernel) (by decide +kernel), TW_at 113 (by decide +kernel) (by decide +kernel), TW_at 1237 (by decide +kernel) (by decide +kernel), by decide +kernel, by decide, by decide⟩
theorem mmX11_led : Cond.instanceMethod yX11_led ∈ TW ∧ Cond.selects (clR 11) yX11_led yX11_led ∈ TW ∧ Cond.initialized (clR 11) ∈ TW ∧ Cond.code yX11_led mX11_led.2.1 mX11_led.2.2.1 mX11_led.2.2.2 ∈ TW ∧ (yX11_led.cls = clR 11 ∧ yX11_led.cls ≠ "java/lang/invoke/MethodHandle" ∧ yX11_led.cls ≠ "java/lang/invoke/VarHandle" ∧ (parseMethodDescriptor yX11_led.desc).map (fun d => d.parameters.length) = some 1) ∧ mX11_led.2.2.1 ≤ 19 ∧ 11 < 14 := ⟨TW_at 1256 (by decide +kernel) (by decide +kernel), TW_at 1257 (by decide +kernel) (by decide +kernel), TW_at 113 (by decide +kernel) (by decide +kernel), TW_at 1258 (by decide +kernel) (by decide +kernel), by decide +kernel, by decide, by decide⟩
theorem mmX11_size : Cond.instanceMethod yX11_size ∈ TW ∧ Cond.selects (clR 11) yX11_size yX11_size ∈ TW ∧ Cond.initialized (clR 11) ∈ TW ∧ Cond.code yX11_size mX11_size.2.1 mX11_size.2.2.1 mX11_size.2.2.2 ∈ TW ∧ (yX11_size.cls = clR 11 ∧ yX11_size.cls ≠ "java/lang/invoke/MethodHandle" ∧ yX11_size.cls ≠ "java/lang/invoke/VarHandle" ∧ (parseMethodDescriptor yX11_size.desc).map (fun d => d.parameters.length) = some 1) ∧ mX11_size.2.2.1 ≤ 19 ∧ 11 < 14 := ⟨TW_at 1243 (by decide +kernel) (by decide +kernel), TW_at 1244 (by decide +kernel) (by decide +kernel), TW_at 113 (by decide +kernel) (by decide +kernel), TW_at 1245 (by decide +kernel) (by decide +kernel), by decide +kernel, by decide, by decide⟩
theorem mmX11_trouble : Cond.instanceMethod yX11_trouble ∈ TW ∧ Cond.selects (clR 11) yX11_trouble yX11_trouble ∈ TW ∧ Cond.initialized (clR 11) ∈ TW ∧ Cond.code yX11_trouble mX11_trouble.2.1 mX11_trouble.2.2.1 mX11_trouble.2.2.2 ∈ TW ∧ (yX11_trouble.cls = clR 11 ∧ yX11_trouble.cls ≠ "java/lang/invoke/MethodHandle" ∧ yX11_trouble.cls ≠ "java/lang/invoke/VarHandle" ∧ (parseMethodDescriptor yX11_trouble.desc).map (fun d => d.parameters.length) = some 0) ∧ mX11_trouble.2.2.1 ≤ 19 ∧ 11 < 14 := ⟨TW_at 1248 (by decide +kernel) (by decide +kernel), TW_at 1249 (by decide +kernel) (by decide +kernel), TW_at 113 (by decide +kernel) (by decide +kernel), TW_at 1250 (by decide +kernel) (by decide +kernel), by decide +kernel, by decide, by decide⟩
theorem mmX11_refused : Cond.instanceMethod yX11_refused ∈ TW ∧ Cond.selects (clR 11) yX11_refused yX11_refused ∈ TW ∧ Cond.initialized (clR 11) ∈ TW ∧ Cond.code yX11_refused mX11_refused.2.1 mX11_refused.2.2.1 mX11_refused.2.2.2 ∈ TW ∧ (yX11_refused.cls = clR 11 ∧ yX11_refused.cls ≠ "java/lang/invoke/MethodHandle" ∧ yX11_refused.cls ≠ "java/lang/invoke/VarHandle" ∧ (parseMethodDescriptor yX11_refused.desc).map (fun d => d.parameters.length) = some 1) ∧ mX11_refused.2.2.1 ≤ 19 ∧ 11 < 14 := ⟨TW_at 444 (by decide +kernel) (by decide +kernel), TW_at 0 (by decide +kernel) (by decide +kernel), TW_at 113 (by decide +kernel) (by decide +kernel), TW_at 445 (by decide +kernel) (by decide +kernel), by decide +kernel, by decide, by decide⟩
theorem ssX11_firstOf : Cond.static yX11_firstOf ∈ TW ∧ Cond.initialized yX11_firstOf.cls ∈ TW ∧ Cond.code yX11_firstOf mX11_firstOf.2.1 mX11_firstOf.2.2.1 mX11_firstOf.2.2.2 ∈ TW ∧ (yX11_firstOf.cls ≠ "java/lang/invoke/MethodHandle" ∧ yX11_firstOf.cls ≠ "java/lang/invoke/VarHandle" ∧ (parseMethodDescriptor yX11_firstOf.desc).map (fun d => d.parameters.length) = some 2) ∧ mX11_firstOf.2.2.1 ≤ 19 := ⟨TW_at 740 (by decide +kernel) (by decide +kernel), TW_at 113 (by decide +kernel) (by decide +kernel), TW_at 741 (by decide +kernel) (by decide +kernel), by decide +kernel, by decide⟩
theorem ssX11_within : Cond.static yX11_within ∈ TW ∧ Cond.initialized yX11_within.cls ∈ TW ∧ Cond.code yX11_within mX11_within.2.1 mX11_within.2.2.1 mX11_within.2.2.2 ∈ TW ∧ (yX11_within.cls ≠ "java/lang/invoke/MethodHandle" ∧ yX11_within.cls ≠ "java/lang/invoke/VarHandle" ∧ (parseMethodDescriptor yX11_within.desc).map (fun d => d.parameters.length) = some 3) ∧ mX11_within.2.2.1 ≤ 19 := ⟨TW_at 440 (by decide +kernel) (by decide +kernel), TW_at 113 (by decide +kernel) (by decide +kernel), TW_at 441 (by decide +kernel) (by decide +kernel), by decide +kernel, by decide⟩
theorem ssX11_needYears : Cond.static yX11_needYears ∈ TW ∧ Cond.initialized yX11_needYears.cls ∈ TW ∧ Cond.code yX11_needYears mX11_needYears.2.1 mX11_needYears.2.2.1 mX11_needYears.2.2.2 ∈ TW ∧ (yX11_needYears.cls ≠ "java/lang/invoke/MethodHandle" ∧ yX11_needYears.cls ≠ "java/lang/invoke/VarHandle" ∧ (parseMethodDescriptor yX11_needYears.desc).map (fun d => d.parameters.length) = some 1) ∧ mX11_needYears.2.2.1 ≤ 19 := ⟨TW_at 809 (by decide +kernel) (by decide +kernel), TW_at 113 (by decide +kernel) (by decide +kernel), TW_at 810 (by decide +kernel) (by decide +kernel), by decide +kernel, by decide⟩
theorem mmX11_needWeb : Cond.instanceMethod yX11_needWeb ∈ TW ∧ Cond.selects (clR 11) yX11_needWeb yX11_needWeb ∈ TW ∧ Cond.initialized (clR 11) ∈ TW ∧ Cond.code yX11_needWeb mX11_needWeb.2.1 mX11_needWeb.2.2.1 mX11_needWeb.2.2.2 ∈ TW ∧ (yX11_needWeb.cls = clR 11 ∧ yX11_needWeb.cls ≠ "java/lang/invoke/MethodHandle" ∧ yX11_needWeb.cls ≠ "java/lang/invoke/VarHandle" ∧ (parseMethodDescriptor yX11_needWeb.desc).map (fun d => d.parameters.length) = some 0) ∧ mX11_needWeb.2.2.1 ≤ 19 ∧ 11 < 14 := ⟨TW_at 821 (by decide +kernel) (by decide +kernel), TW_at 27 (by decide +kernel) (by decide +kernel), TW_at 113 (by decide +kernel) (by decide +kernel), TW_at 822 (by decide +kernel) (by decide +kernel), by decide +kernel, by decide, by decide⟩
theorem mmX11_needRow : Cond.instanceMethod yX11_needRow ∈ TW ∧ Cond.selects (clR 11) yX11_needRow yX11_needRow ∈ TW ∧ Cond.initialized (clR 11) ∈ TW ∧ Cond.code yX11_needRow mX11_needRow.2.1 mX11_needRow.2.2.1 mX11_needRow.2.2.2 ∈ TW ∧ (yX11_needRow.cls = clR 11 ∧ yX11_needRow.cls ≠ "java/lang/invoke/MethodHandle" ∧ yX11_needRow.cls ≠ "java/lang/invoke/VarHandle" ∧ (parseMethodDescriptor yX11_needRow.desc).map (fun d => d.parameters.length) = some 2) ∧ mX11_needRow.2.2.1 ≤ 19 ∧ 11 < 14 := ⟨TW_at 772 (by decide +kernel) (by decide +kernel), TW_at 24 (by decide +kernel) (by decide +kernel), TW_at 113 (by decide +kernel) (by decide +kernel), TW_at 773 (by decide +kernel) (by decide +kernel), by decide +kernel, by decide, by decide⟩
theorem mmX11_needNail : Cond.instanceMethod yX11_needNail ∈ TW ∧ Cond.selects (clR 11) yX11_needNail yX11_needNail ∈ TW ∧ Cond.initialized (clR 11) ∈ TW ∧ Cond.code yX11_needNail mX11_needNail.2.1 mX11_needNail.2.2.1 mX11_needNail.2.2.2 ∈ TW ∧ (yX11_needNail.cls = clR 11 ∧ yX11_needNail.cls ≠ "java/lang/invoke/MethodHandle" ∧ yX11_needNail.cls ≠ "java/lang/invoke/VarHandle" ∧ (parseMethodDescriptor yX11_needNail.desc).map (fun d => d.parameters.length) = some 1) ∧ mX11_needNail.2.2.1 ≤ 19 ∧ 11 < 14 := ⟨TW_at 768 (by decide +kernel) (by decide +kernel), TW_at 23 (by decide +kernel) (by decide +kernel), TW_at 113 (by decide +kernel) (by decide +kernel), TW_at 769 (by decide +kernel) (by decide +kernel), by decide +kernel, by decide, by decide⟩
theorem mmX11_needTwoNails : Cond.instanceMethod yX11_needTwoNails ∈ TW ∧ Cond.selects (clR 11) yX11_needTwoNails yX11_needTwoNails ∈ TW ∧ Cond.initialized (clR 11) ∈ TW ∧ Cond.code yX11_needTwoNails mX11_needTwoNails.2.1 mX11_needTwoNails.2.2.1 mX11_needTwoNails.2.2.2 ∈ TW ∧ (yX11_needTwoNails.cls = clR 11 ∧ yX11_needTwoNails.cls ≠ "java/lang/invoke/MethodHandle" ∧ yX11_needTwoNails.cls ≠ "java/lang/invoke/VarHandle" ∧ (parseMethodDescriptor yX11_needTwoNails.desc).map (fun d => d.parameters.length) = some 2) ∧ mX11_needTwoNails.2.2.1 ≤ 19 ∧ 11 < 14 := ⟨TW_at 837 (by decide +kernel) (by decide +kernel), TW_at 28 (by decide +kernel) (by decide +kernel), TW_at 113 (by decide +kernel) (by decide +kernel), TW_at 838 (by decide +kernel) (by decide +kernel), by decide +kernel, by decide, by decide⟩
theorem mmX11_needLoad : Cond.instanceMethod yX11_needLoad ∈ TW ∧ Cond.selects (clR 11) yX11_needLoad yX11_needLoad ∈ TW ∧ Cond.initialized (clR 11) ∈ TW ∧ Cond.code yX11_needLoad mX11_needLoad.2.1 mX11_needLoad.2.2.1 mX11_needLoad.2.2.2 ∈ TW ∧ (yX11_needLoad.cls = clR 11 ∧ yX11_needLoad.cls ≠ "java/lang/invoke/MethodHandle" ∧ yX11_needLoad.cls ≠ "java/lang/invoke/VarHandle" ∧ (parseMethodDescriptor yX11_needLoad.desc).map (fun d => d.parameters.length) = some 1) ∧ mX11_needLoad.2.2.1 ≤ 19 ∧ 11 < 14 := ⟨TW_at 938 (by decide +kernel) (by decide +kernel), TW_at 34 (by decide +kernel) (by decide +kernel), TW_at 113 (by decide +kernel) (by decide +kernel), TW_at 939 (by decide +kernel) (by decide +kernel), by decide +kernel, by decide, by decide⟩
theorem mmX11_needThread : Cond.instanceMethod yX11_needThread ∈ TW ∧ Cond.selects (clR 11) yX11_needThread yX11_needThread ∈ TW ∧ Cond.initialized (clR 11) ∈ TW ∧ Cond.code yX11_needThread mX11_needThread.2.1 mX11_needThread.2.2.1 mX11_needThread.2.2.2 ∈ TW ∧ (yX11_needThread.cls = clR 11 ∧ yX11_needThread.cls ≠ "java/lang/invoke/MethodHandle" ∧ yX11_needThread.cls ≠ "java/lang/invoke/VarHandle" ∧ (parseMethodDescriptor yX11_needThread.desc).map (fun d => d.parameters.length) = some 1) ∧ mX11_needThread.2.2.1 ≤ 19 ∧ 11 < 14 := ⟨TW_at 733 (by decide +kernel) (by decide +kernel), TW_at 22 (by decide +kernel) (by decide +kernel), TW_at 113 (by decide +kernel) (by decide +kernel), TW_at 734 (by decide +kernel) (by decide +kernel), by decide +kernel, by decide, by decide⟩
theorem ssX11_has : Cond.static yX11_has ∈ TW ∧ Cond.initialized yX11_has.cls ∈ TW ∧ Cond.code yX11_has mX11_has.2.1 mX11_has.2.2.1 mX11_has.2.2.2 ∈ TW ∧ (yX11_has.cls ≠ "java/lang/invoke/MethodHandle" ∧ yX11_has.cls ≠ "java/lang/invoke/VarHandle" ∧ (parseMethodDescriptor yX11_has.desc).map (fun d => d.parameters.length) = some 2) ∧ mX11_has.2.2.1 ≤ 19 := ⟨TW_at 625 (by decide +kernel) (by decide +kernel), TW_at 113 (by decide +kernel) (by decide +kernel), TW_at 626 (by decide +kernel) (by decide +kernel), by decide +kernel, by decide⟩
theorem ssX11_isWithin : Cond.static yX11_isWithin ∈ TW ∧ Cond.initialized yX11_isWithin.cls ∈ TW ∧ Cond.code yX11_isWithin mX11_isWithin.2.1 mX11_isWithin.2.2.1 mX11_isWithin.2.2.2 ∈ TW ∧ (yX11_isWithin.cls ≠ "java/lang/invoke/MethodHandle" ∧ yX11_isWithin.cls ≠ "java/lang/invoke/VarHandle" ∧ (parseMethodDescriptor yX11_isWithin.desc).map (fun d => d.parameters.length) = some 2) ∧ mX11_isWithin.2.2.1 ≤ 19 := ⟨TW_at 986 (by decide +kernel) (by decide +kernel), TW_at 113 (by decide +kernel) (by decide +kernel), TW_at 987 (by decide +kernel) (by decide +kernel), by decide +kernel, by decide⟩
theorem mmX11_goBehind : Cond.instanceMethod yX11_goBehind ∈ TW ∧ Cond.selects (clR 11) yX11_goBehind yX11_goBehind ∈ TW ∧ Cond.initialized (clR 11) ∈ TW ∧ Cond.code yX11_goBehind mX11_goBehind.2.1 mX11_goBehind.2.2.1 mX11_goBehind.2.2.2 ∈ TW ∧ (yX11_goBehind.cls = clR 11 ∧ yX11_goBehind.cls ≠ "java/lang/invoke/MethodHandle" ∧ yX11_goBehind.cls ≠ "java/lang/invoke/VarHandle" ∧ (parseMethodDescriptor yX11_goBehind.desc).map (fun d => d.parameters.length) = some 1) ∧ mX11_goBehind.2.2.1 ≤ 19 ∧ 11 < 14 := ⟨TW_at 776 (by decide +kernel) (by decide +kernel), TW_at 25 (by decide +kernel) (by decide +kernel), TW_at 113 (by decide +kernel) (by decide +kernel), TW_at 777 (by decide +kernel) (by decide +kernel), by decide +kernel, by decide, by decide⟩
theorem mmX11_partForLoad : Cond.instanceMethod yX11_partForLoad ∈ TW ∧ Cond.selects (clR 11) yX11_partForLoad yX11_partForLoad ∈ TW ∧ Cond.initialized (clR 11) ∈ TW ∧ Cond.code yX11_partForLoad mX11_partForLoad.2.1 mX11_partForLoad.2.2.1 mX11_partForLoad.2.2.2 ∈ TW ∧ (yX11_partForLoad.cls = clR 11 ∧ yX11_partForLoad.cls ≠ "java/lang/invoke/MethodHandle" ∧ yX11_partForLoad.cls ≠ "java/lang/invoke/VarHandle" ∧ (parseMethodDescriptor yX11_partForLoad.desc).map (fun d => d.parameters.length) = some 1) ∧ mX11_partForLoad.2.2.1 ≤ 19 ∧ 11 < 14 := ⟨TW_at 929 (by decide +kernel) (by decide +kernel), TW_at 33 (by decide +kernel) (by decide +kernel), TW_at 113 (by decide +kernel) (by decide +kernel), TW_at 930 (by decide +kernel) (by decide +kernel), by decide +kernel, by decide, by decide⟩
theorem mmX11_loadsBorneBy : Cond.instanceMethod yX11_loadsBorneBy ∈ TW ∧ Cond.selects (clR 11) yX11_loadsBorneBy yX11_loadsBorneBy ∈ TW ∧ Cond.initialized (clR 11) ∈ TW ∧ Cond.code yX11_loadsBorneBy mX11_loadsBorneBy.2.1 mX11_loadsBorneBy.2.2.1 mX11_loadsBorneBy.2.2.2 ∈ TW ∧ (yX11_loadsBorneBy.cls = clR 11 ∧ yX11_loadsBorneBy.cls ≠ "java/lang/invoke/MethodHandle" ∧ yX11_loadsBorneBy.cls ≠ "java/lang/invoke/VarHandle" ∧ (parseMethodDescriptor yX11_loadsBorneBy.desc).map (fun d => d.parameters.length) = some 1) ∧ mX11_loadsBorneBy.2.2.1 ≤ 19 ∧ 11 < 14 := ⟨TW_at 925 (by decide +kernel) (by decide +kernel), TW_at 32 (by decide +kernel) (by decide +kernel), TW_at 113 (by decide +kernel) (by decide +kernel), TW_at 926 (by decide +kernel) (by decide +kernel), by decide +kernel, by decide, by decide⟩
theorem mmX11_costOf : Cond.instanceMethod yX11_costOf ∈ TW ∧ Cond.selects (clR 11) yX11_costOf yX11_costOf ∈ TW ∧ Cond.initialized (clR 11) ∈ TW ∧ Cond.code yX11_costOf mX11_costOf.2.1 mX11_costOf.2.2.1 mX11_costOf.2.2.2 ∈ TW ∧ (yX11_costOf.cls = clR 11 ∧ yX11_costOf.cls ≠ "java/lang/invoke/MethodHandle" ∧ yX11_costOf.cls ≠ "java/lang/invoke/VarHandle" ∧ (parseMethodDescriptor yX11_costOf.desc).map (fun d => d.parameters.length) = some 1) ∧ mX11_costOf.2.2.1 ≤ 19 ∧ 11 < 14 := ⟨TW_at 954 (by decide +kernel) (by decide +kernel), TW_at 36 (by decide +kernel) (by decide +kernel), TW_at 113 (by decide +kernel) (by decide +kernel), TW_at 955 (by decide +kernel) (by decide +kernel), by decide +kernel, by decide, by decide⟩
theorem mmX11_cheapestMend : Cond.instanceMethod yX11_cheapestMend ∈ TW ∧ Cond.selects (clR 11) yX11_cheapestMend yX11_cheapestMend ∈ TW ∧ Cond.initialized (clR 11) ∈ TW ∧ Cond.code yX11_cheapestMend mX11_cheapestMend.2.1 mX11_cheapestMend.2.2.1 mX11_cheapestMend.2.2.2 ∈ TW ∧ (yX11_cheapestMend.cls = clR 11 ∧ yX11_cheapestMend.cls ≠ "java/lang/invoke/MethodHandle" ∧ yX11_cheapestMend.cls ≠ "java/lang/invoke/VarHandle" ∧ (parseMethodDescriptor yX11_cheapestMend.desc).map (fun d => d.parameters.length) = some 0) ∧ mX11_cheapestMend.2.2.1 ≤ 19 ∧ 11 < 14 := ⟨TW_at 950 (by decide +kernel) (by decide +kernel), TW_at 35 (by decide +kernel) (by decide +kernel), TW_at 113 (by decide +kernel) (by decide +kernel), TW_at 951 (by decide +kernel) (by decide +kernel), by decide +kernel, by decide, by decide⟩
theorem mmX11_leastBreak : Cond.instanceMethod yX11_leastBreak ∈ TW ∧ Cond.selects (clR 11) yX11_leastBreak yX11_leastBreak ∈ TW ∧ Cond.initialized (clR 11) ∈ TW ∧ Cond.code yX11_leastBreak mX11_leastBreak.2.1 mX11_leastBreak.2.2.1 mX11_leastBreak.2.2.2 ∈ TW ∧ (yX11_leastBreak.cls = clR 11 ∧ yX11_leastBreak.cls ≠ "java/lang/invoke/MethodHandle" ∧ yX11_leastBreak.cls ≠ "java/lang/invoke/VarHandle" ∧ (parseMethodDescriptor yX11_leastBreak.desc).map (fun d => d.parameters.length) = some 1) ∧ mX11_leastBreak.2.2.1 ≤ 19 ∧ 11 < 14 := ⟨TW_at 983 (by decide +kernel) (by decide +kernel), TW_at 37 (by decide +kernel) (by decide +kernel), TW_at 113 (by decide +kernel) (by decide +kernel), TW_at 984 (by decide +kernel) (by decide +kernel), by decide +kernel, by decide, by decide⟩
theorem ssX11_gain : Cond.static yX11_gain ∈ TW ∧ Cond.initialized yX11_gain.cls ∈ TW ∧ Cond.code yX11_gain mX11_gain.2.1 mX11_gain.2.2.1 mX11_gain.2.2.2 ∈ TW ∧ (yX11_gain.cls ≠ "java/lang/invoke/MethodHandle" ∧ yX11_gain.cls ≠ "java/lang/invoke/VarHandle" ∧ (parseMethodDescriptor yX11_gain.desc).map (fun d => d.parameters.length) = some 3) ∧ mX11_gain.2.2.1 ≤ 19 := ⟨TW_at 1109 (by decide +kernel) (by decide +kernel), TW_at 113 (by decide +kernel) (by decide +kernel), TW_at 1110 (by decide +kernel) (by decide +kernel), by decide +kernel, by decide⟩
theorem ssX11_isRest : Cond.static yX11_isRest ∈ TW ∧ Cond.initialized yX11_isRest.cls ∈ TW ∧ Cond.code yX11_isRest mX11_isRest.2.1 mX11_isRest.2.2.1 mX11_isRest.2.2.2 ∈ TW ∧ (yX11_isRest.cls ≠ "java/lang/invoke/MethodHandle" ∧ yX11_isRest.cls ≠ "java/lang/invoke/VarHandle" ∧ (parseMethodDescriptor yX11_isRest.desc).map (fun d => d.parameters.length) = some 3) ∧ mX11_isRest.2.2.1 ≤ 19 := ⟨TW_at 1116 (by decide +kernel) (by decide +kernel), TW_at 113 (by decide +kernel) (by decide +kernel), TW_at 1117 (by decide +kernel) (by decide +kernel), by decide +kernel, by decide⟩
theorem mmX11_chanceOf : Cond.instanceMethod yX11_chanceOf ∈ TW ∧ Cond.selects (clR 11) yX11_chanceOf yX11_chanceOf ∈ TW ∧ Cond.initialized (clR 11) ∈ TW ∧ Cond.code yX11_chanceOf mX11_chanceOf.2.1 mX11_chanceOf.2.2.1 mX11_chanceOf.2.2.2 ∈ TW ∧ (yX11_chanceOf.cls = clR 11 ∧ yX11_chanceOf.cls ≠ "java/lang/invoke/MethodHandle" ∧ yX11_chanceOf.cls ≠ "java/lang/invoke/VarHandle" ∧ (parseMethodDescriptor yX11_chanceOf.desc).map (fun d => d.parameters.length) = some 2) ∧ mX11_chanceOf.2.2.1 ≤ 19 ∧ 11 < 14 := ⟨TW_at 1128 (by decide +kernel) (by decide +kernel), TW_at 38 (by decide +kernel) (by decide +kernel), TW_at 113 (by decide +kernel) (by decide +kernel), TW_at 1129 (by decide +kernel) (by decide +kernel), by decide +kernel, by decide, by decide⟩
theorem ssX11_power : Cond.static yX11_power ∈ TW ∧ Cond.initialized yX11_power.cls ∈ TW ∧ Cond.code yX11_power mX11_power.2.1 mX11_power.2.2.1 mX11_power.2.2.2 ∈ TW ∧ (yX11_power.cls ≠ "java/lang/invoke/MethodHandle" ∧ yX11_power.cls ≠ "java/lang/invoke/VarHandle" ∧ (parseMethodDescriptor yX11_power.desc).map (fun d => d.parameters.length) = some 2) ∧ mX11_power.2.2.1 ≤ 19 := ⟨TW_at 1135 (by decide +kernel) (by decide +kernel), TW_at 113 (by decide +kernel) (by decide +kernel), TW_at 1136 (by decide +kernel) (by decide +kernel), by decide +kernel, by decide⟩
theorem mmX12_find : Cond.instanceMethod yX12_find ∈ TW ∧ Cond.selects (clR 12) yX12_find yX12_find ∈ TW ∧ Cond.initialized (clR 12) ∈ TW ∧ Cond.code yX12_find mX12_find.2.1 mX12_find.2.2.1 mX12_find.2.2.2 ∈ TW ∧ (yX12_find.cls = clR 12 ∧ yX12_find.cls ≠ "java/lang/invoke/MethodHandle" ∧ yX12_find.cls ≠ "java/lang/invoke/VarHandle" ∧ (parseMethodDescriptor yX12_find.desc).map (fun d => d.parameters.length) = some 1) ∧ mX12_find.2.2.1 ≤ 19 ∧ 12 < 14 := ⟨TW_at 1644 (by decide +kernel) (by decide +kernel), TW_at 1645 (by decide +kernel) (by decide +kernel), TW_at 132 (by decide +kernel) (by decide +kernel), TW_at 1646 (by decide +kernel) (by decide +kernel), by decide +kernel, by decide, by decide⟩
theorem mmX12_unsureOf : Cond.instanceMethod yX12_unsureOf ∈ TW ∧ Cond.selects (clR 12) yX12_unsureOf yX12_unsureOf ∈ TW ∧ Cond.initialized (clR 12) ∈ TW ∧ Cond.code yX12_unsureOf mX12_unsureOf.2.1 mX12_unsureOf.2.2.1 mX12_unsureOf.2.2.2 ∈ TW ∧ (yX12_unsureOf.cls = clR 12 ∧ yX12_unsureOf.cls ≠ "java/lang/invoke/MethodHandle" ∧ yX12_unsureOf.cls ≠ "java/lang/invoke/VarHandle" ∧ (parseMethodDescriptor yX12_unsureOf.desc).map (fun d => d.parameters.length) = some 1) ∧ mX12_unsureOf.2.2.1 ≤ 19 ∧ 12 < 14 := ⟨TW_at 1694 (by decide +kernel) (by decide +kernel), TW_at 1695 (by decide +kernel) (by decide +kernel), TW_at 132 (by decide +kernel) (by decide +kernel), TW_at 1696 (by decide +kernel) (by decide +kernel), by decide +kernel, by decide, by decide⟩
theorem mmX13_thrown : Cond.instanceMethod yX13_thrown ∈ TW ∧ Cond.selects (clR 13) yX13_thrown yX13_thrown ∈ TW ∧ Cond.initialized (clR 13) ∈ TW ∧ Cond.code yX13_thrown mX13_thrown.2.1 mX13_thrown.2.2.1 mX13_thrown.2.2.2 ∈ TW ∧ (yX13_thrown.cls = clR 13 ∧ yX13_thrown.cls ≠ "java/lang/invoke/MethodHandle" ∧ yX13_thrown.cls ≠ "java/lang/invoke/VarHandle" ∧ (parseMethodDescriptor yX13_thrown.desc).map (fun d => d.parameters.length) = some 0) ∧ mX13_thrown.2.2.1 ≤ 19 ∧ 13 < 14 := ⟨TW_at 1424 (by decide +kernel) (by decide +kernel), TW_at 1425 (by decide +kernel) (by decide +kernel), TW_at 125 (by decide +kernel) (by decide +kernel), TW_at 1426 (by decide +kernel) (by decide +kernel), by decide +kernel, by decide, by decide⟩
theorem mmX13_refused : Cond.instanceMethod yX13_refused ∈ TW ∧ Cond.selects (clR 13) yX13_refused yX13_refused ∈ TW ∧ Cond.initialized (clR 13) ∈ TW ∧ Cond.code yX13_refused mX13_refused.2.1 mX13_refused.2.2.1 mX13_refused.2.2.2 ∈ TW ∧ (yX13_refused.cls = clR 13 ∧ yX13_refused.cls ≠ "java/lang/invoke/MethodHandle" ∧ yX13_refused.cls ≠ "java/lang/invoke/VarHandle" ∧ (parseMethodDescriptor yX13_refused.desc).map (fun d => d.parameters.length) = some 1) ∧ mX13_refused.2.2.1 ≤ 19 ∧ 13 < 14 := ⟨TW_at 1437 (by decide +kernel) (by decide +kernel), TW_at 41 (by decide +kernel) (by decide +kernel), TW_at 125 (by decide +kernel) (by decide +kernel), TW_at 1438 (by decide +kernel) (by decide +kernel), by decide +kernel, by decide, by decide⟩
theorem mmX13_lost : Cond.instanceMethod yX13_lost ∈ TW ∧ Cond.selects (clR 13) yX13_lost yX13_lost ∈ TW ∧ Cond.initialized (clR 13) ∈ TW ∧ Cond.code yX13_lost mX13_lost.2.1 mX13_lost.2.2.1 mX13_lost.2.2.2 ∈ TW ∧ (yX13_lost.cls = clR 13 ∧ yX13_lost.cls ≠ "java/lang/invoke/MethodHandle" ∧ yX13_lost.cls ≠ "java/lang/invoke/VarHandle" ∧ (parseMethodDescriptor yX13_lost.desc).map (fun d => d.parameters.length) = some 2) ∧ mX13_lost.2.2.1 ≤ 19 ∧ 13 < 14 := ⟨TW_at 1881 (by decide +kernel) (by decide +kernel), TW_at 89 (by decide +kernel) (by decide +kernel), TW_at 125 (by decide +kernel) (by decide +kernel), TW_at 1882 (by decide +kernel) (by decide +kernel), by decide +kernel, by decide, by decide⟩
theorem mmX13_denied : Cond.instanceMethod yX13_denied ∈ TW ∧ Cond.selects (clR 13) yX13_denied yX13_denied ∈ TW ∧ Cond.initialized (clR 13) ∈ TW ∧ Cond.code yX13_denied mX13_denied.2.1 mX13_denied.2.2.1 mX13_denied.2.2.2 ∈ TW ∧ (yX13_denied.cls = clR 13 ∧ yX13_denied.cls ≠ "java/lang/invoke/MethodHandle" ∧ yX13_denied.cls ≠ "java/lang/invoke/VarHandle" ∧ (parseMethodDescriptor yX13_denied.desc).map (fun d => d.parameters.length) = some 1) ∧ mX13_denied.2.2.1 ≤ 19 ∧ 13 < 14 := ⟨TW_at 2087 (by decide +kernel) (by decide +kernel), TW_at 110 (by decide +kernel) (by decide +kernel), TW_at 125 (by decide +kernel) (by decide +kernel), TW_at 2088 (by decide +kernel) (by decide +kernel), by decide +kernel, by decide, by decide⟩
theorem mmX13_good : Cond.instanceMethod yX13_good ∈ TW ∧ Cond.selects (clR 13) yX13_good yX13_good ∈ TW ∧ Cond.initialized (clR 13) ∈ TW ∧ Cond.code yX13_good mX13_good.2.1 mX13_good.2.2.1 mX13_good.2.2.2 ∈ TW ∧ (yX13_good.cls = clR 13 ∧ yX13_good.cls ≠ "java/lang/invoke/MethodHandle" ∧ yX13_good.cls ≠ "java/lang/invoke/VarHandle" ∧ (parseMethodDescriptor yX13_good.desc).map (fun d => d.parameters.length) = some 1) ∧ mX13_good.2.2.1 ≤ 19 ∧ 13 < 14 := ⟨TW_at 1709 (by decide +kernel) (by decide +kernel), TW_at 66 (by decide +kernel) (by decide +kernel), TW_at 125 (by decide +kernel) (by decide +kernel), TW_at 1710 (by decide +kernel) (by decide +kernel), by decide +kernel, by decide, by decide⟩
theorem mmX13_granted : Cond.instanceMethod yX13_granted ∈ TW ∧ Cond.selects (clR 13) yX13_granted yX13_granted ∈ TW ∧ Cond.initialized (clR 13) ∈ TW ∧ Cond.code yX13_granted mX13_granted.2.1 mX13_granted.2.2.1 mX13_granted.2.2.2 ∈ TW ∧ (yX13_granted.cls = clR 13 ∧ yX13_granted.cls ≠ "java/lang/invoke/MethodHandle" ∧ yX13_granted.cls ≠ "java/lang/invoke/VarHandle" ∧ (parseMethodDescriptor yX13_granted.desc).map (fun d => d.parameters.length) = some 0) ∧ mX13_granted.2.2.1 ≤ 19 ∧ 13 < 14 := ⟨TW_at 2091 (by decide +kernel) (by decide +kernel), TW_at 111 (by decide +kernel) (by decide +kernel), TW_at 125 (by decide +kernel) (by decide +kernel), TW_at 2092 (by decide +kernel) (by decide +kernel), by decide +kernel, by decide, by decide⟩
theorem ssX13_in : Cond.static yX13_in ∈ TW ∧ Cond.initialized yX13_in.cls ∈ TW ∧ Cond.code yX13_in mX13_in.2.1 mX13_in.2.2.1 mX13_in.2.2.2 ∈ TW ∧ (yX13_in.cls ≠ "java/lang/invoke/MethodHandle" ∧ yX13_in.cls ≠ "java/lang/invoke/VarHandle" ∧ (parseMethodDescriptor yX13_in.desc).map (fun d => d.parameters.length) = some 3) ∧ mX13_in.2.2.1 ≤ 19 := ⟨TW_at 1617 (by decide +kernel) (by decide +kernel), TW_at 125 (by decide +kernel) (by decide +kernel), TW_at 1618 (by decide +kernel) (by decide +kernel), by decide +kernel, by decide⟩
theorem ssX13_bit : Cond.static yX13_bit ∈ TW ∧ Cond.initialized yX13_bit.cls ∈ TW ∧ Cond.code yX13_bit mX13_bit.2.1 mX13_bit.2.2.1 mX13_bit.2.2.2 ∈ TW ∧ (yX13_bit.cls ≠ "java/lang/invoke/MethodHandle" ∧ yX13_bit.cls ≠ "java/lang/invoke/VarHandle" ∧ (parseMethodDescriptor yX13_bit.desc).map (fun d => d.parameters.length) = some 2) ∧ mX13_bit.2.2.1 ≤ 19 := ⟨TW_at 1678 (by decide +kernel) (by decide +kernel), TW_at 125 (by decide +kernel) (by decide +kernel), TW_at 1679 (by decide +kernel) (by decide +kernel), by decide +kernel, by decide⟩
theorem ssX13_bits : Cond.static yX13_bits ∈ TW ∧ Cond.initialized yX13_bits.cls ∈ TW ∧ Cond.code yX13_bits mX13_bits.2.1 mX13_bits.2.2.1 mX13_bits.2.2.2 ∈ TW ∧ (yX13_bits.cls ≠ "java/lang/invoke/MethodHandle" ∧ yX13_bits.cls ≠ "java/lang/invoke/VarHandle" ∧ (parseMethodDescriptor yX13_bits.desc).map (fun d => d.parameters.length) = some 1) ∧ mX13_bits.2.2.1 ≤ 19 := ⟨TW_at 1825 (by decide +kernel) (by decide +kernel), TW_at 125 (by decide +kernel) (by decide +kernel), TW_at 1826 (by decide +kernel) (by decide +kernel), by decide +kernel, by decide⟩
theorem ssX13_common : Cond.static yX13_common ∈ TW ∧ Cond.initialized yX13_common.cls ∈ TW ∧ Cond.code yX13_common mX13_common.2.1 mX13_common.2.2.1 mX13_common.2.2.2 ∈ TW ∧ (yX13_common.cls ≠ "java/lang/invoke/MethodHandle" ∧ yX13_common.cls ≠ "java/lang/invoke/VarHandle" ∧ (parseMethodDescriptor yX13_common.desc).map (fun d => d.parameters.length) = some 2) ∧ mX13_common.2.2.1 ≤ 19 := ⟨TW_at 1976 (by decide +kernel) (by decide +kernel), TW_at 125 (by decide +kernel) (by decide +kernel), TW_at 1977 (by decide +kernel) (by decide +kernel), by decide +kernel, by decide⟩
theorem mmX13_fraction : Cond.instanceMethod yX13_fraction ∈ TW ∧ Cond.selects (clR 13) yX13_fraction yX13_fraction ∈ TW ∧ Cond.initialized (clR 13) ∈ TW ∧ Cond.code yX13_fraction mX13_fraction.2.1 mX13_fraction.2.2.1 mX13_fraction.2.2.2 ∈ TW ∧ (yX13_fraction.cls = clR 13 ∧ yX13_fraction.cls ≠ "java/lang/invoke/MethodHandle" ∧ yX13_fraction.cls ≠ "java/lang/invoke/VarHandle" ∧ (parseMethodDescriptor yX13_fraction.desc).map (fun d => d.parameters.length) = some 3) ∧ mX13_fraction.2.2.1 ≤ 19 ∧ 13 < 14 := ⟨TW_at 1973 (by decide +kernel) (by decide +kernel), TW_at 101 (by decide +kernel) (by decide +kernel), TW_at 125 (by decide +kernel) (by decide +kernel), TW_at 1974 (by decide +kernel) (by decide +kernel), by decide +kernel, by decide, by decide⟩
theorem mmX13_byteAt : Cond.instanceMethod yX13_byteAt ∈ TW ∧ Cond.selects (clR 13) yX13_byteAt yX13_byteAt ∈ TW ∧ Cond.initialized (clR 13) ∈ TW ∧ Cond.code yX13_byteAt mX13_byteAt.2.1 mX13_byteAt.2.2.1 mX13_byteAt.2.2.2 ∈ TW ∧ (yX13_byteAt.cls = clR 13 ∧ yX13_byteAt.cls ≠ "java/lang/invoke/MethodHandle" ∧ yX13_byteAt.cls ≠ "java/lang/invoke/VarHandle" ∧ (parseMethodDescriptor yX13_byteAt.desc).map (fun d => d.parameters.length) = some 1) ∧ mX13_byteAt.2.2.1 ≤ 19 ∧ 13 < 14 := ⟨TW_at 1572 (by decide +kernel) (by decide +kernel), TW_at 43 (by decide +kernel) (by decide +kernel), TW_at 125 (by decide +kernel) (by decide +kernel), TW_at 1573 (by decide +kernel) (by decide +kernel), by decide +kernel, by decide, by decide⟩
theorem ssX13_isLetter : Cond.static yX13_isLetter ∈ TW ∧ Cond.initialized yX13_isLetter.cls ∈ TW ∧ Cond.code yX13_isLetter mX13_isLetter.2.1 mX13_isLetter.2.2.1 mX13_isLetter.2.2.2 ∈ TW ∧ (yX13_isLetter.cls ≠ "java/lang/invoke/MethodHandle" ∧ yX13_isLetter.cls ≠ "java/lang/invoke/VarHandle" ∧ (parseMethodDescriptor yX13_isLetter.desc).map (fun d => d.parameters.length) = some 1) ∧ mX13_isLetter.2.2.1 ≤ 19 := ⟨TW_at 1575 (by decide +kernel) (by decide +kernel), TW_at 125 (by decide +kernel) (by decide +kernel), TW_at 1576 (by decide +kernel) (by decide +kernel), by decide +kernel, by decide⟩
theorem ssX13_isDigit : Cond.static yX13_isDigit ∈ TW ∧ Cond.initialized yX13_isDigit.cls ∈ TW ∧ Cond.code yX13_isDigit mX13_isDigit.2.1 mX13_isDigit.2.2.1 mX13_isDigit.2.2.2 ∈ TW ∧ (yX13_isDigit.cls ≠ "java/lang/invoke/MethodHandle" ∧ yX13_isDigit.cls ≠ "java/lang/invoke/VarHandle" ∧ (parseMethodDescriptor yX13_isDigit.desc).map (fun d => d.parameters.length) = some 1) ∧ mX13_isDigit.2.2.1 ≤ 19 := ⟨TW_at 1579 (by decide +kernel) (by decide +kernel), TW_at 125 (by decide +kernel) (by decide +kernel), TW_at 1580 (by decide +kernel) (by decide +kernel), by decide +kernel, by decide⟩
theorem ssX13_packed : Cond.static yX13_packed ∈ TW ∧ Cond.initialized yX13_packed.cls ∈ TW ∧ Cond.code yX13_packed mX13_packed.2.1 mX13_packed.2.2.1 mX13_packed.2.2.2 ∈ TW ∧ (yX13_packed.cls ≠ "java/lang/invoke/MethodHandle" ∧ yX13_packed.cls ≠ "java/lang/invoke/VarHandle" ∧ (parseMethodDescriptor yX13_packed.desc).map (fun d => d.parameters.length) = some 1) ∧ mX13_packed.2.2.1 ≤ 19 := ⟨TW_at 1595 (by decide +kernel) (by decide +kernel), TW_at 125 (by decide +kernel) (by decide +kernel), TW_at 1596 (by decide +kernel) (by decide +kernel), by decide +kernel, by decide⟩
theorem mmX13_goesOn : Cond.instanceMethod yX13_goesOn ∈ TW ∧ Cond.selects (clR 13) yX13_goesOn yX13_goesOn ∈ TW ∧ Cond.initialized (clR 13) ∈ TW ∧ Cond.code yX13_goesOn mX13_goesOn.2.1 mX13_goesOn.2.2.1 mX13_goesOn.2.2.2 ∈ TW ∧ (yX13_goesOn.cls = clR 13 ∧ yX13_goesOn.cls ≠ "java/lang/invoke/MethodHandle" ∧ yX13_goesOn.cls ≠ "java/lang/invoke/VarHandle" ∧ (parseMethodDescriptor yX13_goesOn.desc).map (fun d => d.parameters.length) = some 0) ∧ mX13_goesOn.2.2.1 ≤ 19 ∧ 13 < 14 := ⟨TW_at 1568 (by decide +kernel) (by decide +kernel), TW_at 42 (by decide +kernel) (by decide +kernel), TW_at 125 (by decide +kernel) (by decide +kernel), TW_at 1569 (by decide +kernel) (by decide +kernel), by decide +kernel, by decide, by decide⟩
theorem mmX13_flaw : Cond.instanceMethod yX13_flaw ∈ TW ∧ Cond.selects (clR 13) yX13_flaw yX13_flaw ∈ TW ∧ Cond.initialized (clR 13) ∈ TW ∧ Cond.code yX13_flaw mX13_flaw.2.1 mX13_flaw.2.2.1 mX13_flaw.2.2.2 ∈ TW ∧ (yX13_flaw.cls = clR 13 ∧ yX13_flaw.cls ≠ "java/lang/invoke/MethodHandle" ∧ yX13_flaw.cls ≠ "java/lang/invoke/VarHandle" ∧ (parseMethodDescriptor yX13_flaw.desc).map (fun d => d.parameters.length) = some 1) ∧ mX13_flaw.2.2.1 ≤ 19 ∧ 13 < 14 := ⟨TW_at 1605 (by decide +kernel) (by decide +kernel), TW_at 48 (by decide +kernel) (by decide +kernel), TW_at 125 (by decide +kernel) (by decide +kernel), TW_at 1606 (by decide +kernel) (by decide +kernel), by decide +kernel, by decide, by decide⟩
theorem mmX13_isWord : Cond.instanceMethod yX13_isWord ∈ TW ∧ Cond.selects (clR 13) yX13_isWord yX13_isWord ∈ TW ∧ Cond.initialized (clR 13) ∈ TW ∧ Cond.code yX13_isWord mX13_isWord.2.1 mX13_isWord.2.2.1 mX13_isWord.2.2.2 ∈ TW ∧ (yX13_isWord.cls = clR 13 ∧ yX13_isWord.cls ≠ "java/lang/invoke/MethodHandle" ∧ yX13_isWord.cls ≠ "java/lang/invoke/VarHandle" ∧ (parseMethodDescriptor yX13_isWord.desc).map (fun d => d.parameters.length) = some 1) ∧ mX13_isWord.2.2.1 ≤ 19 ∧ 13 < 14 := ⟨TW_at 1592 (by decide +kernel) (by decide +kernel), TW_at 46 (by decide +kernel) (by decide +kernel), TW_at 125 (by decide +kernel) (by decide +kernel), TW_at 1593 (by decide +kernel) (by decide +kernel), by decide +kernel, by decide, by decide⟩
theorem mmX13_eatsSemicolon : Cond.instanceMethod yX13_eatsSemicolon ∈ TW ∧ Cond.selects (clR 13) yX13_eatsSemicolon yX13_eatsSemicolon ∈ TW ∧ Cond.initialized (clR 13) ∈ TW ∧ Cond.code yX13_eatsSemicolon mX13_eatsSemicolon.2.1 mX13_eatsSemicolon.2.2.1 mX13_eatsSemicolon.2.2.2 ∈ TW ∧ (yX13_eatsSemicolon.cls = clR 13 ∧ yX13_eatsSemicolon.cls ≠ "java/lang/invoke/MethodHandle" ∧ yX13_eatsSemicolon.cls ≠ "java/lang/invoke/VarHandle" ∧ (parseMethodDescriptor yX13_eatsSemicolon.desc).map (fun d => d.parameters.length) = some 0) ∧ mX13_eatsSemicolon.2.2.1 ≤ 19 ∧ 13 < 14 := ⟨TW_at 1705 (by decide +kernel) (by decide +kernel), TW_at 65 (by decide +kernel) (by decide +kernel), TW_at 125 (by decide +kernel) (by decide +kernel), TW_at 1706 (by decide +kernel) (by decide +kernel), by decide +kernel, by decide, by decide⟩
theorem mmX13_readWhole : Cond.instanceMethod yX13_readWhole ∈ TW ∧ Cond.selects (clR 13) yX13_readWhole yX13_readWhole ∈ TW ∧ Cond.initialized (clR 13) ∈ TW ∧ Cond.code yX13_readWhole mX13_readWhole.2.1 mX13_readWhole.2.2.1 mX13_readWhole.2.2.2 ∈ TW ∧ (yX13_readWhole.cls = clR 13 ∧ yX13_readWhole.cls ≠ "java/lang/invoke/MethodHandle" ∧ yX13_readWhole.cls ≠ "java/lang/invoke/VarHandle" ∧ (parseMethodDescriptor yX13_readWhole.desc).map (fun d => d.parameters.length) = some 2) ∧ mX13_readWhole.2.2.1 ≤ 19 ∧ 13 < 14 := ⟨TW_at 1614 (by decide +kernel) (by decide +kernel), TW_at 50 (by decide +kernel) (by decide +kernel), TW_at 125 (by decide +kernel) (by decide +kernel), TW_at 1615 (by decide +kernel) (by decide +kernel), by decide +kernel, by decide, by decide⟩
theorem mmX13_readPart : Cond.instanceMethod yX13_readPart ∈ TW ∧ Cond.selects (clR 13) yX13_readPart yX13_readPart ∈ TW ∧ Cond.initialized (clR 13) ∈ TW ∧ Cond.code yX13_readPart mX13_readPart.2.1 mX13_readPart.2.2.1 mX13_readPart.2.2.2 ∈ TW ∧ (yX13_readPart.cls = clR 13 ∧ yX13_readPart.cls ≠ "java/lang/invoke/MethodHandle" ∧ yX13_readPart.cls ≠ "java/lang/invoke/VarHandle" ∧ (parseMethodDescriptor yX13_readPart.desc).map (fun d => d.parameters.length) = some 3) ∧ mX13_readPart.2.2.1 ≤ 19 ∧ 13 < 14 := ⟨TW_at 1610 (by decide +kernel) (by decide +kernel), TW_at 49 (by decide +kernel) (by decide +kernel), TW_at 125 (by decide +kernel) (by decide +kernel), TW_at 1611 (by decide +kernel) (by decide +kernel), by decide +kernel, by decide, by decide⟩
theorem mmX13_isName : Cond.instanceMethod yX13_isName ∈ TW ∧ Cond.selects (clR 13) yX13_isName yX13_isName ∈ TW ∧ Cond.initialized (clR 13) ∈ TW ∧ Cond.code yX13_isName mX13_isName.2.1 mX13_isName.2.2.1 mX13_isName.2.2.2 ∈ TW ∧ (yX13_isName.cls = clR 13 ∧ yX13_isName.cls ≠ "java/lang/invoke/MethodHandle" ∧ yX13_isName.cls ≠ "java/lang/invoke/VarHandle" ∧ (parseMethodDescriptor yX13_isName.desc).map (fun d => d.parameters.length) = some 0) ∧ mX13_isName.2.2.1 ≤ 19 ∧ 13 < 14 := ⟨TW_at 1635 (by decide +kernel) (by decide +kernel), TW_at 54 (by decide +kernel) (by decide +kernel), TW_at 125 (by decide +kernel) (by decide +kernel), TW_at 1636 (by decide +kernel) (by decide +kernel), by decide +kernel, by decide, by decide⟩
theorem mmX13_lineBegins : Cond.instanceMethod yX13_lineBegins ∈ TW ∧ Cond.selects (clR 13) yX13_lineBegins yX13_lineBegins ∈ TW ∧ Cond.initialized (clR 13) ∈ TW ∧ Cond.code yX13_lineBegins mX13_lineBegins.2.1 mX13_lineBegins.2.2.1 mX13_lineBegins.2.2.2 ∈ TW ∧ (yX13_lineBegins.cls = clR 13 ∧ yX13_lineBegins.cls ≠ "java/lang/invoke/MethodHandle" ∧ yX13_lineBegins.cls ≠ "java/lang/invoke/VarHandle" ∧ (parseMethodDescriptor yX13_lineBegins.desc).map (fun d => d.parameters.length) = some 2) ∧ mX13_lineBegins.2.2.1 ≤ 19 ∧ 13 < 14 := ⟨TW_at 1627 (by decide +kernel) (by decide +kernel), TW_at 52 (by decide +kernel) (by decide +kernel), TW_at 125 (by decide +kernel) (by decide +kernel), TW_at 1628 (by decide +kernel) (by decide +kernel), by decide +kernel, by decide, by decide⟩
theorem mmX13_readFresh : Cond.instanceMethod yX13_readFresh ∈ TW ∧ Cond.selects (clR 13) yX13_readFresh yX13_readFresh ∈ TW ∧ Cond.initialized (clR 13) ∈ TW ∧ Cond.code yX13_readFresh mX13_readFresh.2.1 mX13_readFresh.2.2.1 mX13_readFresh.2.2.2 ∈ TW ∧ (yX13_readFresh.cls = clR 13 ∧ yX13_readFresh.cls ≠ "java/lang/invoke/MethodHandle" ∧ yX13_readFresh.cls ≠ "java/lang/invoke/VarHandle" ∧ (parseMethodDescriptor yX13_readFresh.desc).map (fun d => d.parameters.length) = some 0) ∧ mX13_readFresh.2.2.1 ≤ 19 ∧ 13 < 14 := ⟨TW_at 1631 (by decide +kernel) (by decide +kernel), TW_at 53 (by decide +kernel) (by decide +kernel), TW_at 125 (by decide +kernel) (by decide +kernel), TW_at 1632 (by decide +kernel) (by decide +kernel), by decide +kernel, by decide, by decide⟩
theorem mmX13_names : Cond.instanceMethod yX13_names ∈ TW ∧ Cond.selects (clR 13) yX13_names yX13_names ∈ TW ∧ Cond.initialized (clR 13) ∈ TW ∧ Cond.code yX13_names mX13_names.2.1 mX13_names.2.2.1 mX13_names.2.2.2 ∈ TW ∧ (yX13_names.cls = clR 13 ∧ yX13_names.cls ≠ "java/lang/invoke/MethodHandle" ∧ yX13_names.cls ≠ "java/lang/invoke/VarHandle" ∧ (parseMethodDescriptor yX13_names.desc).map (fun d => d.parameters.length) = some 3) ∧ mX13_names.2.2.1 ≤ 19 ∧ 13 < 14 := ⟨TW_at 1649 (by decide +kernel) (by decide +kernel), TW_at 55 (by decide +kernel) (by decide +kernel), TW_at 125 (by decide +kernel) (by decide +kernel), TW_at 1650 (by decide +kernel) (by decide +kernel), by decide +kernel, by decide, by decide⟩
theorem mmX13_knownOne : Cond.instanceMethod yX13_knownOne ∈ TW ∧ Cond.selects (clR 13) yX13_knownOne yX13_knownOne ∈ TW ∧ Cond.initialized (clR 13) ∈ TW ∧ Cond.code yX13_knownOne mX13_knownOne.2.1 mX13_knownOne.2.2.1 mX13_knownOne.2.2.2 ∈ TW ∧ (yX13_knownOne.cls = clR 13 ∧ yX13_knownOne.cls ≠ "java/lang/invoke/MethodHandle" ∧ yX13_knownOne.cls ≠ "java/lang/invoke/VarHandle" ∧ (parseMethodDescriptor yX13_knownOne.desc).map (fun d => d.parameters.length) = some 1) ∧ mX13_knownOne.2.2.1 ≤ 19 ∧ 13 < 14 := ⟨TW_at 1669 (by decide +kernel) (by decide +kernel), TW_at 59 (by decide +kernel) (by decide +kernel), TW_at 125 (by decide +kernel) (by decide +kernel), TW_at 1670 (by decide +kernel) (by decide +kernel), by decide +kernel, by decide, by decide⟩
theorem mmX13_readKnown : Cond.instanceMethod yX13_readKnown ∈ TW ∧ Cond.selects (clR 13) yX13_readKnown yX13_readKnown ∈ TW ∧ Cond.initialized (clR 13) ∈ TW ∧ Cond.code yX13_readKnown mX13_readKnown.2.1 mX13_readKnown.2.2.1 mX13_readKnown.2.2.2 ∈ TW ∧ (yX13_readKnown.cls = clR 13 ∧ yX13_readKnown.cls ≠ "java/lang/invoke/MethodHandle" ∧ yX13_readKnown.cls ≠ "java/lang/invoke/VarHandle" ∧ (parseMethodDescriptor yX13_readKnown.desc).map (fun d => d.parameters.length) = some 1) ∧ mX13_readKnown.2.2.1 ≤ 19 ∧ 13 < 14 := ⟨TW_at 1665 (by decide +kernel) (by decide +kernel), TW_at 58 (by decide +kernel) (by decide +kernel), TW_at 125 (by decide +kernel) (by decide +kernel), TW_at 1666 (by decide +kernel) (by decide +kernel), by decide +kernel, by decide, by decide⟩
theorem mmX13_readNails : Cond.instanceMethod yX13_readNails ∈ TW ∧ Cond.selects (clR 13) yX13_readNails yX13_readNails ∈ TW ∧ Cond.initialized (clR 13) ∈ TW ∧ Cond.code yX13_readNails mX13_readNails.2.1 mX13_readNails.2.2.1 mX13_readNails.2.2.2 ∈ TW ∧ (yX13_readNails.cls = clR 13 ∧ yX13_readNails.cls ≠ "java/lang/invoke/MethodHandle" ∧ yX13_readNails.cls ≠ "java/lang/invoke/VarHandle" ∧ (parseMethodDescriptor yX13_readNails.desc).map (fun d => d.parameters.length) = some 0) ∧ mX13_readNails.2.2.1 ≤ 19 ∧ 13 < 14 := ⟨TW_at 1661 (by decide +kernel) (by decide +kernel), TW_at 57 (by decide +kernel) (by decide +kernel), TW_at 125 (by decide +kernel) (by decide +kernel), TW_at 1662 (by decide +kernel) (by decide +kernel), by decide +kernel, by decide, by decide⟩
theorem mmX13_readAll : Cond.instanceMethod yX13_readAll ∈ TW ∧ Cond.selects (clR 13) yX13_readAll yX13_readAll ∈ TW ∧ Cond.initialized (clR 13) ∈ TW ∧ Cond.code yX13_readAll mX13_readAll.2.1 mX13_readAll.2.2.1 mX13_readAll.2.2.2 ∈ TW ∧ (yX13_readAll.cls = clR 13 ∧ yX13_readAll.cls ≠ "java/lang/invoke/MethodHandle" ∧ yX13_readAll.cls ≠ "java/lang/invoke/VarHandle" ∧ (parseMethodDescriptor yX13_readAll.desc).map (fun d => d.parameters.length) = some 0) ∧ mX13_readAll.2.2.1 ≤ 19 ∧ 13 < 14 := ⟨TW_at 1583 (by decide +kernel) (by decide +kernel), TW_at 44 (by decide +kernel) (by decide +kernel), TW_at 125 (by decide +kernel) (by decide +kernel), TW_at 1584 (by decide +kernel) (by decide +kernel), by decide +kernel, by decide, by decide⟩
theorem mmX13_readLine : Cond.instanceMethod yX13_readLine ∈ TW ∧ Cond.selects (clR 13) yX13_readLine yX13_readLine ∈ TW ∧ Cond.initialized (clR 13) ∈ TW ∧ Cond.code yX13_readLine mX13_readLine.2.1 mX13_readLine.2.2.1 mX13_readLine.2.2.2 ∈ TW ∧ (yX13_readLine.cls = clR 13 ∧ yX13_readLine.cls ≠ "java/lang/invoke/MethodHandle" ∧ yX13_readLine.cls ≠ "java/lang/invoke/VarHandle" ∧ (parseMethodDescriptor yX13_readLine.desc).map (fun d => d.parameters.length) = some 0) ∧ mX13_readLine.2.2.1 ≤ 19 ∧ 13 < 14 := ⟨TW_at 1587 (by decide +kernel) (by decide +kernel), TW_at 45 (by decide +kernel) (by decide +kernel), TW_at 125 (by decide +kernel) (by decide +kernel), TW_at 1588 (by decide +kernel) (by decide +kernel), by decide +kernel, by decide, by decide⟩
theorem mmX13_readWeb : Cond.instanceMethod yX13_readWeb ∈ TW ∧ Cond.selects (clR 13) yX13_readWeb yX13_readWeb ∈ TW ∧ Cond.initialized (clR 13) ∈ TW ∧ Cond.code yX13_readWeb mX13_readWeb.2.1 mX13_readWeb.2.2.1 mX13_readWeb.2.2.2 ∈ TW ∧ (yX13_readWeb.cls = clR 13 ∧ yX13_readWeb.cls ≠ "java/lang/invoke/MethodHandle" ∧ yX13_readWeb.cls ≠ "java/lang/invoke/VarHandle" ∧ (parseMethodDescriptor yX13_readWeb.desc).map (fun d => d.parameters.length) = some 0) ∧ mX13_readWeb.2.2.1 ≤ 19 ∧ 13 < 14 := ⟨TW_at 1601 (by decide +kernel) (by decide +kernel), TW_at 47 (by decide +kernel) (by decide +kernel), TW_at 125 (by decide +kernel) (by decide +kernel), TW_at 1602 (by decide +kernel) (by decide +kernel), by decide +kernel, by decide, by decide⟩
theorem mmX13_readNail : Cond.instanceMethod yX13_readNail ∈ TW ∧ Cond.selects (clR 13) yX13_readNail yX13_readNail ∈ TW ∧ Cond.initialized (clR 13) ∈ TW ∧ Cond.code yX13_readNail mX13_readNail.2.1 mX13_readNail.2.2.1 mX13_readNail.2.2.2 ∈ TW ∧ (yX13_readNail.cls = clR 13 ∧ yX13_readNail.cls ≠ "java/lang/invoke/MethodHandle" ∧ yX13_readNail.cls ≠ "java/lang/invoke/VarHandle" ∧ (parseMethodDescriptor yX13_readNail.desc).map (fun d => d.parameters.length) = some 0) ∧ mX13_readNail.2.2.1 ≤ 19 ∧ 13 < 14 := ⟨TW_at 1623 (by decide +kernel) (by decide +kernel), TW_at 51 (by decide +kernel) (by decide +kernel), TW_at 125 (by decide +kernel) (by decide +kernel), TW_at 1624 (by decide +kernel) (by decide +kernel), by decide +kernel, by decide, by decide⟩
theorem mmX13_readThread : Cond.instanceMethod yX13_readThread ∈ TW ∧ Cond.selects (clR 13) yX13_readThread yX13_readThread ∈ TW ∧ Cond.initialized (clR 13) ∈ TW ∧ Cond.code yX13_readThread mX13_readThread.2.1 mX13_readThread.2.2.1 mX13_readThread.2.2.2 ∈ TW ∧ (yX13_readThread.cls = clR 13 ∧ yX13_readThread.cls ≠ "java/lang/invoke/MethodHandle" ∧ yX13_readThread.cls ≠ "java/lang/invoke/VarHandle" ∧ (parseMethodDescriptor yX13_readThread.desc).map (fun d => d.parameters.length) = some 0) ∧ mX13_readThread.2.2.1 ≤ 19 ∧ 13 < 14 := ⟨TW_at 1653 (by decide +kernel) (by decide +kernel), TW_at 56 (by decide +kernel) (by decide +kernel), TW_at 125 (by decide +kernel) (by decide +kernel), TW_at 1654 (by decide +kernel) (by decide +kernel), by decide +kernel, by decide, by decide⟩
theorem mmX13_readClash : Cond.instanceMethod yX13_readClash ∈ TW ∧ Cond.selects (clR 13) yX13_readClash yX13_readClash ∈ TW ∧ Cond.initialized (clR 13) ∈ TW ∧ Cond.code yX13_readClash mX13_readClash.2.1 mX13_readClash.2.2.1 mX13_readClash.2.2.2 ∈ TW ∧ (yX13_readClash.cls = clR 13 ∧ yX13_readClash.cls ≠ "java/lang/invoke/MethodHandle" ∧ yX13_readClash.cls ≠ "java/lang/invoke/VarHandle" ∧ (parseMethodDescriptor yX13_readClash.desc).map (fun d => d.parameters.length) = some 0) ∧ mX13_readClash.2.2.1 ≤ 19 ∧ 13 < 14 := ⟨TW_at 1675 (by decide +kernel) (by decide +kernel), TW_at 60 (by decide +kernel) (by decide +kernel), TW_at 125 (by decide +kernel) (by decide +kernel), TW_at 1676 (by decide +kernel) (by decide +kernel), by decide +kernel, by decide, by decide⟩
theorem mmX13_readLoad : Cond.instanceMethod yX13_readLoad ∈ TW ∧ Cond.selects (clR 13) yX13_readLoad yX13_readLoad ∈ TW ∧ Cond.initialized (clR 13) ∈ TW ∧ Cond.code yX13_readLoad mX13_readLoad.2.1 mX13_readLoad.2.2.1 mX13_readLoad.2.2.2 ∈ TW ∧ (yX13_readLoad.cls = clR 13 ∧ yX13_readLoad.cls ≠ "java/lang/invoke/MethodHandle" ∧ yX13_readLoad.cls ≠ "java/lang/invoke/VarHandle" ∧ (parseMethodDescriptor yX13_readLoad.desc).map (fun d => d.parameters.length) = some 0) ∧ mX13_readLoad.2.2.1 ≤ 19 ∧ 13 < 14 := ⟨TW_at 1682 (by decide +kernel) (by decide +kernel), TW_at 61 (by decide +kernel) (by decide +kernel), TW_at 125 (by decide +kernel) (by decide +kernel), TW_at 1683 (by decide +kernel) (by decide +kernel), by decide +kernel, by decide, by decide⟩
theorem mmX13_readOffer : Cond.instanceMethod yX13_readOffer ∈ TW ∧ Cond.selects (clR 13) yX13_readOffer yX13_readOffer ∈ TW ∧ Cond.initialized (clR 13) ∈ TW ∧ Cond.code yX13_readOffer mX13_readOffer.2.1 mX13_readOffer.2.2.1 mX13_readOffer.2.2.2 ∈ TW ∧ (yX13_readOffer.cls = clR 13 ∧ yX13_readOffer.cls ≠ "java/lang/invoke/MethodHandle" ∧ yX13_readOffer.cls ≠ "java/lang/invoke/VarHandle" ∧ (parseMethodDescriptor yX13_readOffer.desc).map (fun d => d.parameters.length) = some 0) ∧ mX13_readOffer.2.2.1 ≤ 19 ∧ 13 < 14 := ⟨TW_at 1686 (by decide +kernel) (by decide +kernel), TW_at 62 (by decide +kernel) (by decide +kernel), TW_at 125 (by decide +kernel) (by decide +kernel), TW_at 1687 (by decide +kernel) (by decide +kernel), by decide +kernel, by decide, by decide⟩
theorem mmX13_readUnsure : Cond.instanceMethod yX13_readUnsure ∈ TW ∧ Cond.selects (clR 13) yX13_readUnsure yX13_readUnsure ∈ TW ∧ Cond.initialized (clR 13) ∈ TW ∧ Cond.code yX13_readUnsure mX13_readUnsure.2.1 mX13_readUnsure.2.2.1 mX13_readUnsure.2.2.2 ∈ TW ∧ (yX13_readUnsure.cls = clR 13 ∧ yX13_readUnsure.cls ≠ "java/lang/invoke/MethodHandle" ∧ yX13_readUnsure.cls ≠ "java/lang/invoke/VarHandle" ∧ (parseMethodDescriptor yX13_readUnsure.desc).map (fun d => d.parameters.length) = some 0) ∧ mX13_readUnsure.2.2.1 ≤ 19 ∧ 13 < 14 := ⟨TW_at 1691 (by decide +kernel) (by decide +kernel), TW_at 63 (by decide +kernel) (by decide +kernel), TW_at 125 (by decide +kernel) (by decide +kernel), TW_at 1692 (by decide +kernel) (by decide +kernel), by decide +kernel, by decide, by decide⟩
theorem mmX13_readHair : Cond.instanceMethod yX13_readHair ∈ TW ∧ Cond.selects (clR 13) yX13_readHair yX13_readHair ∈ TW ∧ Cond.initialized (clR 13) ∈ TW ∧ Cond.code yX13_readHair mX13_readHair.2.1 mX13_readHair.2.2.1 mX13_readHair.2.2.2 ∈ TW ∧ (yX13_readHair.cls = clR 13 ∧ yX13_readHair.cls ≠ "java/lang/invoke/MethodHandle" ∧ yX13_readHair.cls ≠ "java/lang/invoke/VarHandle" ∧ (parseMethodDescriptor yX13_readHair.desc).map (fun d => d.parameters.length) = some 0) ∧ mX13_readHair.2.2.1 ≤ 19 ∧ 13 < 14 := ⟨TW_at 1699 (by decide +kernel) (by decide +kernel), TW_at 64 (by decide +kernel) (by decide +kernel), TW_at 125 (by decide +kernel) (by decide +kernel), TW_at 1700 (by decide +kernel) (by decide +kernel), by decide +kernel, by decide, by decide⟩
theorem mmX13_feed : Cond.instanceMethod yX13_feed ∈ TW ∧ Cond.selects (clR 13) yX13_feed yX13_feed ∈ TW ∧ Cond.initialized (clR 13) ∈ TW ∧ Cond.code yX13_feed mX13_feed.2.1 mX13_feed.2.2.1 mX13_feed.2.2.2 ∈ TW ∧ (yX13_feed.cls = clR 13 ∧ yX13_feed.cls ≠ "java/lang/invoke/MethodHandle" ∧ yX13_feed.cls ≠ "java/lang/invoke/VarHandle" ∧ (parseMethodDescriptor yX13_feed.desc).map (fun d => d.parameters.length) = some 5) ∧ mX13_feed.2.2.1 ≤ 19 ∧ 13 < 14 := ⟨TW_at 1428 (by decide +kernel) (by decide +kernel), TW_at 1429 (by decide +kernel) (by decide +kernel), TW_at 125 (by decide +kernel) (by decide +kernel), TW_at 1430 (by decide +kernel) (by decide +kernel), by decide +kernel, by decide, by decide⟩
theorem mmX13_web : Cond.instanceMethod yX13_web ∈ TW ∧ Cond.selects (clR 13) yX13_web yX13_web ∈ TW ∧ Cond.initialized (clR 13) ∈ TW ∧ Cond.code yX13_web mX13_web.2.1 mX13_web.2.2.1 mX13_web.2.2.2 ∈ TW ∧ (yX13_web.cls = clR 13 ∧ yX13_web.cls ≠ "java/lang/invoke/MethodHandle" ∧ yX13_web.cls ≠ "java/lang/invoke/VarHandle" ∧ (parseMethodDescriptor yX13_web.desc).map (fun d => d.parameters.length) = some 1) ∧ mX13_web.2.2.1 ≤ 19 ∧ 13 < 14 := ⟨TW_at 1432 (by decide +kernel) (by decide +kernel), TW_at 1433 (by decide +kernel) (by decide +kernel), TW_at 125 (by decide +kernel) (by decide +kernel), TW_at 1434 (by decide +kernel) (by decide +kernel), by decide +kernel, by decide, by decide⟩
theorem mmX13_fault : Cond.instanceMethod yX13_fault ∈ TW ∧ Cond.selects (clR 13) yX13_fault yX13_fault ∈ TW ∧ Cond.initialized (clR 13) ∈ TW ∧ Cond.code yX13_fault mX13_fault.2.1 mX13_fault.2.2.1 mX13_fault.2.2.2 ∈ TW ∧ (yX13_fault.cls = clR 13 ∧ yX13_fault.cls ≠ "java/lang/invoke/MethodHandle" ∧ yX13_fault.cls ≠ "java/lang/invoke/VarHandle" ∧ (parseMethodDescriptor yX13_fault.desc).map (fun d => d.parameters.length) = some 0) ∧ mX13_fault.2.2.1 ≤ 19 ∧ 13 < 14 := ⟨TW_at 1712 (by decide +kernel) (by decide +kernel), TW_at 1713 (by decide +kernel) (by decide +kernel), TW_at 125 (by decide +kernel) (by decide +kernel), TW_at 1714 (by decide +kernel) (by decide +kernel), by decide +kernel, by decide, by decide⟩
theorem mmX13_where : Cond.instanceMethod yX13_where ∈ TW ∧ Cond.selects (clR 13) yX13_where yX13_where ∈ TW ∧ Cond.initialized (clR 13) ∈ TW ∧ Cond.code yX13_where mX13_where.2.1 mX13_where.2.2.1 mX13_where.2.2.2 ∈ TW ∧ (yX13_where.cls = clR 13 ∧ yX13_where.cls ≠ "java/lang/invoke/MethodHandle" ∧ yX13_where.cls ≠ "java/lang/invoke/VarHandle" ∧ (parseMethodDescriptor yX13_where.desc).map (fun d => d.parameters.length) = some 0) ∧ mX13_where.2.2.1 ≤ 19 ∧ 13 < 14 := ⟨TW_at 1716 (by decide +kernel) (by decide +kernel), TW_at 1717 (by decide +kernel) (by decide +kernel), TW_at 125 (by decide +kernel) (by decide +kernel), TW_at 1718 (by decide +kernel) (by decide +kernel), by decide +kernel, by decide, by decide⟩
theorem mmX13_isNail : Cond.instanceMethod yX13_isNail ∈ TW ∧ Cond.selects (clR 13) yX13_isNail yX13_isNail ∈ TW ∧ Cond.initialized (clR 13) ∈ TW ∧ Cond.code yX13_isNail mX13_isNail.2.1 mX13_isNail.2.2.1 mX13_isNail.2.2.2 ∈ TW ∧ (yX13_isNail.cls = clR 13 ∧ yX13_isNail.cls ≠ "java/lang/invoke/MethodHandle" ∧ yX13_isNail.cls ≠ "java/lang/invoke/VarHandle" ∧ (parseMethodDescriptor yX13_isNail.desc).map (fun d => d.parameters.length) = some 1) ∧ mX13_isNail.2.2.1 ≤ 19 ∧ 13 < 14 := ⟨TW_at 1761 (by decide +kernel) (by decide +kernel), TW_at 75 (by decide +kernel) (by decide +kernel), TW_at 125 (by decide +kernel) (by decide +kernel), TW_at 1762 (by decide +kernel) (by decide +kernel), by decide +kernel, by decide, by decide⟩
theorem mmX13_isThread : Cond.instanceMethod yX13_isThread ∈ TW ∧ Cond.selects (clR 13) yX13_isThread yX13_isThread ∈ TW ∧ Cond.initialized (clR 13) ∈ TW ∧ Cond.code yX13_isThread mX13_isThread.2.1 mX13_isThread.2.2.1 mX13_isThread.2.2.2 ∈ TW ∧ (yX13_isThread.cls = clR 13 ∧ yX13_isThread.cls ≠ "java/lang/invoke/MethodHandle" ∧ yX13_isThread.cls ≠ "java/lang/invoke/VarHandle" ∧ (parseMethodDescriptor yX13_isThread.desc).map (fun d => d.parameters.length) = some 1) ∧ mX13_isThread.2.2.1 ≤ 19 ∧ 13 < 14 := ⟨TW_at 1725 (by decide +kernel) (by decide +kernel), TW_at 67 (by decide +kernel) (by decide +kernel), TW_at 125 (by decide +kernel) (by decide +kernel), TW_at 1726 (by decide +kernel) (by decide +kernel), by decide +kernel, by decide, by decide⟩
theorem mmX13_areTwo : Cond.instanceMethod yX13_areTwo ∈ TW ∧ Cond.selects (clR 13) yX13_areTwo yX13_areTwo ∈ TW ∧ Cond.initialized (clR 13) ∈ TW ∧ Cond.code yX13_areTwo mX13_areTwo.2.1 mX13_areTwo.2.2.1 mX13_areTwo.2.2.2 ∈ TW ∧ (yX13_areTwo.cls = clR 13 ∧ yX13_areTwo.cls ≠ "java/lang/invoke/MethodHandle" ∧ yX13_areTwo.cls ≠ "java/lang/invoke/VarHandle" ∧ (parseMethodDescriptor yX13_areTwo.desc).map (fun d => d.parameters.length) = some 2) ∧ mX13_areTwo.2.2.1 ≤ 19 ∧ 13 < 14 := ⟨TW_at 1805 (by decide +kernel) (by decide +kernel), TW_at 81 (by decide +kernel) (by decide +kernel), TW_at 125 (by decide +kernel) (by decide +kernel), TW_at 1806 (by decide +kernel) (by decide +kernel), by decide +kernel, by decide, by decide⟩
theorem mmX13_works : Cond.instanceMethod yX13_works ∈ TW ∧ Cond.selects (clR 13) yX13_works yX13_works ∈ TW ∧ Cond.initialized (clR 13) ∈ TW ∧ Cond.code yX13_works mX13_works.2.1 mX13_works.2.2.1 mX13_works.2.2.2 ∈ TW ∧ (yX13_works.cls = clR 13 ∧ yX13_works.cls ≠ "java/lang/invoke/MethodHandle" ∧ yX13_works.cls ≠ "java/lang/invoke/VarHandle" ∧ (parseMethodDescriptor yX13_works.desc).map (fun d => d.parameters.length) = some 0) ∧ mX13_works.2.2.1 ≤ 19 ∧ 13 < 14 := ⟨TW_at 1729 (by decide +kernel) (by decide +kernel), TW_at 68 (by decide +kernel) (by decide +kernel), TW_at 125 (by decide +kernel) (by decide +kernel), TW_at 1730 (by decide +kernel) (by decide +kernel), by decide +kernel, by decide, by decide⟩
theorem mmX13_kindOf : Cond.instanceMethod yX13_kindOf ∈ TW ∧ Cond.selects (clR 13) yX13_kindOf yX13_kindOf ∈ TW ∧ Cond.initialized (clR 13) ∈ TW ∧ Cond.code yX13_kindOf mX13_kindOf.2.1 mX13_kindOf.2.2.1 mX13_kindOf.2.2.2 ∈ TW ∧ (yX13_kindOf.cls = clR 13 ∧ yX13_kindOf.cls ≠ "java/lang/invoke/MethodHandle" ∧ yX13_kindOf.cls ≠ "java/lang/invoke/VarHandle" ∧ (parseMethodDescriptor yX13_kindOf.desc).map (fun d => d.parameters.length) = some 1) ∧ mX13_kindOf.2.2.1 ≤ 19 ∧ 13 < 14 := ⟨TW_at 1733 (by decide +kernel) (by decide +kernel), TW_at 69 (by decide +kernel) (by decide +kernel), TW_at 125 (by decide +kernel) (by decide +kernel), TW_at 1734 (by decide +kernel) (by decide +kernel), by decide +kernel, by decide, by decide⟩
theorem mmX13_stepOf : Cond.instanceMethod yX13_stepOf ∈ TW ∧ Cond.selects (clR 13) yX13_stepOf yX13_stepOf ∈ TW ∧ Cond.initialized (clR 13) ∈ TW ∧ Cond.code yX13_stepOf mX13_stepOf.2.1 mX13_stepOf.2.2.1 mX13_stepOf.2.2.2 ∈ TW ∧ (yX13_stepOf.cls = clR 13 ∧ yX13_stepOf.cls ≠ "java/lang/invoke/MethodHandle" ∧ yX13_stepOf.cls ≠ "java/lang/invoke/VarHandle" ∧ (parseMethodDescriptor yX13_stepOf.desc).map (fun d => d.parameters.length) = some 1) ∧ mX13_stepOf.2.2.1 ≤ 19 ∧ 13 < 14 := ⟨TW_at 1749 (by decide +kernel) (by decide +kernel), TW_at 73 (by decide +kernel) (by decide +kernel), TW_at 125 (by decide +kernel) (by decide +kernel), TW_at 1750 (by decide +kernel) (by decide +kernel), by decide +kernel, by decide, by decide⟩
theorem mmX13_foesOf : Cond.instanceMethod yX13_foesOf ∈ TW ∧ Cond.selects (clR 13) yX13_foesOf yX13_foesOf ∈ TW ∧ Cond.initialized (clR 13) ∈ TW ∧ Cond.code yX13_foesOf mX13_foesOf.2.1 mX13_foesOf.2.2.1 mX13_foesOf.2.2.2 ∈ TW ∧ (yX13_foesOf.cls = clR 13 ∧ yX13_foesOf.cls ≠ "java/lang/invoke/MethodHandle" ∧ yX13_foesOf.cls ≠ "java/lang/invoke/VarHandle" ∧ (parseMethodDescriptor yX13_foesOf.desc).map (fun d => d.parameters.length) = some 1) ∧ mX13_foesOf.2.2.1 ≤ 19 ∧ 13 < 14 := ⟨TW_at 1753 (by decide +kernel) (by decide +kernel), TW_at 74 (by decide +kernel) (by decide +kernel), TW_at 125 (by decide +kernel) (by decide +kernel), TW_at 1754 (by decide +kernel) (by decide +kernel), by decide +kernel, by decide, by decide⟩
theorem mmX13_oneOf : Cond.instanceMethod yX13_oneOf ∈ TW ∧ Cond.selects (clR 13) yX13_oneOf yX13_oneOf ∈ TW ∧ Cond.initialized (clR 13) ∈ TW ∧ Cond.code yX13_oneOf mX13_oneOf.2.1 mX13_oneOf.2.2.1 mX13_oneOf.2.2.2 ∈ TW ∧ (yX13_oneOf.cls = clR 13 ∧ yX13_oneOf.cls ≠ "java/lang/invoke/MethodHandle" ∧ yX13_oneOf.cls ≠ "java/lang/invoke/VarHandle" ∧ (parseMethodDescriptor yX13_oneOf.desc).map (fun d => d.parameters.length) = some 1) ∧ mX13_oneOf.2.2.1 ≤ 19 ∧ 13 < 14 := ⟨TW_at 1737 (by decide +kernel) (by decide +kernel), TW_at 70 (by decide +kernel) (by decide +kernel), TW_at 125 (by decide +kernel) (by decide +kernel), TW_at 1738 (by decide +kernel) (by decide +kernel), by decide +kernel, by decide, by decide⟩
theorem mmX13_twoOf : Cond.instanceMethod yX13_twoOf ∈ TW ∧ Cond.selects (clR 13) yX13_twoOf yX13_twoOf ∈ TW ∧ Cond.initialized (clR 13) ∈ TW ∧ Cond.code yX13_twoOf mX13_twoOf.2.1 mX13_twoOf.2.2.1 mX13_twoOf.2.2.2 ∈ TW ∧ (yX13_twoOf.cls = clR 13 ∧ yX13_twoOf.cls ≠ "java/lang/invoke/MethodHandle" ∧ yX13_twoOf.cls ≠ "java/lang/invoke/VarHandle" ∧ (parseMethodDescriptor yX13_twoOf.desc).map (fun d => d.parameters.length) = some 1) ∧ mX13_twoOf.2.2.1 ≤ 19 ∧ 13 < 14 := ⟨TW_at 1741 (by decide +kernel) (by decide +kernel), TW_at 71 (by decide +kernel) (by decide +kernel), TW_at 125 (by decide +kernel) (by decide +kernel), TW_at 1742 (by decide +kernel) (by decide +kernel), by decide +kernel, by decide, by decide⟩
theorem mmX13_strongOf : Cond.instanceMethod yX13_strongOf ∈ TW ∧ Cond.selects (clR 13) yX13_strongOf yX13_strongOf ∈ TW ∧ Cond.initialized (clR 13) ∈ TW ∧ Cond.code yX13_strongOf mX13_strongOf.2.1 mX13_strongOf.2.2.1 mX13_strongOf.2.2.2 ∈ TW ∧ (yX13_strongOf.cls = clR 13 ∧ yX13_strongOf.cls ≠ "java/lang/invoke/MethodHandle" ∧ yX13_strongOf.cls ≠ "java/lang/invoke/VarHandle" ∧ (parseMethodDescriptor yX13_strongOf.desc).map (fun d => d.parameters.length) = some 2) ∧ mX13_strongOf.2.2.1 ≤ 19 ∧ 13 < 14 := ⟨TW_at 1745 (by decide +kernel) (by decide +kernel), TW_at 72 (by decide +kernel) (by decide +kernel), TW_at 125 (by decide +kernel) (by decide +kernel), TW_at 1746 (by decide +kernel) (by decide +kernel), by decide +kernel, by decide, by decide⟩
theorem mmX13_edge : Cond.instanceMethod yX13_edge ∈ TW ∧ Cond.selects (clR 13) yX13_edge yX13_edge ∈ TW ∧ Cond.initialized (clR 13) ∈ TW ∧ Cond.code yX13_edge mX13_edge.2.1 mX13_edge.2.2.1 mX13_edge.2.2.2 ∈ TW ∧ (yX13_edge.cls = clR 13 ∧ yX13_edge.cls ≠ "java/lang/invoke/MethodHandle" ∧ yX13_edge.cls ≠ "java/lang/invoke/VarHandle" ∧ (parseMethodDescriptor yX13_edge.desc).map (fun d => d.parameters.length) = some 3) ∧ mX13_edge.2.2.1 ≤ 19 ∧ 13 < 14 := ⟨TW_at 1773 (by decide +kernel) (by decide +kernel), TW_at 78 (by decide +kernel) (by decide +kernel), TW_at 125 (by decide +kernel) (by decide +kernel), TW_at 1774 (by decide +kernel) (by decide +kernel), by decide +kernel, by decide, by decide⟩
theorem mmX13_laysWorked : Cond.instanceMethod yX13_laysWorked ∈ TW ∧ Cond.selects (clR 13) yX13_laysWorked yX13_laysWorked ∈ TW ∧ Cond.initialized (clR 13) ∈ TW ∧ Cond.code yX13_laysWorked mX13_laysWorked.2.1 mX13_laysWorked.2.2.1 mX13_laysWorked.2.2.2 ∈ TW ∧ (yX13_laysWorked.cls = clR 13 ∧ yX13_laysWorked.cls ≠ "java/lang/invoke/MethodHandle" ∧ yX13_laysWorked.cls ≠ "java/lang/invoke/VarHandle" ∧ (parseMethodDescriptor yX13_laysWorked.desc).map (fun d => d.parameters.length) = some 1) ∧ mX13_laysWorked.2.2.1 ≤ 19 ∧ 13 < 14 := ⟨TW_at 1769 (by decide +kernel) (by decide +kernel), TW_at 77 (by decide +kernel) (by decide +kernel), TW_at 125 (by decide +kernel) (by decide +kernel), TW_at 1770 (by decide +kernel) (by decide +kernel), by decide +kernel, by decide, by decide⟩
theorem mmX13_lays : Cond.instanceMethod yX13_lays ∈ TW ∧ Cond.selects (clR 13) yX13_lays yX13_lays ∈ TW ∧ Cond.initialized (clR 13) ∈ TW ∧ Cond.code yX13_lays mX13_lays.2.1 mX13_lays.2.2.1 mX13_lays.2.2.2 ∈ TW ∧ (yX13_lays.cls = clR 13 ∧ yX13_lays.cls ≠ "java/lang/invoke/MethodHandle" ∧ yX13_lays.cls ≠ "java/lang/invoke/VarHandle" ∧ (parseMethodDescriptor yX13_lays.desc).map (fun d => d.parameters.length) = some 1) ∧ mX13_lays.2.2.1 ≤ 19 ∧ 13 < 14 := ⟨TW_at 1765 (by decide +kernel) (by decide +kernel), TW_at 76 (by decide +kernel) (by decide +kernel), TW_at 125 (by decide +kernel) (by decide +kernel), TW_at 1766 (by decide +kernel) (by decide +kernel), by decide +kernel, by decide, by decide⟩
theorem mmX13_laysOffers : Cond.instanceMethod yX13_laysOffers ∈ TW ∧ Cond.selects (clR 13) yX13_laysOffers yX13_laysOffers ∈ TW ∧ Cond.initialized (clR 13) ∈ TW ∧ Cond.code yX13_laysOffers mX13_laysOffers.2.1 mX13_laysOffers.2.2.1 mX13_laysOffers.2.2.2 ∈ TW ∧ (yX13_laysOffers.cls = clR 13 ∧ yX13_laysOffers.cls ≠ "java/lang/invoke/MethodHandle" ∧ yX13_laysOffers.cls ≠ "java/lang/invoke/VarHandle" ∧ (parseMethodDescriptor yX13_laysOffers.desc).map (fun d => d.parameters.length) = some 1) ∧ mX13_laysOffers.2.2.1 ≤ 19 ∧ 13 < 14 := ⟨TW_at 1897 (by decide +kernel) (by decide +kernel), TW_at 92 (by decide +kernel) (by decide +kernel), TW_at 125 (by decide +kernel) (by decide +kernel), TW_at 1898 (by decide +kernel) (by decide +kernel), by decide +kernel, by decide, by decide⟩
theorem mmX13_isCrossing : Cond.instanceMethod yX13_isCrossing ∈ TW ∧ Cond.selects (clR 13) yX13_isCrossing yX13_isCrossing ∈ TW ∧ Cond.initialized (clR 13) ∈ TW ∧ Cond.code yX13_isCrossing mX13_isCrossing.2.1 mX13_isCrossing.2.2.1 mX13_isCrossing.2.2.2 ∈ TW ∧ (yX13_isCrossing.cls = clR 13 ∧ yX13_isCrossing.cls ≠ "java/lang/invoke/MethodHandle" ∧ yX13_isCrossing.cls ≠ "java/lang/invoke/VarHandle" ∧ (parseMethodDescriptor yX13_isCrossing.desc).map (fun d => d.parameters.length) = some 2) ∧ mX13_isCrossing.2.2.1 ≤ 19 ∧ 13 < 14 := ⟨TW_at 1818 (by decide +kernel) (by decide +kernel), TW_at 84 (by decide +kernel) (by decide +kernel), TW_at 125 (by decide +kernel) (by decide +kernel), TW_at 1819 (by decide +kernel) (by decide +kernel), by decide +kernel, by decide, by decide⟩
theorem mmX13_crossing : Cond.instanceMethod yX13_crossing ∈ TW ∧ Cond.selects (clR 13) yX13_crossing yX13_crossing ∈ TW ∧ Cond.initialized (clR 13) ∈ TW ∧ Cond.code yX13_crossing mX13_crossing.2.1 mX13_crossing.2.2.1 mX13_crossing.2.2.2 ∈ TW ∧ (yX13_crossing.cls = clR 13 ∧ yX13_crossing.cls ≠ "java/lang/invoke/MethodHandle" ∧ yX13_crossing.cls ≠ "java/lang/invoke/VarHandle" ∧ (parseMethodDescriptor yX13_crossing.desc).map (fun d => d.parameters.length) = some 2) ∧ mX13_crossing.2.2.1 ≤ 19 ∧ 13 < 14 := ⟨TW_at 1814 (by decide +kernel) (by decide +kernel), TW_at 83 (by decide +kernel) (by decide +kernel), TW_at 125 (by decide +kernel) (by decide +kernel), TW_at 1815 (by decide +kernel) (by decide +kernel), by decide +kernel, by decide, by decide⟩
theorem mmX13_borneBetween : Cond.instanceMethod yX13_borneBetween ∈ TW ∧ Cond.selects (clR 13) yX13_borneBetween yX13_borneBetween ∈ TW ∧ Cond.initialized (clR 13) ∈ TW ∧ Cond.code yX13_borneBetween mX13_borneBetween.2.1 mX13_borneBetween.2.2.1 mX13_borneBetween.2.2.2 ∈ TW ∧ (yX13_borneBetween.cls = clR 13 ∧ yX13_borneBetween.cls ≠ "java/lang/invoke/MethodHandle" ∧ yX13_borneBetween.cls ≠ "java/lang/invoke/VarHandle" ∧ (parseMethodDescriptor yX13_borneBetween.desc).map (fun d => d.parameters.length) = some 3) ∧ mX13_borneBetween.2.2.1 ≤ 19 ∧ 13 < 14 := ⟨TW_at 1809 (by decide +kernel) (by decide +kernel), TW_at 82 (by decide +kernel) (by decide +kernel), TW_at 125 (by decide +kernel) (by decide +kernel), TW_at 1810 (by decide +kernel) (by decide +kernel), by decide +kernel, by decide, by decide⟩
theorem mmX13_held : Cond.instanceMethod yX13_held ∈ TW ∧ Cond.selects (clR 13) yX13_held yX13_held ∈ TW ∧ Cond.initialized (clR 13) ∈ TW ∧ Cond.code yX13_held mX13_held.2.1 mX13_held.2.2.1 mX13_held.2.2.2 ∈ TW ∧ (yX13_held.cls = clR 13 ∧ yX13_held.cls ≠ "java/lang/invoke/MethodHandle" ∧ yX13_held.cls ≠ "java/lang/invoke/VarHandle" ∧ (parseMethodDescriptor yX13_held.desc).map (fun d => d.parameters.length) = some 0) ∧ mX13_held.2.2.1 ≤ 19 ∧ 13 < 14 := ⟨TW_at 1793 (by decide +kernel) (by decide +kernel), TW_at 80 (by decide +kernel) (by decide +kernel), TW_at 125 (by decide +kernel) (by decide +kernel), TW_at 1794 (by decide +kernel) (by decide +kernel), by decide +kernel, by decide, by decide⟩
theorem mmX13_together : Cond.instanceMethod yX13_together ∈ TW ∧ Cond.selects (clR 13) yX13_together yX13_together ∈ TW ∧ Cond.initialized (clR 13) ∈ TW ∧ Cond.code yX13_together mX13_together.2.1 mX13_together.2.2.1 mX13_together.2.2.2 ∈ TW ∧ (yX13_together.cls = clR 13 ∧ yX13_together.cls ≠ "java/lang/invoke/MethodHandle" ∧ yX13_together.cls ≠ "java/lang/invoke/VarHandle" ∧ (parseMethodDescriptor yX13_together.desc).map (fun d => d.parameters.length) = some 2) ∧ mX13_together.2.2.1 ≤ 19 ∧ 13 < 14 := ⟨TW_at 1853 (by decide +kernel) (by decide +kernel), TW_at 86 (by decide +kernel) (by decide +kernel), TW_at 125 (by decide +kernel) (by decide +kernel), TW_at 1854 (by decide +kernel) (by decide +kernel), by decide +kernel, by decide, by decide⟩
theorem mmX13_partsBut : Cond.instanceMethod yX13_partsBut ∈ TW ∧ Cond.selects (clR 13) yX13_partsBut yX13_partsBut ∈ TW ∧ Cond.initialized (clR 13) ∈ TW ∧ Cond.code yX13_partsBut mX13_partsBut.2.1 mX13_partsBut.2.2.1 mX13_partsBut.2.2.2 ∈ TW ∧ (yX13_partsBut.cls = clR 13 ∧ yX13_partsBut.cls ≠ "java/lang/invoke/MethodHandle" ∧ yX13_partsBut.cls ≠ "java/lang/invoke/VarHandle" ∧ (parseMethodDescriptor yX13_partsBut.desc).map (fun d => d.parameters.length) = some 1) ∧ mX13_partsBut.2.2.1 ≤ 19 ∧ 13 < 14 := ⟨TW_at 1849 (by decide +kernel) (by decide +kernel), TW_at 85 (by decide +kernel) (by decide +kernel), TW_at 125 (by decide +kernel) (by decide +kernel), TW_at 1850 (by decide +kernel) (by decide +kernel), by decide +kernel, by decide, by decide⟩
theorem mmX13_refusesYears : Cond.instanceMethod yX13_refusesYears ∈ TW ∧ Cond.selects (clR 13) yX13_refusesYears yX13_refusesYears ∈ TW ∧ Cond.initialized (clR 13) ∈ TW ∧ Cond.code yX13_refusesYears mX13_refusesYears.2.1 mX13_refusesYears.2.2.1 mX13_refusesYears.2.2.2 ∈ TW ∧ (yX13_refusesYears.cls = clR 13 ∧ yX13_refusesYears.cls ≠ "java/lang/invoke/MethodHandle" ∧ yX13_refusesYears.cls ≠ "java/lang/invoke/VarHandle" ∧ (parseMethodDescriptor yX13_refusesYears.desc).map (fun d => d.parameters.length) = some 2) ∧ mX13_refusesYears.2.2.1 ≤ 19 ∧ 13 < 14 := ⟨TW_at 1781 (by decide +kernel) (by decide +kernel), TW_at 79 (by decide +kernel) (by decide +kernel), TW_at 125 (by decide +kernel) (by decide +kernel), TW_at 1782 (by decide +kernel) (by decide +kernel), by decide +kernel, by decide, by decide⟩
theorem mmX13_thread : Cond.instanceMethod yX13_thread ∈ TW ∧ Cond.selects (clR 13) yX13_thread yX13_thread ∈ TW ∧ Cond.initialized (clR 13) ∈ TW ∧ Cond.code yX13_thread mX13_thread.2.1 mX13_thread.2.2.1 mX13_thread.2.2.2 ∈ TW ∧ (yX13_thread.cls = clR 13 ∧ yX13_thread.cls ≠ "java/lang/invoke/MethodHandle" ∧ yX13_thread.cls ≠ "java/lang/invoke/VarHandle" ∧ (parseMethodDescriptor yX13_thread.desc).map (fun d => d.parameters.length) = some 2) ∧ mX13_thread.2.2.1 ≤ 19 ∧ 13 < 14 := ⟨TW_at 1720 (by decide +kernel) (by decide +kernel), TW_at 1721 (by decide +kernel) (by decide +kernel), TW_at 125 (by decide +kernel) (by decide +kernel), TW_at 1722 (by decide +kernel) (by decide +kernel), by decide +kernel, by decide, by decide⟩
theorem mmX13_nail : Cond.instanceMethod yX13_nail ∈ TW ∧ Cond.selects (clR 13) yX13_nail yX13_nail ∈ TW ∧ Cond.initialized (clR 13) ∈ TW ∧ Cond.code yX13_nail mX13_nail.2.1 mX13_nail.2.2.1 mX13_nail.2.2.2 ∈ TW ∧ (yX13_nail.cls = clR 13 ∧ yX13_nail.cls ≠ "java/lang/invoke/MethodHandle" ∧ yX13_nail.cls ≠ "java/lang/invoke/VarHandle" ∧ (parseMethodDescriptor yX13_nail.desc).map (fun d => d.parameters.length) = some 2) ∧ mX13_nail.2.2.1 ≤ 19 ∧ 13 < 14 := ⟨TW_at 1756 (by decide +kernel) (by decide +kernel), TW_at 1757 (by decide +kernel) (by decide +kernel), TW_at 125 (by decide +kernel) (by decide +kernel), TW_at 1758 (by decide +kernel) (by decide +kernel), by decide +kernel, by decide, by decide⟩
theorem mmX13_strong : Cond.instanceMethod yX13_strong ∈ TW ∧ Cond.selects (clR 13) yX13_strong yX13_strong ∈ TW ∧ Cond.initialized (clR 13) ∈ TW ∧ Cond.code yX13_strong mX13_strong.2.1 mX13_strong.2.2.1 mX13_strong.2.2.2 ∈ TW ∧ (yX13_strong.cls = clR 13 ∧ yX13_strong.cls ≠ "java/lang/invoke/MethodHandle" ∧ yX13_strong.cls ≠ "java/lang/invoke/VarHandle" ∧ (parseMethodDescriptor yX13_strong.desc).map (fun d => d.parameters.length) = some 2) ∧ mX13_strong.2.2.1 ≤ 19 ∧ 13 < 14 := ⟨TW_at 1776 (by decide +kernel) (by decide +kernel), TW_at 1777 (by decide +kernel) (by decide +kernel), TW_at 125 (by decide +kernel) (by decide +kernel), TW_at 1778 (by decide +kernel) (by decide +kernel), by decide +kernel, by decide, by decide⟩
theorem mmX13_breaksIn : Cond.instanceMethod yX13_breaksIn ∈ TW ∧ Cond.selects (clR 13) yX13_breaksIn yX13_breaksIn ∈ TW ∧ Cond.initialized (clR 13) ∈ TW ∧ Cond.code yX13_breaksIn mX13_breaksIn.2.1 mX13_breaksIn.2.2.1 mX13_breaksIn.2.2.2 ∈ TW ∧ (yX13_breaksIn.cls = clR 13 ∧ yX13_breaksIn.cls ≠ "java/lang/invoke/MethodHandle" ∧ yX13_breaksIn.cls ≠ "java/lang/invoke/VarHandle" ∧ (parseMethodDescriptor yX13_breaksIn.desc).map (fun d => d.parameters.length) = some 1) ∧ mX13_breaksIn.2.2.1 ≤ 19 ∧ 13 < 14 := ⟨TW_at 1784 (by decide +kernel) (by decide +kernel), TW_at 1785 (by decide +kernel) (by decide +kernel), TW_at 125 (by decide +kernel) (by decide +kernel), TW_at 1786 (by decide +kernel) (by decide +kernel), by decide +kernel, by decide, by decide⟩
theorem mmX13_holding : Cond.instanceMethod yX13_holding ∈ TW ∧ Cond.selects (clR 13) yX13_holding yX13_holding ∈ TW ∧ Cond.initialized (clR 13) ∈ TW ∧ Cond.code yX13_holding mX13_holding.2.1 mX13_holding.2.2.1 mX13_holding.2.2.2 ∈ TW ∧ (yX13_holding.cls = clR 13 ∧ yX13_holding.cls ≠ "java/lang/invoke/MethodHandle" ∧ yX13_holding.cls ≠ "java/lang/invoke/VarHandle" ∧ (parseMethodDescriptor yX13_holding.desc).map (fun d => d.parameters.length) = some 1) ∧ mX13_holding.2.2.1 ≤ 19 ∧ 13 < 14 := ⟨TW_at 1788 (by decide +kernel) (by decide +kernel), TW_at 1789 (by decide +kernel) (by decide +kernel), TW_at 125 (by decide +kernel) (by decide +kernel), TW_at 1790 (by decide +kernel) (by decide +kernel), by decide +kernel, by decide, by decide⟩
theorem mmX13_strongest : Cond.instanceMethod yX13_strongest ∈ TW ∧ Cond.selects (clR 13) yX13_strongest yX13_strongest ∈ TW ∧ Cond.initialized (clR 13) ∈ TW ∧ Cond.code yX13_strongest mX13_strongest.2.1 mX13_strongest.2.2.1 mX13_strongest.2.2.2 ∈ TW ∧ (yX13_strongest.cls = clR 13 ∧ yX13_strongest.cls ≠ "java/lang/invoke/MethodHandle" ∧ yX13_strongest.cls ≠ "java/lang/invoke/VarHandle" ∧ (parseMethodDescriptor yX13_strongest.desc).map (fun d => d.parameters.length) = some 1) ∧ mX13_strongest.2.2.1 ≤ 19 ∧ 13 < 14 := ⟨TW_at 1796 (by decide +kernel) (by decide +kernel), TW_at 1797 (by decide +kernel) (by decide +kernel), TW_at 125 (by decide +kernel) (by decide +kernel), TW_at 1798 (by decide +kernel) (by decide +kernel), by decide +kernel, by decide, by decide⟩
theorem mmX13_bears : Cond.instanceMethod yX13_bears ∈ TW ∧ Cond.selects (clR 13) yX13_bears yX13_bears ∈ TW ∧ Cond.initialized (clR 13) ∈ TW ∧ Cond.code yX13_bears mX13_bears.2.1 mX13_bears.2.2.1 mX13_bears.2.2.2 ∈ TW ∧ (yX13_bears.cls = clR 13 ∧ yX13_bears.cls ≠ "java/lang/invoke/MethodHandle" ∧ yX13_bears.cls ≠ "java/lang/invoke/VarHandle" ∧ (parseMethodDescriptor yX13_bears.desc).map (fun d => d.parameters.length) = some 3) ∧ mX13_bears.2.2.1 ≤ 19 ∧ 13 < 14 := ⟨TW_at 1800 (by decide +kernel) (by decide +kernel), TW_at 1801 (by decide +kernel) (by decide +kernel), TW_at 125 (by decide +kernel) (by decide +kernel), TW_at 1802 (by decide +kernel) (by decide +kernel), by decide +kernel, by decide, by decide⟩
theorem mmX13_cut : Cond.instanceMethod yX13_cut ∈ TW ∧ Cond.selects (clR 13) yX13_cut yX13_cut ∈ TW ∧ Cond.initialized (clR 13) ∈ TW ∧ Cond.code yX13_cut mX13_cut.2.1 mX13_cut.2.2.1 mX13_cut.2.2.2 ∈ TW ∧ (yX13_cut.cls = clR 13 ∧ yX13_cut.cls ≠ "java/lang/invoke/MethodHandle" ∧ yX13_cut.cls ≠ "java/lang/invoke/VarHandle" ∧ (parseMethodDescriptor yX13_cut.desc).map (fun d => d.parameters.length) = some 3) ∧ mX13_cut.2.2.1 ≤ 19 ∧ 13 < 14 := ⟨TW_at 1821 (by decide +kernel) (by decide +kernel), TW_at 1822 (by decide +kernel) (by decide +kernel), TW_at 125 (by decide +kernel) (by decide +kernel), TW_at 1823 (by decide +kernel) (by decide +kernel), by decide +kernel, by decide, by decide⟩
theorem mmX13_vital : Cond.instanceMethod yX13_vital ∈ TW ∧ Cond.selects (clR 13) yX13_vital yX13_vital ∈ TW ∧ Cond.initialized (clR 13) ∈ TW ∧ Cond.code yX13_vital mX13_vital.2.1 mX13_vital.2.2.1 mX13_vital.2.2.2 ∈ TW ∧ (yX13_vital.cls = clR 13 ∧ yX13_vital.cls ≠ "java/lang/invoke/MethodHandle" ∧ yX13_vital.cls ≠ "java/lang/invoke/VarHandle" ∧ (parseMethodDescriptor yX13_vital.desc).map (fun d => d.parameters.length) = some 3) ∧ mX13_vital.2.2.1 ≤ 19 ∧ 13 < 14 := ⟨TW_at 1828 (by decide +kernel) (by decide +kernel), TW_at 1829 (by decide +kernel) (by decide +kernel), TW_at 125 (by decide +kernel) (by decide +kernel), TW_at 1830 (by decide +kernel) (by decide +kernel), by decide +kernel, by decide, by decide⟩
theorem mmX13_needed : Cond.instanceMethod yX13_needed ∈ TW ∧ Cond.selects (clR 13) yX13_needed yX13_needed ∈ TW ∧ Cond.initialized (clR 13) ∈ TW ∧ Cond.code yX13_needed mX13_needed.2.1 mX13_needed.2.2.1 mX13_needed.2.2.2 ∈ TW ∧ (yX13_needed.cls = clR 13 ∧ yX13_needed.cls ≠ "java/lang/invoke/MethodHandle" ∧ yX13_needed.cls ≠ "java/lang/invoke/VarHandle" ∧ (parseMethodDescriptor yX13_needed.desc).map (fun d => d.parameters.length) = some 3) ∧ mX13_needed.2.2.1 ≤ 19 ∧ 13 < 14 := ⟨TW_at 1832 (by decide +kernel) (by decide +kernel), TW_at 1833 (by decide +kernel) (by decide +kernel), TW_at 125 (by decide +kernel) (by decide +kernel), TW_at 1834 (by decide +kernel) (by decide +kernel), by decide +kernel, by decide, by decide⟩
theorem mmX13_weakest : Cond.instanceMethod yX13_weakest ∈ TW ∧ Cond.selects (clR 13) yX13_weakest yX13_weakest ∈ TW ∧ Cond.initialized (clR 13) ∈ TW ∧ Cond.code yX13_weakest mX13_weakest.2.1 mX13_weakest.2.2.1 mX13_weakest.2.2.2 ∈ TW ∧ (yX13_weakest.cls = clR 13 ∧ yX13_weakest.cls ≠ "java/lang/invoke/MethodHandle" ∧ yX13_weakest.cls ≠ "java/lang/invoke/VarHandle" ∧ (parseMethodDescriptor yX13_weakest.desc).map (fun d => d.parameters.length) = some 1) ∧ mX13_weakest.2.2.1 ≤ 19 ∧ 13 < 14 := ⟨TW_at 1836 (by decide +kernel) (by decide +kernel), TW_at 1837 (by decide +kernel) (by decide +kernel), TW_at 125 (by decide +kernel) (by decide +kernel), TW_at 1838 (by decide +kernel) (by decide +kernel), by decide +kernel, by decide, by decide⟩
theorem mmX13_apart : Cond.instanceMethod yX13_apart ∈ TW ∧ Cond.selects (clR 13) yX13_apart yX13_apart ∈ TW ∧ Cond.initialized (clR 13) ∈ TW ∧ Cond.code yX13_apart mX13_apart.2.1 mX13_apart.2.2.1 mX13_apart.2.2.2 ∈ TW ∧ (yX13_apart.cls = clR 13 ∧ yX13_apart.cls ≠ "java/lang/invoke/MethodHandle" ∧ yX13_apart.cls ≠ "java/lang/invoke/VarHandle" ∧ (parseMethodDescriptor yX13_apart.desc).map (fun d => d.parameters.length) = some 3) ∧ mX13_apart.2.2.1 ≤ 19 ∧ 13 < 14 := ⟨TW_at 1840 (by decide +kernel) (by decide +kernel), TW_at 1841 (by decide +kernel) (by decide +kernel), TW_at 125 (by decide +kernel) (by decide +kernel), TW_at 1842 (by decide +kernel) (by decide +kernel), by decide +kernel, by decide, by decide⟩
theorem mmX13_parts : Cond.instanceMethod yX13_parts ∈ TW ∧ Cond.selects (clR 13) yX13_parts yX13_parts ∈ TW ∧ Cond.initialized (clR 13) ∈ TW ∧ Cond.code yX13_parts mX13_parts.2.1 mX13_parts.2.2.1 mX13_parts.2.2.2 ∈ TW ∧ (yX13_parts.cls = clR 13 ∧ yX13_parts.cls ≠ "java/lang/invoke/MethodHandle" ∧ yX13_parts.cls ≠ "java/lang/invoke/VarHandle" ∧ (parseMethodDescriptor yX13_parts.desc).map (fun d => d.parameters.length) = some 1) ∧ mX13_parts.2.2.1 ≤ 19 ∧ 13 < 14 := ⟨TW_at 1844 (by decide +kernel) (by decide +kernel), TW_at 1845 (by decide +kernel) (by decide +kernel), TW_at 125 (by decide +kernel) (by decide +kernel), TW_at 1846 (by decide +kernel) (by decide +kernel), by decide +kernel, by decide, by decide⟩
theorem mmX13_bridges : Cond.instanceMethod yX13_bridges ∈ TW ∧ Cond.selects (clR 13) yX13_bridges yX13_bridges ∈ TW ∧ Cond.initialized (clR 13) ∈ TW ∧ Cond.code yX13_bridges mX13_bridges.2.1 mX13_bridges.2.2.1 mX13_bridges.2.2.2 ∈ TW ∧ (yX13_bridges.cls = clR 13 ∧ yX13_bridges.cls ≠ "java/lang/invoke/MethodHandle" ∧ yX13_bridges.cls ≠ "java/lang/invoke/VarHandle" ∧ (parseMethodDescriptor yX13_bridges.desc).map (fun d => d.parameters.length) = some 1) ∧ mX13_bridges.2.2.1 ≤ 19 ∧ 13 < 14 := ⟨TW_at 1856 (by decide +kernel) (by decide +kernel), TW_at 1857 (by decide +kernel) (by decide +kernel), TW_at 125 (by decide +kernel) (by decide +kernel), TW_at 1858 (by decide +kernel) (by decide +kernel), by decide +kernel, by decide, by decide⟩
theorem mmX13_borneAll : Cond.instanceMethod yX13_borneAll ∈ TW ∧ Cond.selects (clR 13) yX13_borneAll yX13_borneAll ∈ TW ∧ Cond.initialized (clR 13) ∈ TW ∧ Cond.code yX13_borneAll mX13_borneAll.2.1 mX13_borneAll.2.2.1 mX13_borneAll.2.2.2 ∈ TW ∧ (yX13_borneAll.cls = clR 13 ∧ yX13_borneAll.cls ≠ "java/lang/invoke/MethodHandle" ∧ yX13_borneAll.cls ≠ "java/lang/invoke/VarHandle" ∧ (parseMethodDescriptor yX13_borneAll.desc).map (fun d => d.parameters.length) = some 0) ∧ mX13_borneAll.2.2.1 ≤ 19 ∧ 13 < 14 := ⟨TW_at 1865 (by decide +kernel) (by decide +kernel), TW_at 87 (by decide +kernel) (by decide +kernel), TW_at 125 (by decide +kernel) (by decide +kernel), TW_at 1866 (by decide +kernel) (by decide +kernel), by decide +kernel, by decide, by decide⟩
theorem mmX13_isLoad : Cond.instanceMethod yX13_isLoad ∈ TW ∧ Cond.selects (clR 13) yX13_isLoad yX13_isLoad ∈ TW ∧ Cond.initialized (clR 13) ∈ TW ∧ Cond.code yX13_isLoad mX13_isLoad.2.1 mX13_isLoad.2.2.1 mX13_isLoad.2.2.2 ∈ TW ∧ (yX13_isLoad.cls = clR 13 ∧ yX13_isLoad.cls ≠ "java/lang/invoke/MethodHandle" ∧ yX13_isLoad.cls ≠ "java/lang/invoke/VarHandle" ∧ (parseMethodDescriptor yX13_isLoad.desc).map (fun d => d.parameters.length) = some 1) ∧ mX13_isLoad.2.2.1 ≤ 19 ∧ 13 < 14 := ⟨TW_at 1873 (by decide +kernel) (by decide +kernel), TW_at 88 (by decide +kernel) (by decide +kernel), TW_at 125 (by decide +kernel) (by decide +kernel), TW_at 1874 (by decide +kernel) (by decide +kernel), by decide +kernel, by decide, by decide⟩
theorem mmX13_borne : Cond.instanceMethod yX13_borne ∈ TW ∧ Cond.selects (clR 13) yX13_borne yX13_borne ∈ TW ∧ Cond.initialized (clR 13) ∈ TW ∧ Cond.code yX13_borne mX13_borne.2.1 mX13_borne.2.2.1 mX13_borne.2.2.2 ∈ TW ∧ (yX13_borne.cls = clR 13 ∧ yX13_borne.cls ≠ "java/lang/invoke/MethodHandle" ∧ yX13_borne.cls ≠ "java/lang/invoke/VarHandle" ∧ (parseMethodDescriptor yX13_borne.desc).map (fun d => d.parameters.length) = some 1) ∧ mX13_borne.2.2.1 ≤ 19 ∧ 13 < 14 := ⟨TW_at 1860 (by decide +kernel) (by decide +kernel), TW_at 1861 (by decide +kernel) (by decide +kernel), TW_at 125 (by decide +kernel) (by decide +kernel), TW_at 1862 (by decide +kernel) (by decide +kernel), by decide +kernel, by decide, by decide⟩
theorem mmX13_fallsIn : Cond.instanceMethod yX13_fallsIn ∈ TW ∧ Cond.selects (clR 13) yX13_fallsIn yX13_fallsIn ∈ TW ∧ Cond.initialized (clR 13) ∈ TW ∧ Cond.code yX13_fallsIn mX13_fallsIn.2.1 mX13_fallsIn.2.2.1 mX13_fallsIn.2.2.2 ∈ TW ∧ (yX13_fallsIn.cls = clR 13 ∧ yX13_fallsIn.cls ≠ "java/lang/invoke/MethodHandle" ∧ yX13_fallsIn.cls ≠ "java/lang/invoke/VarHandle" ∧ (parseMethodDescriptor yX13_fallsIn.desc).map (fun d => d.parameters.length) = some 1) ∧ mX13_fallsIn.2.2.1 ≤ 19 ∧ 13 < 14 := ⟨TW_at 1868 (by decide +kernel) (by decide +kernel), TW_at 1869 (by decide +kernel) (by decide +kernel), TW_at 125 (by decide +kernel) (by decide +kernel), TW_at 1870 (by decide +kernel) (by decide +kernel), by decide +kernel, by decide, by decide⟩
theorem mmX13_spare : Cond.instanceMethod yX13_spare ∈ TW ∧ Cond.selects (clR 13) yX13_spare yX13_spare ∈ TW ∧ Cond.initialized (clR 13) ∈ TW ∧ Cond.code yX13_spare mX13_spare.2.1 mX13_spare.2.2.1 mX13_spare.2.2.2 ∈ TW ∧ (yX13_spare.cls = clR 13 ∧ yX13_spare.cls ≠ "java/lang/invoke/MethodHandle" ∧ yX13_spare.cls ≠ "java/lang/invoke/VarHandle" ∧ (parseMethodDescriptor yX13_spare.desc).map (fun d => d.parameters.length) = some 1) ∧ mX13_spare.2.2.1 ≤ 19 ∧ 13 < 14 := ⟨TW_at 1876 (by decide +kernel) (by decide +kernel), TW_at 1877 (by decide +kernel) (by decide +kernel), TW_at 125 (by decide +kernel) (by decide +kernel), TW_at 1878 (by decide +kernel) (by decide +kernel), by decide +kernel, by decide, by decide⟩
theorem mmX13_costOf : Cond.instanceMethod yX13_costOf ∈ TW ∧ Cond.selects (clR 13) yX13_costOf yX13_costOf ∈ TW ∧ Cond.initialized (clR 13) ∈ TW ∧ Cond.code yX13_costOf mX13_costOf.2.1 mX13_costOf.2.2.1 mX13_costOf.2.2.2 ∈ TW ∧ (yX13_costOf.cls = clR 13 ∧ yX13_costOf.cls ≠ "java/lang/invoke/MethodHandle" ∧ yX13_costOf.cls ≠ "java/lang/invoke/VarHandle" ∧ (parseMethodDescriptor yX13_costOf.desc).map (fun d => d.parameters.length) = some 1) ∧ mX13_costOf.2.2.1 ≤ 19 ∧ 13 < 14 := ⟨TW_at 1893 (by decide +kernel) (by decide +kernel), TW_at 91 (by decide +kernel) (by decide +kernel), TW_at 125 (by decide +kernel) (by decide +kernel), TW_at 1894 (by decide +kernel) (by decide +kernel), by decide +kernel, by decide, by decide⟩
theorem mmX13_mending : Cond.instanceMethod yX13_mending ∈ TW ∧ Cond.selects (clR 13) yX13_mending yX13_mending ∈ TW ∧ Cond.initialized (clR 13) ∈ TW ∧ Cond.code yX13_mending mX13_mending.2.1 mX13_mending.2.2.1 mX13_mending.2.2.2 ∈ TW ∧ (yX13_mending.cls = clR 13 ∧ yX13_mending.cls ≠ "java/lang/invoke/MethodHandle" ∧ yX13_mending.cls ≠ "java/lang/invoke/VarHandle" ∧ (parseMethodDescriptor yX13_mending.desc).map (fun d => d.parameters.length) = some 0) ∧ mX13_mending.2.2.1 ≤ 19 ∧ 13 < 14 := ⟨TW_at 1889 (by decide +kernel) (by decide +kernel), TW_at 90 (by decide +kernel) (by decide +kernel), TW_at 125 (by decide +kernel) (by decide +kernel), TW_at 1890 (by decide +kernel) (by decide +kernel), by decide +kernel, by decide, by decide⟩
theorem mmX13_mend : Cond.instanceMethod yX13_mend ∈ TW ∧ Cond.selects (clR 13) yX13_mend yX13_mend ∈ TW ∧ Cond.initialized (clR 13) ∈ TW ∧ Cond.code yX13_mend mX13_mend.2.1 mX13_mend.2.2.1 mX13_mend.2.2.2 ∈ TW ∧ (yX13_mend.cls = clR 13 ∧ yX13_mend.cls ≠ "java/lang/invoke/MethodHandle" ∧ yX13_mend.cls ≠ "java/lang/invoke/VarHandle" ∧ (parseMethodDescriptor yX13_mend.desc).map (fun d => d.parameters.length) = some 0) ∧ mX13_mend.2.2.1 ≤ 19 ∧ 13 < 14 := ⟨TW_at 1884 (by decide +kernel) (by decide +kernel), TW_at 1885 (by decide +kernel) (by decide +kernel), TW_at 125 (by decide +kernel) (by decide +kernel), TW_at 1886 (by decide +kernel) (by decide +kernel), by decide +kernel, by decide, by decide⟩
theorem mmX13_mendCost : Cond.instanceMethod yX13_mendCost ∈ TW ∧ Cond.selects (clR 13) yX13_mendCost yX13_mendCost ∈ TW ∧ Cond.initialized (clR 13) ∈ TW ∧ Cond.code yX13_mendCost mX13_mendCost.2.1 mX13_mendCost.2.2.1 mX13_mendCost.2.2.2 ∈ TW ∧ (yX13_mendCost.cls = clR 13 ∧ yX13_mendCost.cls ≠ "java/lang/invoke/MethodHandle" ∧ yX13_mendCost.cls ≠ "java/lang/invoke/VarHandle" ∧ (parseMethodDescriptor yX13_mendCost.desc).map (fun d => d.parameters.length) = some 0) ∧ mX13_mendCost.2.2.1 ≤ 19 ∧ 13 < 14 := ⟨TW_at 1900 (by decide +kernel) (by decide +kernel), TW_at 1901 (by decide +kernel) (by decide +kernel), TW_at 125 (by decide +kernel) (by decide +kernel), TW_at 1902 (by decide +kernel) (by decide +kernel), by decide +kernel, by decide, by decide⟩
theorem mmX13_bestOffer : Cond.instanceMethod yX13_bestOffer ∈ TW ∧ Cond.selects (clR 13) yX13_bestOffer yX13_bestOffer ∈ TW ∧ Cond.initialized (clR 13) ∈ TW ∧ Cond.code yX13_bestOffer mX13_bestOffer.2.1 mX13_bestOffer.2.2.1 mX13_bestOffer.2.2.2 ∈ TW ∧ (yX13_bestOffer.cls = clR 13 ∧ yX13_bestOffer.cls ≠ "java/lang/invoke/MethodHandle" ∧ yX13_bestOffer.cls ≠ "java/lang/invoke/VarHandle" ∧ (parseMethodDescriptor yX13_bestOffer.desc).map (fun d => d.parameters.length) = some 0) ∧ mX13_bestOffer.2.2.1 ≤ 19 ∧ 13 < 14 := ⟨TW_at 1904 (by decide +kernel) (by decide +kernel), TW_at 1905 (by decide +kernel) (by decide +kernel), TW_at 125 (by decide +kernel) (by decide +kernel), TW_at 1906 (by decide +kernel) (by decide +kernel), by decide +kernel, by decide, by decide⟩
theorem mmX13_clashing : Cond.instanceMethod yX13_clashing ∈ TW ∧ Cond.selects (clR 13) yX13_clashing yX13_clashing ∈ TW ∧ Cond.initialized (clR 13) ∈ TW ∧ Cond.code yX13_clashing mX13_clashing.2.1 mX13_clashing.2.2.1 mX13_clashing.2.2.2 ∈ TW ∧ (yX13_clashing.cls = clR 13 ∧ yX13_clashing.cls ≠ "java/lang/invoke/MethodHandle" ∧ yX13_clashing.cls ≠ "java/lang/invoke/VarHandle" ∧ (parseMethodDescriptor yX13_clashing.desc).map (fun d => d.parameters.length) = some 1) ∧ mX13_clashing.2.2.1 ≤ 19 ∧ 13 < 14 := ⟨TW_at 1913 (by decide +kernel) (by decide +kernel), TW_at 93 (by decide +kernel) (by decide +kernel), TW_at 125 (by decide +kernel) (by decide +kernel), TW_at 1914 (by decide +kernel) (by decide +kernel), by decide +kernel, by decide, by decide⟩
theorem mmX13_clashes : Cond.instanceMethod yX13_clashes ∈ TW ∧ Cond.selects (clR 13) yX13_clashes yX13_clashes ∈ TW ∧ Cond.initialized (clR 13) ∈ TW ∧ Cond.code yX13_clashes mX13_clashes.2.1 mX13_clashes.2.2.1 mX13_clashes.2.2.2 ∈ TW ∧ (yX13_clashes.cls = clR 13 ∧ yX13_clashes.cls ≠ "java/lang/invoke/MethodHandle" ∧ yX13_clashes.cls ≠ "java/lang/invoke/VarHandle" ∧ (parseMethodDescriptor yX13_clashes.desc).map (fun d => d.parameters.length) = some 1) ∧ mX13_clashes.2.2.1 ≤ 19 ∧ 13 < 14 := ⟨TW_at 1908 (by decide +kernel) (by decide +kernel), TW_at 1909 (by decide +kernel) (by decide +kernel), TW_at 125 (by decide +kernel) (by decide +kernel), TW_at 1910 (by decide +kernel) (by decide +kernel), by decide +kernel, by decide, by decide⟩
theorem mmX13_strengthOf : Cond.instanceMethod yX13_strengthOf ∈ TW ∧ Cond.selects (clR 13) yX13_strengthOf yX13_strengthOf ∈ TW ∧ Cond.initialized (clR 13) ∈ TW ∧ Cond.code yX13_strengthOf mX13_strengthOf.2.1 mX13_strengthOf.2.2.1 mX13_strengthOf.2.2.2 ∈ TW ∧ (yX13_strengthOf.cls = clR 13 ∧ yX13_strengthOf.cls ≠ "java/lang/invoke/MethodHandle" ∧ yX13_strengthOf.cls ≠ "java/lang/invoke/VarHandle" ∧ (parseMethodDescriptor yX13_strengthOf.desc).map (fun d => d.parameters.length) = some 1) ∧ mX13_strengthOf.2.2.1 ≤ 19 ∧ 13 < 14 := ⟨TW_at 1925 (by decide +kernel) (by decide +kernel), TW_at 95 (by decide +kernel) (by decide +kernel), TW_at 125 (by decide +kernel) (by decide +kernel), TW_at 1926 (by decide +kernel) (by decide +kernel), by decide +kernel, by decide, by decide⟩
theorem mmX13_breaking : Cond.instanceMethod yX13_breaking ∈ TW ∧ Cond.selects (clR 13) yX13_breaking yX13_breaking ∈ TW ∧ Cond.initialized (clR 13) ∈ TW ∧ Cond.code yX13_breaking mX13_breaking.2.1 mX13_breaking.2.2.1 mX13_breaking.2.2.2 ∈ TW ∧ (yX13_breaking.cls = clR 13 ∧ yX13_breaking.cls ≠ "java/lang/invoke/MethodHandle" ∧ yX13_breaking.cls ≠ "java/lang/invoke/VarHandle" ∧ (parseMethodDescriptor yX13_breaking.desc).map (fun d => d.parameters.length) = some 1) ∧ mX13_breaking.2.2.1 ≤ 19 ∧ 13 < 14 := ⟨TW_at 1921 (by decide +kernel) (by decide +kernel), TW_at 94 (by decide +kernel) (by decide +kernel), TW_at 125 (by decide +kernel) (by decide +kernel), TW_at 1922 (by decide +kernel) (by decide +kernel), by decide +kernel, by decide, by decide⟩
theorem mmX13_breakFew : Cond.instanceMethod yX13_breakFew ∈ TW ∧ Cond.selects (clR 13) yX13_breakFew yX13_breakFew ∈ TW ∧ Cond.initialized (clR 13) ∈ TW ∧ Cond.code yX13_breakFew mX13_breakFew.2.1 mX13_breakFew.2.2.1 mX13_breakFew.2.2.2 ∈ TW ∧ (yX13_breakFew.cls = clR 13 ∧ yX13_breakFew.cls ≠ "java/lang/invoke/MethodHandle" ∧ yX13_breakFew.cls ≠ "java/lang/invoke/VarHandle" ∧ (parseMethodDescriptor yX13_breakFew.desc).map (fun d => d.parameters.length) = some 0) ∧ mX13_breakFew.2.2.1 ≤ 19 ∧ 13 < 14 := ⟨TW_at 1916 (by decide +kernel) (by decide +kernel), TW_at 1917 (by decide +kernel) (by decide +kernel), TW_at 125 (by decide +kernel) (by decide +kernel), TW_at 1918 (by decide +kernel) (by decide +kernel), by decide +kernel, by decide, by decide⟩
theorem mmX13_breakRued : Cond.instanceMethod yX13_breakRued ∈ TW ∧ Cond.selects (clR 13) yX13_breakRued yX13_breakRued ∈ TW ∧ Cond.initialized (clR 13) ∈ TW ∧ Cond.code yX13_breakRued mX13_breakRued.2.1 mX13_breakRued.2.2.1 mX13_breakRued.2.2.2 ∈ TW ∧ (yX13_breakRued.cls = clR 13 ∧ yX13_breakRued.cls ≠ "java/lang/invoke/MethodHandle" ∧ yX13_breakRued.cls ≠ "java/lang/invoke/VarHandle" ∧ (parseMethodDescriptor yX13_breakRued.desc).map (fun d => d.parameters.length) = some 0) ∧ mX13_breakRued.2.2.1 ≤ 19 ∧ 13 < 14 := ⟨TW_at 1928 (by decide +kernel) (by decide +kernel), TW_at 1929 (by decide +kernel) (by decide +kernel), TW_at 125 (by decide +kernel) (by decide +kernel), TW_at 1930 (by decide +kernel) (by decide +kernel), by decide +kernel, by decide, by decide⟩
theorem mmX13_rue : Cond.instanceMethod yX13_rue ∈ TW ∧ Cond.selects (clR 13) yX13_rue yX13_rue ∈ TW ∧ Cond.initialized (clR 13) ∈ TW ∧ Cond.code yX13_rue mX13_rue.2.1 mX13_rue.2.2.1 mX13_rue.2.2.2 ∈ TW ∧ (yX13_rue.cls = clR 13 ∧ yX13_rue.cls ≠ "java/lang/invoke/MethodHandle" ∧ yX13_rue.cls ≠ "java/lang/invoke/VarHandle" ∧ (parseMethodDescriptor yX13_rue.desc).map (fun d => d.parameters.length) = some 0) ∧ mX13_rue.2.2.1 ≤ 19 ∧ 13 < 14 := ⟨TW_at 1932 (by decide +kernel) (by decide +kernel), TW_at 1933 (by decide +kernel) (by decide +kernel), TW_at 125 (by decide +kernel) (by decide +kernel), TW_at 1934 (by decide +kernel) (by decide +kernel), by decide +kernel, by decide, by decide⟩
theorem mmX13_peaces : Cond.instanceMethod yX13_peaces ∈ TW ∧ Cond.selects (clR 13) yX13_peaces yX13_peaces ∈ TW ∧ Cond.initialized (clR 13) ∈ TW ∧ Cond.code yX13_peaces mX13_peaces.2.1 mX13_peaces.2.2.1 mX13_peaces.2.2.2 ∈ TW ∧ (yX13_peaces.cls = clR 13 ∧ yX13_peaces.cls ≠ "java/lang/invoke/MethodHandle" ∧ yX13_peaces.cls ≠ "java/lang/invoke/VarHandle" ∧ (parseMethodDescriptor yX13_peaces.desc).map (fun d => d.parameters.length) = some 0) ∧ mX13_peaces.2.2.1 ≤ 19 ∧ 13 < 14 := ⟨TW_at 1936 (by decide +kernel) (by decide +kernel), TW_at 1937 (by decide +kernel) (by decide +kernel), TW_at 125 (by decide +kernel) (by decide +kernel), TW_at 1938 (by decide +kernel) (by decide +kernel), by decide +kernel, by decide, by decide⟩
theorem mmX13_isLied : Cond.instanceMethod yX13_isLied ∈ TW ∧ Cond.selects (clR 13) yX13_isLied yX13_isLied ∈ TW ∧ Cond.initialized (clR 13) ∈ TW ∧ Cond.code yX13_isLied mX13_isLied.2.1 mX13_isLied.2.2.1 mX13_isLied.2.2.2 ∈ TW ∧ (yX13_isLied.cls = clR 13 ∧ yX13_isLied.cls ≠ "java/lang/invoke/MethodHandle" ∧ yX13_isLied.cls ≠ "java/lang/invoke/VarHandle" ∧ (parseMethodDescriptor yX13_isLied.desc).map (fun d => d.parameters.length) = some 2) ∧ mX13_isLied.2.2.1 ≤ 19 ∧ 13 < 14 := ⟨TW_at 1961 (by decide +kernel) (by decide +kernel), TW_at 100 (by decide +kernel) (by decide +kernel), TW_at 125 (by decide +kernel) (by decide +kernel), TW_at 1962 (by decide +kernel) (by decide +kernel), by decide +kernel, by decide, by decide⟩
theorem mmX13_isRight : Cond.instanceMethod yX13_isRight ∈ TW ∧ Cond.selects (clR 13) yX13_isRight yX13_isRight ∈ TW ∧ Cond.initialized (clR 13) ∈ TW ∧ Cond.code yX13_isRight mX13_isRight.2.1 mX13_isRight.2.2.1 mX13_isRight.2.2.2 ∈ TW ∧ (yX13_isRight.cls = clR 13 ∧ yX13_isRight.cls ≠ "java/lang/invoke/MethodHandle" ∧ yX13_isRight.cls ≠ "java/lang/invoke/VarHandle" ∧ (parseMethodDescriptor yX13_isRight.desc).map (fun d => d.parameters.length) = some 2) ∧ mX13_isRight.2.2.1 ≤ 19 ∧ 13 < 14 := ⟨TW_at 1957 (by decide +kernel) (by decide +kernel), TW_at 99 (by decide +kernel) (by decide +kernel), TW_at 125 (by decide +kernel) (by decide +kernel), TW_at 1958 (by decide +kernel) (by decide +kernel), by decide +kernel, by decide, by decide⟩
theorem mmX13_weightOf : Cond.instanceMethod yX13_weightOf ∈ TW ∧ Cond.selects (clR 13) yX13_weightOf yX13_weightOf ∈ TW ∧ Cond.initialized (clR 13) ∈ TW ∧ Cond.code yX13_weightOf mX13_weightOf.2.1 mX13_weightOf.2.2.1 mX13_weightOf.2.2.2 ∈ TW ∧ (yX13_weightOf.cls = clR 13 ∧ yX13_weightOf.cls ≠ "java/lang/invoke/MethodHandle" ∧ yX13_weightOf.cls ≠ "java/lang/invoke/VarHandle" ∧ (parseMethodDescriptor yX13_weightOf.desc).map (fun d => d.parameters.length) = some 1) ∧ mX13_weightOf.2.2.1 ≤ 19 ∧ 13 < 14 := ⟨TW_at 1953 (by decide +kernel) (by decide +kernel), TW_at 98 (by decide +kernel) (by decide +kernel), TW_at 125 (by decide +kernel) (by decide +kernel), TW_at 1954 (by decide +kernel) (by decide +kernel), by decide +kernel, by decide, by decide⟩
theorem mmX13_sets : Cond.instanceMethod yX13_sets ∈ TW ∧ Cond.selects (clR 13) yX13_sets yX13_sets ∈ TW ∧ Cond.initialized (clR 13) ∈ TW ∧ Cond.code yX13_sets mX13_sets.2.1 mX13_sets.2.2.1 mX13_sets.2.2.2 ∈ TW ∧ (yX13_sets.cls = clR 13 ∧ yX13_sets.cls ≠ "java/lang/invoke/MethodHandle" ∧ yX13_sets.cls ≠ "java/lang/invoke/VarHandle" ∧ (parseMethodDescriptor yX13_sets.desc).map (fun d => d.parameters.length) = some 0) ∧ mX13_sets.2.2.1 ≤ 19 ∧ 13 < 14 := ⟨TW_at 1949 (by decide +kernel) (by decide +kernel), TW_at 97 (by decide +kernel) (by decide +kernel), TW_at 125 (by decide +kernel) (by decide +kernel), TW_at 1950 (by decide +kernel) (by decide +kernel), by decide +kernel, by decide, by decide⟩
theorem mmX13_fitting : Cond.instanceMethod yX13_fitting ∈ TW ∧ Cond.selects (clR 13) yX13_fitting yX13_fitting ∈ TW ∧ Cond.initialized (clR 13) ∈ TW ∧ Cond.code yX13_fitting mX13_fitting.2.1 mX13_fitting.2.2.1 mX13_fitting.2.2.2 ∈ TW ∧ (yX13_fitting.cls = clR 13 ∧ yX13_fitting.cls ≠ "java/lang/invoke/MethodHandle" ∧ yX13_fitting.cls ≠ "java/lang/invoke/VarHandle" ∧ (parseMethodDescriptor yX13_fitting.desc).map (fun d => d.parameters.length) = some 1) ∧ mX13_fitting.2.2.1 ≤ 19 ∧ 13 < 14 := ⟨TW_at 1945 (by decide +kernel) (by decide +kernel), TW_at 96 (by decide +kernel) (by decide +kernel), TW_at 125 (by decide +kernel) (by decide +kernel), TW_at 1946 (by decide +kernel) (by decide +kernel), by decide +kernel, by decide, by decide⟩
theorem mmX13_fits : Cond.instanceMethod yX13_fits ∈ TW ∧ Cond.selects (clR 13) yX13_fits yX13_fits ∈ TW ∧ Cond.initialized (clR 13) ∈ TW ∧ Cond.code yX13_fits mX13_fits.2.1 mX13_fits.2.2.1 mX13_fits.2.2.2 ∈ TW ∧ (yX13_fits.cls = clR 13 ∧ yX13_fits.cls ≠ "java/lang/invoke/MethodHandle" ∧ yX13_fits.cls ≠ "java/lang/invoke/VarHandle" ∧ (parseMethodDescriptor yX13_fits.desc).map (fun d => d.parameters.length) = some 0) ∧ mX13_fits.2.2.1 ≤ 19 ∧ 13 < 14 := ⟨TW_at 1940 (by decide +kernel) (by decide +kernel), TW_at 1941 (by decide +kernel) (by decide +kernel), TW_at 125 (by decide +kernel) (by decide +kernel), TW_at 1942 (by decide +kernel) (by decide +kernel), by decide +kernel, by decide, by decide⟩
theorem mmX13_fitAt : Cond.instanceMethod yX13_fitAt ∈ TW ∧ Cond.selects (clR 13) yX13_fitAt yX13_fitAt ∈ TW ∧ Cond.initialized (clR 13) ∈ TW ∧ Cond.code yX13_fitAt mX13_fitAt.2.1 mX13_fitAt.2.2.1 mX13_fitAt.2.2.2 ∈ TW ∧ (yX13_fitAt.cls = clR 13 ∧ yX13_fitAt.cls ≠ "java/lang/invoke/MethodHandle" ∧ yX13_fitAt.cls ≠ "java/lang/invoke/VarHandle" ∧ (parseMethodDescriptor yX13_fitAt.desc).map (fun d => d.parameters.length) = some 1) ∧ mX13_fitAt.2.2.1 ≤ 19 ∧ 13 < 14 := ⟨TW_at 1964 (by decide +kernel) (by decide +kernel), TW_at 1965 (by decide +kernel) (by decide +kernel), TW_at 125 (by decide +kernel) (by decide +kernel), TW_at 1966 (by decide +kernel) (by decide +kernel), by decide +kernel, by decide, by decide⟩
theorem mmX13_odds : Cond.instanceMethod yX13_odds ∈ TW ∧ Cond.selects (clR 13) yX13_odds yX13_odds ∈ TW ∧ Cond.initialized (clR 13) ∈ TW ∧ Cond.code yX13_odds mX13_odds.2.1 mX13_odds.2.2.1 mX13_odds.2.2.2 ∈ TW ∧ (yX13_odds.cls = clR 13 ∧ yX13_odds.cls ≠ "java/lang/invoke/MethodHandle" ∧ yX13_odds.cls ≠ "java/lang/invoke/VarHandle" ∧ (parseMethodDescriptor yX13_odds.desc).map (fun d => d.parameters.length) = some 2) ∧ mX13_odds.2.2.1 ≤ 19 ∧ 13 < 14 := ⟨TW_at 1968 (by decide +kernel) (by decide +kernel), TW_at 1969 (by decide +kernel) (by decide +kernel), TW_at 125 (by decide +kernel) (by decide +kernel), TW_at 1970 (by decide +kernel) (by decide +kernel), by decide +kernel, by decide, by decide⟩
theorem mmX13_likeliest : Cond.instanceMethod yX13_likeliest ∈ TW ∧ Cond.selects (clR 13) yX13_likeliest yX13_likeliest ∈ TW ∧ Cond.initialized (clR 13) ∈ TW ∧ Cond.code yX13_likeliest mX13_likeliest.2.1 mX13_likeliest.2.2.1 mX13_likeliest.2.2.2 ∈ TW ∧ (yX13_likeliest.cls = clR 13 ∧ yX13_likeliest.cls ≠ "java/lang/invoke/MethodHandle" ∧ yX13_likeliest.cls ≠ "java/lang/invoke/VarHandle" ∧ (parseMethodDescriptor yX13_likeliest.desc).map (fun d => d.parameters.length) = some 0) ∧ mX13_likeliest.2.2.1 ≤ 19 ∧ 13 < 14 := ⟨TW_at 1979 (by decide +kernel) (by decide +kernel), TW_at 1980 (by decide +kernel) (by decide +kernel), TW_at 125 (by decide +kernel) (by decide +kernel), TW_at 1981 (by decide +kernel) (by decide +kernel), by decide +kernel, by decide, by decide⟩
theorem mmX13_tests : Cond.instanceMethod yX13_tests ∈ TW ∧ Cond.selects (clR 13) yX13_tests yX13_tests ∈ TW ∧ Cond.initialized (clR 13) ∈ TW ∧ Cond.code yX13_tests mX13_tests.2.1 mX13_tests.2.2.1 mX13_tests.2.2.2 ∈ TW ∧ (yX13_tests.cls = clR 13 ∧ yX13_tests.cls ≠ "java/lang/invoke/MethodHandle" ∧ yX13_tests.cls ≠ "java/lang/invoke/VarHandle" ∧ (parseMethodDescriptor yX13_tests.desc).map (fun d => d.parameters.length) = some 0) ∧ mX13_tests.2.2.1 ≤ 19 ∧ 13 < 14 := ⟨TW_at 1988 (by decide +kernel) (by decide +kernel), TW_at 102 (by decide +kernel) (by decide +kernel), TW_at 125 (by decide +kernel) (by decide +kernel), TW_at 1989 (by decide +kernel) (by decide +kernel), by decide +kernel, by decide, by decide⟩
theorem mmX13_test : Cond.instanceMethod yX13_test ∈ TW ∧ Cond.selects (clR 13) yX13_test yX13_test ∈ TW ∧ Cond.initialized (clR 13) ∈ TW ∧ Cond.code yX13_test mX13_test.2.1 mX13_test.2.2.1 mX13_test.2.2.2 ∈ TW ∧ (yX13_test.cls = clR 13 ∧ yX13_test.cls ≠ "java/lang/invoke/MethodHandle" ∧ yX13_test.cls ≠ "java/lang/invoke/VarHandle" ∧ (parseMethodDescriptor yX13_test.desc).map (fun d => d.parameters.length) = some 0) ∧ mX13_test.2.2.1 ≤ 19 ∧ 13 < 14 := ⟨TW_at 1983 (by decide +kernel) (by decide +kernel), TW_at 1984 (by decide +kernel) (by decide +kernel), TW_at 125 (by decide +kernel) (by decide +kernel), TW_at 1985 (by decide +kernel) (by decide +kernel), by decide +kernel, by decide, by decide⟩
theorem mmX13_testLeaves : Cond.instanceMethod yX13_testLeaves ∈ TW ∧ Cond.selects (clR 13) yX13_testLeaves yX13_testLeaves ∈ TW ∧ Cond.initialized (clR 13) ∈ TW ∧ Cond.code yX13_testLeaves mX13_testLeaves.2.1 mX13_testLeaves.2.2.1 mX13_testLeaves.2.2.2 ∈ TW ∧ (yX13_testLeaves.cls = clR 13 ∧ yX13_testLeaves.cls ≠ "java/lang/invoke/MethodHandle" ∧ yX13_testLeaves.cls ≠ "java/lang/invoke/VarHandle" ∧ (parseMethodDescriptor yX13_testLeaves.desc).map (fun d => d.parameters.length) = some 0) ∧ mX13_testLeaves.2.2.1 ≤ 19 ∧ 13 < 14 := ⟨TW_at 1991 (by decide +kernel) (by decide +kernel), TW_at 1992 (by decide +kernel) (by decide +kernel), TW_at 125 (by decide +kernel) (by decide +kernel), TW_at 1993 (by decide +kernel) (by decide +kernel), by decide +kernel, by decide, by decide⟩
theorem mmX13_isLiedNow : Cond.instanceMethod yX13_isLiedNow ∈ TW ∧ Cond.selects (clR 13) yX13_isLiedNow yX13_isLiedNow ∈ TW ∧ Cond.initialized (clR 13) ∈ TW ∧ Cond.code yX13_isLiedNow mX13_isLiedNow.2.1 mX13_isLiedNow.2.2.1 mX13_isLiedNow.2.2.2 ∈ TW ∧ (yX13_isLiedNow.cls = clR 13 ∧ yX13_isLiedNow.cls ≠ "java/lang/invoke/MethodHandle" ∧ yX13_isLiedNow.cls ≠ "java/lang/invoke/VarHandle" ∧ (parseMethodDescriptor yX13_isLiedNow.desc).map (fun d => d.parameters.length) = some 2) ∧ mX13_isLiedNow.2.2.1 ≤ 19 ∧ 13 < 14 := ⟨TW_at 2000 (by decide +kernel) (by decide +kernel), TW_at 103 (by decide +kernel) (by decide +kernel), TW_at 125 (by decide +kernel) (by decide +kernel), TW_at 2001 (by decide +kernel) (by decide +kernel), by decide +kernel, by decide, by decide⟩
theorem mmX13_brown : Cond.instanceMethod yX13_brown ∈ TW ∧ Cond.selects (clR 13) yX13_brown yX13_brown ∈ TW ∧ Cond.initialized (clR 13) ∈ TW ∧ Cond.code yX13_brown mX13_brown.2.1 mX13_brown.2.2.1 mX13_brown.2.2.2 ∈ TW ∧ (yX13_brown.cls = clR 13 ∧ yX13_brown.cls ≠ "java/lang/invoke/MethodHandle" ∧ yX13_brown.cls ≠ "java/lang/invoke/VarHandle" ∧ (parseMethodDescriptor yX13_brown.desc).map (fun d => d.parameters.length) = some 3) ∧ mX13_brown.2.2.1 ≤ 19 ∧ 13 < 14 := ⟨TW_at 1995 (by decide +kernel) (by decide +kernel), TW_at 1996 (by decide +kernel) (by decide +kernel), TW_at 125 (by decide +kernel) (by decide +kernel), TW_at 1997 (by decide +kernel) (by decide +kernel), by decide +kernel, by decide, by decide⟩
theorem mmX13_judge : Cond.instanceMethod yX13_judge ∈ TW ∧ Cond.selects (clR 13) yX13_judge yX13_judge ∈ TW ∧ Cond.initialized (clR 13) ∈ TW ∧ Cond.code yX13_judge mX13_judge.2.1 mX13_judge.2.2.1 mX13_judge.2.2.2 ∈ TW ∧ (yX13_judge.cls = clR 13 ∧ yX13_judge.cls ≠ "java/lang/invoke/MethodHandle" ∧ yX13_judge.cls ≠ "java/lang/invoke/VarHandle" ∧ (parseMethodDescriptor yX13_judge.desc).map (fun d => d.parameters.length) = some 0) ∧ mX13_judge.2.2.1 ≤ 19 ∧ 13 < 14 := ⟨TW_at 2003 (by decide +kernel) (by decide +kernel), TW_at 2004 (by decide +kernel) (by decide +kernel), TW_at 125 (by decide +kernel) (by decide +kernel), TW_at 2005 (by decide +kernel) (by decide +kernel), by decide +kernel, by decide, by decide⟩
theorem mmX13_snapping : Cond.instanceMethod yX13_snapping ∈ TW ∧ Cond.selects (clR 13) yX13_snapping yX13_snapping ∈ TW ∧ Cond.initialized (clR 13) ∈ TW ∧ Cond.code yX13_snapping mX13_snapping.2.1 mX13_snapping.2.2.1 mX13_snapping.2.2.2 ∈ TW ∧ (yX13_snapping.cls = clR 13 ∧ yX13_snapping.cls ≠ "java/lang/invoke/MethodHandle" ∧ yX13_snapping.cls ≠ "java/lang/invoke/VarHandle" ∧ (parseMethodDescriptor yX13_snapping.desc).map (fun d => d.parameters.length) = some 2) ∧ mX13_snapping.2.2.1 ≤ 19 ∧ 13 < 14 := ⟨TW_at 2012 (by decide +kernel) (by decide +kernel), TW_at 104 (by decide +kernel) (by decide +kernel), TW_at 125 (by decide +kernel) (by decide +kernel), TW_at 2013 (by decide +kernel) (by decide +kernel), by decide +kernel, by decide, by decide⟩
theorem mmX13_snaps : Cond.instanceMethod yX13_snaps ∈ TW ∧ Cond.selects (clR 13) yX13_snaps yX13_snaps ∈ TW ∧ Cond.initialized (clR 13) ∈ TW ∧ Cond.code yX13_snaps mX13_snaps.2.1 mX13_snaps.2.2.1 mX13_snaps.2.2.2 ∈ TW ∧ (yX13_snaps.cls = clR 13 ∧ yX13_snaps.cls ≠ "java/lang/invoke/MethodHandle" ∧ yX13_snaps.cls ≠ "java/lang/invoke/VarHandle" ∧ (parseMethodDescriptor yX13_snaps.desc).map (fun d => d.parameters.length) = some 2) ∧ mX13_snaps.2.2.1 ≤ 19 ∧ 13 < 14 := ⟨TW_at 2007 (by decide +kernel) (by decide +kernel), TW_at 2008 (by decide +kernel) (by decide +kernel), TW_at 125 (by decide +kernel) (by decide +kernel), TW_at 2009 (by decide +kernel) (by decide +kernel), by decide +kernel, by decide, by decide⟩
theorem mmX13_snapsBy : Cond.instanceMethod yX13_snapsBy ∈ TW ∧ Cond.selects (clR 13) yX13_snapsBy yX13_snapsBy ∈ TW ∧ Cond.initialized (clR 13) ∈ TW ∧ Cond.code yX13_snapsBy mX13_snapsBy.2.1 mX13_snapsBy.2.2.1 mX13_snapsBy.2.2.2 ∈ TW ∧ (yX13_snapsBy.cls = clR 13 ∧ yX13_snapsBy.cls ≠ "java/lang/invoke/MethodHandle" ∧ yX13_snapsBy.cls ≠ "java/lang/invoke/VarHandle" ∧ (parseMethodDescriptor yX13_snapsBy.desc).map (fun d => d.parameters.length) = some 2) ∧ mX13_snapsBy.2.2.1 ≤ 19 ∧ 13 < 14 := ⟨TW_at 2015 (by decide +kernel) (by decide +kernel), TW_at 2016 (by decide +kernel) (by decide +kernel), TW_at 125 (by decide +kernel) (by decide +kernel), TW_at 2017 (by decide +kernel) (by decide +kernel), by decide +kernel, by decide, by decide⟩
theorem ssX13_blown : Cond.static yX13_blown ∈ TW ∧ Cond.initialized yX13_blown.cls ∈ TW ∧ Cond.code yX13_blown mX13_blown.2.1 mX13_blown.2.2.1 mX13_blown.2.2.2 ∈ TW ∧ (yX13_blown.cls ≠ "java/lang/invoke/MethodHandle" ∧ yX13_blown.cls ≠ "java/lang/invoke/VarHandle" ∧ (parseMethodDescriptor yX13_blown.desc).map (fun d => d.parameters.length) = some 3) ∧ mX13_blown.2.2.1 ≤ 19 := ⟨TW_at 2027 (by decide +kernel) (by decide +kernel), TW_at 125 (by decide +kernel) (by decide +kernel), TW_at 2028 (by decide +kernel) (by decide +kernel), by decide +kernel, by decide⟩
theorem mmX13_refusesWeb : Cond.instanceMethod yX13_refusesWeb ∈ TW ∧ Cond.selects (clR 13) yX13_refusesWeb yX13_refusesWeb ∈ TW ∧ Cond.initialized (clR 13) ∈ TW ∧ Cond.code yX13_refusesWeb mX13_refusesWeb.2.1 mX13_refusesWeb.2.2.1 mX13_refusesWeb.2.2.2 ∈ TW ∧ (yX13_refusesWeb.cls = clR 13 ∧ yX13_refusesWeb.cls ≠ "java/lang/invoke/MethodHandle" ∧ yX13_refusesWeb.cls ≠ "java/lang/invoke/VarHandle" ∧ (parseMethodDescriptor yX13_refusesWeb.desc).map (fun d => d.parameters.length) = some 1) ∧ mX13_refusesWeb.2.2.1 ≤ 19 ∧ 13 < 14 := ⟨TW_at 2024 (by decide +kernel) (by decide +kernel), TW_at 105 (by decide +kernel) (by decide +kernel), TW_at 125 (by decide +kernel) (by decide +kernel), TW_at 2025 (by decide +kernel) (by decide +kernel), by decide +kernel, by decide, by decide⟩
theorem mmX13_blows : Cond.instanceMethod yX13_blows ∈ TW ∧ Cond.selects (clR 13) yX13_blows yX13_blows ∈ TW ∧ Cond.initialized (clR 13) ∈ TW ∧ Cond.code yX13_blows mX13_blows.2.1 mX13_blows.2.2.1 mX13_blows.2.2.2 ∈ TW ∧ (yX13_blows.cls = clR 13 ∧ yX13_blows.cls ≠ "java/lang/invoke/MethodHandle" ∧ yX13_blows.cls ≠ "java/lang/invoke/VarHandle" ∧ (parseMethodDescriptor yX13_blows.desc).map (fun d => d.parameters.length) = some 4) ∧ mX13_blows.2.2.1 ≤ 19 ∧ 13 < 14 := ⟨TW_at 2019 (by decide +kernel) (by decide +kernel), TW_at 2020 (by decide +kernel) (by decide +kernel), TW_at 125 (by decide +kernel) (by decide +kernel), TW_at 2021 (by decide +kernel) (by decide +kernel), by decide +kernel, by decide, by decide⟩
theorem ssX13_isRest : Cond.static yX13_isRest ∈ TW ∧ Cond.initialized yX13_isRest.cls ∈ TW ∧ Cond.code yX13_isRest mX13_isRest.2.1 mX13_isRest.2.2.1 mX13_isRest.2.2.2 ∈ TW ∧ (yX13_isRest.cls ≠ "java/lang/invoke/MethodHandle" ∧ yX13_isRest.cls ≠ "java/lang/invoke/VarHandle" ∧ (parseMethodDescriptor yX13_isRest.desc).map (fun d => d.parameters.length) = some 2) ∧ mX13_isRest.2.2.1 ≤ 19 := ⟨TW_at 2034 (by decide +kernel) (by decide +kernel), TW_at 125 (by decide +kernel) (by decide +kernel), TW_at 2035 (by decide +kernel) (by decide +kernel), by decide +kernel, by decide⟩
theorem mmX13_rests : Cond.instanceMethod yX13_rests ∈ TW ∧ Cond.selects (clR 13) yX13_rests yX13_rests ∈ TW ∧ Cond.initialized (clR 13) ∈ TW ∧ Cond.code yX13_rests mX13_rests.2.1 mX13_rests.2.2.1 mX13_rests.2.2.2 ∈ TW ∧ (yX13_rests.cls = clR 13 ∧ yX13_rests.cls ≠ "java/lang/invoke/MethodHandle" ∧ yX13_rests.cls ≠ "java/lang/invoke/VarHandle" ∧ (parseMethodDescriptor yX13_rests.desc).map (fun d => d.parameters.length) = some 1) ∧ mX13_rests.2.2.1 ≤ 19 ∧ 13 < 14 := ⟨TW_at 2030 (by decide +kernel) (by decide +kernel), TW_at 2031 (by decide +kernel) (by decide +kernel), TW_at 125 (by decide +kernel) (by decide +kernel), TW_at 2032 (by decide +kernel) (by decide +kernel), by decide +kernel, by decide, by decide⟩
theorem mmX13_rest : Cond.instanceMethod yX13_rest ∈ TW ∧ Cond.selects (clR 13) yX13_rest yX13_rest ∈ TW ∧ Cond.initialized (clR 13) ∈ TW ∧ Cond.code yX13_rest mX13_rest.2.1 mX13_rest.2.2.1 mX13_rest.2.2.2 ∈ TW ∧ (yX13_rest.cls = clR 13 ∧ yX13_rest.cls ≠ "java/lang/invoke/MethodHandle" ∧ yX13_rest.cls ≠ "java/lang/invoke/VarHandle" ∧ (parseMethodDescriptor yX13_rest.desc).map (fun d => d.parameters.length) = some 1) ∧ mX13_rest.2.2.1 ≤ 19 ∧ 13 < 14 := ⟨TW_at 2037 (by decide +kernel) (by decide +kernel), TW_at 2038 (by decide +kernel) (by decide +kernel), TW_at 125 (by decide +kernel) (by decide +kernel), TW_at 2039 (by decide +kernel) (by decide +kernel), by decide +kernel, by decide, by decide⟩
theorem mmX13_partOf : Cond.instanceMethod yX13_partOf ∈ TW ∧ Cond.selects (clR 13) yX13_partOf yX13_partOf ∈ TW ∧ Cond.initialized (clR 13) ∈ TW ∧ Cond.code yX13_partOf mX13_partOf.2.1 mX13_partOf.2.2.1 mX13_partOf.2.2.2 ∈ TW ∧ (yX13_partOf.cls = clR 13 ∧ yX13_partOf.cls ≠ "java/lang/invoke/MethodHandle" ∧ yX13_partOf.cls ≠ "java/lang/invoke/VarHandle" ∧ (parseMethodDescriptor yX13_partOf.desc).map (fun d => d.parameters.length) = some 2) ∧ mX13_partOf.2.2.1 ≤ 19 ∧ 13 < 14 := ⟨TW_at 2046 (by decide +kernel) (by decide +kernel), TW_at 106 (by decide +kernel) (by decide +kernel), TW_at 125 (by decide +kernel) (by decide +kernel), TW_at 2047 (by decide +kernel) (by decide +kernel), by decide +kernel, by decide, by decide⟩
theorem mmX13_bearOdds : Cond.instanceMethod yX13_bearOdds ∈ TW ∧ Cond.selects (clR 13) yX13_bearOdds yX13_bearOdds ∈ TW ∧ Cond.initialized (clR 13) ∈ TW ∧ Cond.code yX13_bearOdds mX13_bearOdds.2.1 mX13_bearOdds.2.2.1 mX13_bearOdds.2.2.2 ∈ TW ∧ (yX13_bearOdds.cls = clR 13 ∧ yX13_bearOdds.cls ≠ "java/lang/invoke/MethodHandle" ∧ yX13_bearOdds.cls ≠ "java/lang/invoke/VarHandle" ∧ (parseMethodDescriptor yX13_bearOdds.desc).map (fun d => d.parameters.length) = some 4) ∧ mX13_bearOdds.2.2.1 ≤ 19 ∧ 13 < 14 := ⟨TW_at 2041 (by decide +kernel) (by decide +kernel), TW_at 2042 (by decide +kernel) (by decide +kernel), TW_at 125 (by decide +kernel) (by decide +kernel), TW_at 2043 (by decide +kernel) (by decide +kernel), by decide +kernel, by decide, by decide⟩
theorem mmX13_mean : Cond.instanceMethod yX13_mean ∈ TW ∧ Cond.selects (clR 13) yX13_mean yX13_mean ∈ TW ∧ Cond.initialized (clR 13) ∈ TW ∧ Cond.code yX13_mean mX13_mean.2.1 mX13_mean.2.2.1 mX13_mean.2.2.2 ∈ TW ∧ (yX13_mean.cls = clR 13 ∧ yX13_mean.cls ≠ "java/lang/invoke/MethodHandle" ∧ yX13_mean.cls ≠ "java/lang/invoke/VarHandle" ∧ (parseMethodDescriptor yX13_mean.desc).map (fun d => d.parameters.length) = some 3) ∧ mX13_mean.2.2.1 ≤ 19 ∧ 13 < 14 := ⟨TW_at 2050 (by decide +kernel) (by decide +kernel), TW_at 2051 (by decide +kernel) (by decide +kernel), TW_at 125 (by decide +kernel) (by decide +kernel), TW_at 2052 (by decide +kernel) (by decide +kernel), by decide +kernel, by decide, by decide⟩
theorem mmX13_clerksYear : Cond.instanceMethod yX13_clerksYear ∈ TW ∧ Cond.selects (clR 13) yX13_clerksYear yX13_clerksYear ∈ TW ∧ Cond.initialized (clR 13) ∈ TW ∧ Cond.code yX13_clerksYear mX13_clerksYear.2.1 mX13_clerksYear.2.2.1 mX13_clerksYear.2.2.2 ∈ TW ∧ (yX13_clerksYear.cls = clR 13 ∧ yX13_clerksYear.cls ≠ "java/lang/invoke/MethodHandle" ∧ yX13_clerksYear.cls ≠ "java/lang/invoke/VarHandle" ∧ (parseMethodDescriptor yX13_clerksYear.desc).map (fun d => d.parameters.length) = some 0) ∧ mX13_clerksYear.2.2.1 ≤ 19 ∧ 13 < 14 := ⟨TW_at 2064 (by decide +kernel) (by decide +kernel), TW_at 108 (by decide +kernel) (by decide +kernel), TW_at 125 (by decide +kernel) (by decide +kernel), TW_at 2065 (by decide +kernel) (by decide +kernel), by decide +kernel, by decide, by decide⟩
theorem mmX13_refusesSeed : Cond.instanceMethod yX13_refusesSeed ∈ TW ∧ Cond.selects (clR 13) yX13_refusesSeed yX13_refusesSeed ∈ TW ∧ Cond.initialized (clR 13) ∈ TW ∧ Cond.code yX13_refusesSeed mX13_refusesSeed.2.1 mX13_refusesSeed.2.2.1 mX13_refusesSeed.2.2.2 ∈ TW ∧ (yX13_refusesSeed.cls = clR 13 ∧ yX13_refusesSeed.cls ≠ "java/lang/invoke/MethodHandle" ∧ yX13_refusesSeed.cls ≠ "java/lang/invoke/VarHandle" ∧ (parseMethodDescriptor yX13_refusesSeed.desc).map (fun d => d.parameters.length) = some 3) ∧ mX13_refusesSeed.2.2.1 ≤ 19 ∧ 13 < 14 := ⟨TW_at 2059 (by decide +kernel) (by decide +kernel), TW_at 107 (by decide +kernel) (by decide +kernel), TW_at 125 (by decide +kernel) (by decide +kernel), TW_at 2060 (by decide +kernel) (by decide +kernel), by decide +kernel, by decide, by decide⟩
theorem mmX13_years : Cond.instanceMethod yX13_years ∈ TW ∧ Cond.selects (clR 13) yX13_years yX13_years ∈ TW ∧ Cond.initialized (clR 13) ∈ TW ∧ Cond.code yX13_years mX13_years.2.1 mX13_years.2.2.1 mX13_years.2.2.2 ∈ TW ∧ (yX13_years.cls = clR 13 ∧ yX13_years.cls ≠ "java/lang/invoke/MethodHandle" ∧ yX13_years.cls ≠ "java/lang/invoke/VarHandle" ∧ (parseMethodDescriptor yX13_years.desc).map (fun d => d.parameters.length) = some 2) ∧ mX13_years.2.2.1 ≤ 19 ∧ 13 < 14 := ⟨TW_at 2054 (by decide +kernel) (by decide +kernel), TW_at 2055 (by decide +kernel) (by decide +kernel), TW_at 125 (by decide +kernel) (by decide +kernel), TW_at 2056 (by decide +kernel) (by decide +kernel), by decide +kernel, by decide, by decide⟩
theorem mmX13_fallsBy : Cond.instanceMethod yX13_fallsBy ∈ TW ∧ Cond.selects (clR 13) yX13_fallsBy yX13_fallsBy ∈ TW ∧ Cond.initialized (clR 13) ∈ TW ∧ Cond.code yX13_fallsBy mX13_fallsBy.2.1 mX13_fallsBy.2.2.1 mX13_fallsBy.2.2.2 ∈ TW ∧ (yX13_fallsBy.cls = clR 13 ∧ yX13_fallsBy.cls ≠ "java/lang/invoke/MethodHandle" ∧ yX13_fallsBy.cls ≠ "java/lang/invoke/VarHandle" ∧ (parseMethodDescriptor yX13_fallsBy.desc).map (fun d => d.parameters.length) = some 3) ∧ mX13_fallsBy.2.2.1 ≤ 19 ∧ 13 < 14 := ⟨TW_at 2070 (by decide +kernel) (by decide +kernel), TW_at 2071 (by decide +kernel) (by decide +kernel), TW_at 125 (by decide +kernel) (by decide +kernel), TW_at 2072 (by decide +kernel) (by decide +kernel), by decide +kernel, by decide, by decide⟩
theorem mmX13_remembers : Cond.instanceMethod yX13_remembers ∈ TW ∧ Cond.selects (clR 13) yX13_remembers yX13_remembers ∈ TW ∧ Cond.initialized (clR 13) ∈ TW ∧ Cond.code yX13_remembers mX13_remembers.2.1 mX13_remembers.2.2.1 mX13_remembers.2.2.2 ∈ TW ∧ (yX13_remembers.cls = clR 13 ∧ yX13_remembers.cls ≠ "java/lang/invoke/MethodHandle" ∧ yX13_remembers.cls ≠ "java/lang/invoke/VarHandle" ∧ (parseMethodDescriptor yX13_remembers.desc).map (fun d => d.parameters.length) = some 0) ∧ mX13_remembers.2.2.1 ≤ 19 ∧ 13 < 14 := ⟨TW_at 2079 (by decide +kernel) (by decide +kernel), TW_at 109 (by decide +kernel) (by decide +kernel), TW_at 125 (by decide +kernel) (by decide +kernel), TW_at 2080 (by decide +kernel) (by decide +kernel), by decide +kernel, by decide, by decide⟩
theorem mmX13_year : Cond.instanceMethod yX13_year ∈ TW ∧ Cond.selects (clR 13) yX13_year yX13_year ∈ TW ∧ Cond.initialized (clR 13) ∈ TW ∧ Cond.code yX13_year mX13_year.2.1 mX13_year.2.2.1 mX13_year.2.2.2 ∈ TW ∧ (yX13_year.cls = clR 13 ∧ yX13_year.cls ≠ "java/lang/invoke/MethodHandle" ∧ yX13_year.cls ≠ "java/lang/invoke/VarHandle" ∧ (parseMethodDescriptor yX13_year.desc).map (fun d => d.parameters.length) = some 0) ∧ mX13_year.2.2.1 ≤ 19 ∧ 13 < 14 := ⟨TW_at 2074 (by decide +kernel) (by decide +kernel), TW_at 2075 (by decide +kernel) (by decide +kernel), TW_at 125 (by decide +kernel) (by decide +kernel), TW_at 2076 (by decide +kernel) (by decide +kernel), by decide +kernel, by decide, by decide⟩
theorem mmX13_snap : Cond.instanceMethod yX13_snap ∈ TW ∧ Cond.selects (clR 13) yX13_snap yX13_snap ∈ TW ∧ Cond.initialized (clR 13) ∈ TW ∧ Cond.code yX13_snap mX13_snap.2.1 mX13_snap.2.2.1 mX13_snap.2.2.2 ∈ TW ∧ (yX13_snap.cls = clR 13 ∧ yX13_snap.cls ≠ "java/lang/invoke/MethodHandle" ∧ yX13_snap.cls ≠ "java/lang/invoke/VarHandle" ∧ (parseMethodDescriptor yX13_snap.desc).map (fun d => d.parameters.length) = some 1) ∧ mX13_snap.2.2.1 ≤ 19 ∧ 13 < 14 := ⟨TW_at 2082 (by decide +kernel) (by decide +kernel), TW_at 2083 (by decide +kernel) (by decide +kernel), TW_at 125 (by decide +kernel) (by decide +kernel), TW_at 2084 (by decide +kernel) (by decide +kernel), by decide +kernel, by decide, by decide⟩
theorem mmX13_spin : Cond.instanceMethod yX13_spin ∈ TW ∧ Cond.selects (clR 13) yX13_spin yX13_spin ∈ TW ∧ Cond.initialized (clR 13) ∈ TW ∧ Cond.code yX13_spin mX13_spin.2.1 mX13_spin.2.2.1 mX13_spin.2.2.2 ∈ TW ∧ (yX13_spin.cls = clR 13 ∧ yX13_spin.cls ≠ "java/lang/invoke/MethodHandle" ∧ yX13_spin.cls ≠ "java/lang/invoke/VarHandle" ∧ (parseMethodDescriptor yX13_spin.desc).map (fun d => d.parameters.length) = some 1) ∧ mX13_spin.2.2.1 ≤ 19 ∧ 13 < 14 := ⟨TW_at 2094 (by decide +kernel) (by decide +kernel), TW_at 2095 (by decide +kernel) (by decide +kernel), TW_at 125 (by decide +kernel) (by decide +kernel), TW_at 2096 (by decide +kernel) (by decide +kernel), by decide +kernel, by decide, by decide⟩
theorem mmX13_darn : Cond.instanceMethod yX13_darn ∈ TW ∧ Cond.selects (clR 13) yX13_darn yX13_darn ∈ TW ∧ Cond.initialized (clR 13) ∈ TW ∧ Cond.code yX13_darn mX13_darn.2.1 mX13_darn.2.2.1 mX13_darn.2.2.2 ∈ TW ∧ (yX13_darn.cls = clR 13 ∧ yX13_darn.cls ≠ "java/lang/invoke/MethodHandle" ∧ yX13_darn.cls ≠ "java/lang/invoke/VarHandle" ∧ (parseMethodDescriptor yX13_darn.desc).map (fun d => d.parameters.length) = some 1) ∧ mX13_darn.2.2.1 ≤ 19 ∧ 13 < 14 := ⟨TW_at 2098 (by decide +kernel) (by decide +kernel), TW_at 2099 (by decide +kernel) (by decide +kernel), TW_at 125 (by decide +kernel) (by decide +kernel), TW_at 2100 (by decide +kernel) (by decide +kernel), by decide +kernel, by decide, by decide⟩
theorem mmX13_undo : Cond.instanceMethod yX13_undo ∈ TW ∧ Cond.selects (clR 13) yX13_undo yX13_undo ∈ TW ∧ Cond.initialized (clR 13) ∈ TW ∧ Cond.code yX13_undo mX13_undo.2.1 mX13_undo.2.2.1 mX13_undo.2.2.2 ∈ TW ∧ (yX13_undo.cls = clR 13 ∧ yX13_undo.cls ≠ "java/lang/invoke/MethodHandle" ∧ yX13_undo.cls ≠ "java/lang/invoke/VarHandle" ∧ (parseMethodDescriptor yX13_undo.desc).map (fun d => d.parameters.length) = some 0) ∧ mX13_undo.2.2.1 ≤ 19 ∧ 13 < 14 := ⟨TW_at 2102 (by decide +kernel) (by decide +kernel), TW_at 2103 (by decide +kernel) (by decide +kernel), TW_at 125 (by decide +kernel) (by decide +kernel), TW_at 2104 (by decide +kernel) (by decide +kernel), by decide +kernel, by decide, by decide⟩
theorem mmX13_image : Cond.instanceMethod yX13_image ∈ TW ∧ Cond.selects (clR 13) yX13_image yX13_image ∈ TW ∧ Cond.initialized (clR 13) ∈ TW ∧ Cond.code yX13_image mX13_image.2.1 mX13_image.2.2.1 mX13_image.2.2.2 ∈ TW ∧ (yX13_image.cls = clR 13 ∧ yX13_image.cls ≠ "java/lang/invoke/MethodHandle" ∧ yX13_image.cls ≠ "java/lang/invoke/VarHandle" ∧ (parseMethodDescriptor yX13_image.desc).map (fun d => d.parameters.length) = some 0) ∧ mX13_image.2.2.1 ≤ 19 ∧ 13 < 14 := ⟨TW_at 2106 (by decide +kernel) (by decide +kernel), TW_at 2107 (by decide +kernel) (by decide +kernel), TW_at 125 (by decide +kernel) (by decide +kernel), TW_at 2108 (by decide +kernel) (by decide +kernel), by decide +kernel, by decide, by decide⟩
theorem mmX13_back : Cond.instanceMethod yX13_back ∈ TW ∧ Cond.selects (clR 13) yX13_back yX13_back ∈ TW ∧ Cond.initialized (clR 13) ∈ TW ∧ Cond.code yX13_back mX13_back.2.1 mX13_back.2.2.1 mX13_back.2.2.2 ∈ TW ∧ (yX13_back.cls = clR 13 ∧ yX13_back.cls ≠ "java/lang/invoke/MethodHandle" ∧ yX13_back.cls ≠ "java/lang/invoke/VarHandle" ∧ (parseMethodDescriptor yX13_back.desc).map (fun d => d.parameters.length) = some 1) ∧ mX13_back.2.2.1 ≤ 19 ∧ 13 < 14 := ⟨TW_at 2110 (by decide +kernel) (by decide +kernel), TW_at 2111 (by decide +kernel) (by decide +kernel), TW_at 125 (by decide +kernel) (by decide +kernel), TW_at 2112 (by decide +kernel) (by decide +kernel), by decide +kernel, by decide, by decide⟩
theorem mmX13_led : Cond.instanceMethod yX13_led ∈ TW ∧ Cond.selects (clR 13) yX13_led yX13_led ∈ TW ∧ Cond.initialized (clR 13) ∈ TW ∧ Cond.code yX13_led mX13_led.2.1 mX13_led.2.2.1 mX13_led.2.2.2 ∈ TW ∧ (yX13_led.cls = clR 13 ∧ yX13_led.cls ≠ "java/lang/invoke/MethodHandle" ∧ yX13_led.cls ≠ "java/lang/invoke/VarHandle" ∧ (parseMethodDescriptor yX13_led.desc).map (fun d => d.parameters.length) = some 1) ∧ mX13_led.2.2.1 ≤ 19 ∧ 13 < 14 := ⟨TW_at 2114 (by decide +kernel) (by decide +kernel), TW_at 2115 (by decide +kernel) (by decide +kernel), TW_at 125 (by decide +kernel) (by decide +kernel), TW_at 2116 (by decide +kernel) (by decide +kernel), by decide +kernel, by decide, by decide⟩
theorem mmX13_size : Cond.instanceMethod yX13_size ∈ TW ∧ Cond.selects (clR 13) yX13_size yX13_size ∈ TW ∧ Cond.initialized (clR 13) ∈ TW ∧ Cond.code yX13_size mX13_size.2.1 mX13_size.2.2.1 mX13_size.2.2.2 ∈ TW ∧ (yX13_size.cls = clR 13 ∧ yX13_size.cls ≠ "java/lang/invoke/MethodHandle" ∧ yX13_size.cls ≠ "java/lang/invoke/VarHandle" ∧ (parseMethodDescriptor yX13_size.desc).map (fun d => d.parameters.length) = some 1) ∧ mX13_size.2.2.1 ≤ 19 ∧ 13 < 14 := ⟨TW_at 2118 (by decide +kernel) (by decide +kernel), TW_at 2119 (by decide +kernel) (by decide +kernel), TW_at 125 (by decide +kernel) (by decide +kernel), TW_at 2120 (by decide +kernel) (by decide +kernel), by decide +kernel, by decide, by decide⟩
theorem mmX13_trouble : Cond.instanceMethod yX13_trouble ∈ TW ∧ Cond.selects (clR 13) yX13_trouble yX13_trouble ∈ TW ∧ Cond.initialized (clR 13) ∈ TW ∧ Cond.code yX13_trouble mX13_trouble.2.1 mX13_trouble.2.2.1 mX13_trouble.2.2.2 ∈ TW ∧ (yX13_trouble.cls = clR 13 ∧ yX13_trouble.cls ≠ "java/lang/invoke/MethodHandle" ∧ yX13_trouble.cls ≠ "java/lang/invoke/VarHandle" ∧ (parseMethodDescriptor yX13_trouble.desc).map (fun d => d.parameters.length) = some 0) ∧ mX13_trouble.2.2.1 ≤ 19 ∧ 13 < 14 := ⟨TW_at 2122 (by decide +kernel) (by decide +kernel), TW_at 2123 (by decide +kernel) (by decide +kernel), TW_at 125 (by decide +kernel) (by decide +kernel), TW_at 2124 (by decide +kernel) (by decide +kernel), by decide +kernel, by decide, by decide⟩
theorem ssJ6_bitCount_0f7a4 : Cond.static yJ6_bitCount_0f7a4 ∈ TW ∧ Cond.initialized yJ6_bitCount_0f7a4.cls ∈ TW ∧ Cond.code yJ6_bitCount_0f7a4 mJ6_bitCount_0f7a4.2.1 mJ6_bitCount_0f7a4.2.2.1 mJ6_bitCount_0f7a4.2.2.2 ∈ TW ∧ (yJ6_bitCount_0f7a4.cls ≠ "java/lang/invoke/MethodHandle" ∧ yJ6_bitCount_0f7a4.cls ≠ "java/lang/invoke/VarHandle" ∧ (parseMethodDescriptor yJ6_bitCount_0f7a4.desc).map (fun d => d.parameters.length) = some 1) ∧ mJ6_bitCount_0f7a4.2.2.1 ≤ 19 := ⟨TW_at 872 (by decide +kernel) (by decide +kernel), TW_at 133 (by decide +kernel) (by decide +kernel), TW_at 873 (by decide +kernel) (by decide +kernel), by decide +kernel, by decide⟩
theorem ssJ9_max_7cf53 : Cond.static yJ9_max_7cf53 ∈ TW ∧ Cond.initialized yJ9_max_7cf53.cls ∈ TW ∧ Cond.code yJ9_max_7cf53 mJ9_max_7cf53.2.1 mJ9_max_7cf53.2.2.1 mJ9_max_7cf53.2.2.2 ∈ TW ∧ (yJ9_max_7cf53.cls ≠ "java/lang/invoke/MethodHandle" ∧ yJ9_max_7cf53.cls ≠ "java/lang/invoke/VarHandle" ∧ (parseMethodDescriptor yJ9_max_7cf53.desc).map (fun d => d.parameters.length) = some 2) ∧ mJ9_max_7cf53.2.2.1 ≤ 19 := ⟨TW_at 756 (by decide +kernel) (by decide +kernel), TW_at 131 (by decide +kernel) (by decide +kernel), TW_at 757 (by decide +kernel) (by decide +kernel), by decide +kernel, by decide⟩
theorem ssJ9_min_7cf53 : Cond.static yJ9_min_7cf53 ∈ TW ∧ Cond.initialized yJ9_min_7cf53.cls ∈ TW ∧ Cond.code yJ9_min_7cf53 mJ9_min_7cf53.2.1 mJ9_min_7cf53.2.2.1 mJ9_min_7cf53.2.2.2 ∈ TW ∧ (yJ9_min_7cf53.cls ≠ "java/lang/invoke/MethodHandle" ∧ yJ9_min_7cf53.cls ≠ "java/lang/invoke/VarHandle" ∧ (parseMethodDescriptor yJ9_min_7cf53.desc).map (fun d => d.parameters.length) = some 2) ∧ mJ9_min_7cf53.2.2.1 ≤ 19 := ⟨TW_at 693 (by decide +kernel) (by decide +kernel), TW_at 131 (by decide +kernel) (by decide +kernel), TW_at 694 (by decide +kernel) (by decide +kernel), by decide +kernel, by decide⟩
theorem ssJ0_checkIndex_df160 : Cond.static yJ0_checkIndex_df160 ∈ TW ∧ Cond.initialized yJ0_checkIndex_df160.cls ∈ TW ∧ Cond.code yJ0_checkIndex_df160 mJ0_checkIndex_df160.2.1 mJ0_checkIndex_df160.2.2.1 mJ0_checkIndex_df160.2.2.2 ∈ TW ∧ (yJ0_checkIndex_df160.cls ≠ "java/lang/invoke/MethodHandle" ∧ yJ0_checkIndex_df160.cls ≠ "java/lang/invoke/VarHandle" ∧ (parseMethodDescriptor yJ0_checkIndex_df160.desc).map (fun d => d.parameters.length) = some 2) ∧ mJ0_checkIndex_df160.2.2.1 ≤ 19 := ⟨TW_at 513 (by decide +kernel) (by decide +kernel), TW_at 126 (by decide +kernel) (by decide +kernel), TW_at 514 (by decide +kernel) (by decide +kernel), by decide +kernel, by decide⟩
theorem ssJ1_charAt_3b067 : Cond.static yJ1_charAt_3b067 ∈ TW ∧ Cond.initialized yJ1_charAt_3b067.cls ∈ TW ∧ Cond.code yJ1_charAt_3b067 mJ1_charAt_3b067.2.1 mJ1_charAt_3b067.2.2.1 mJ1_charAt_3b067.2.2.2 ∈ TW ∧ (yJ1_charAt_3b067.cls ≠ "java/lang/invoke/MethodHandle" ∧ yJ1_charAt_3b067.cls ≠ "java/lang/invoke/VarHandle" ∧ (parseMethodDescriptor yJ1_charAt_3b067.desc).map (fun d => d.parameters.length) = some 2) ∧ mJ1_charAt_3b067.2.2.1 ≤ 19 := ⟨TW_at 510 (by decide +kernel) (by decide +kernel), TW_at 127 (by decide +kernel) (by decide +kernel), TW_at 511 (by decide +kernel) (by decide +kernel), by decide +kernel, by decide⟩
theorem ssJ2_getChar_3b067 : Cond.static yJ2_getChar_3b067 ∈ TW ∧ Cond.initialized yJ2_getChar_3b067.cls ∈ TW ∧ Cond.code yJ2_getChar_3b067 mJ2_getChar_3b067.2.1 mJ2_getChar_3b067.2.2.1 mJ2_getChar_3b067.2.2.2 ∈ TW ∧ (yJ2_getChar_3b067.cls ≠ "java/lang/invoke/MethodHandle" ∧ yJ2_getChar_3b067.cls ≠ "java/lang/invoke/VarHandle" ∧ (parseMethodDescriptor yJ2_getChar_3b067.desc).map (fun d => d.parameters.length) = some 2) ∧ mJ2_getChar_3b067.2.2.1 ≤ 19 := ⟨TW_at 531 (by decide +kernel) (by decide +kernel), TW_at 129 (by decide +kernel) (by decide +kernel), TW_at 532 (by decide +kernel) (by decide +kernel), by decide +kernel, by decide⟩
theorem ssJ2_length_9d52b : Cond.static yJ2_length_9d52b ∈ TW ∧ Cond.initialized yJ2_length_9d52b.cls ∈ TW ∧ Cond.code yJ2_length_9d52b mJ2_length_9d52b.2.1 mJ2_length_9d52b.2.2.1 mJ2_length_9d52b.2.2.2 ∈ TW ∧ (yJ2_length_9d52b.cls ≠ "java/lang/invoke/MethodHandle" ∧ yJ2_length_9d52b.cls ≠ "java/lang/invoke/VarHandle" ∧ (parseMethodDescriptor yJ2_length_9d52b.desc).map (fun d => d.parameters.length) = some 1) ∧ mJ2_length_9d52b.2.2.1 ≤ 19 := ⟨TW_at 527 (by decide +kernel) (by decide +kernel), TW_at 129 (by decide +kernel) (by decide +kernel), TW_at 528 (by decide +kernel) (by decide +kernel), by decide +kernel, by decide⟩
theorem ssJ2_charAt_3b067 : Cond.static yJ2_charAt_3b067 ∈ TW ∧ Cond.initialized yJ2_charAt_3b067.cls ∈ TW ∧ Cond.code yJ2_charAt_3b067 mJ2_charAt_3b067.2.1 mJ2_charAt_3b067.2.2.1 mJ2_charAt_3b067.2.2.2 ∈ TW ∧ (yJ2_charAt_3b067.cls ≠ "java/lang/invoke/MethodHandle" ∧ yJ2_charAt_3b067.cls ≠ "java/lang/invoke/VarHandle" ∧ (parseMethodDescriptor yJ2_charAt_3b067.desc).map (fun d => d.parameters.length) = some 2) ∧ mJ2_charAt_3b067.2.2.1 ≤ 19 := ⟨TW_at 521 (by decide +kernel) (by decide +kernel), TW_at 129 (by decide +kernel) (by decide +kernel), TW_at 522 (by decide +kernel) (by decide +kernel), by decide +kernel, by decide⟩
theorem ssJ2_checkIndex_2214a : Cond.static yJ2_checkIndex_2214a ∈ TW ∧ Cond.initialized yJ2_checkIndex_2214a.cls ∈ TW ∧ Cond.code yJ2_checkIndex_2214a mJ2_checkIndex_2214a.2.1 mJ2_checkIndex_2214a.2.2.1 mJ2_checkIndex_2214a.2.2.2 ∈ TW ∧ (yJ2_checkIndex_2214a.cls ≠ "java/lang/invoke/MethodHandle" ∧ yJ2_checkIndex_2214a.cls ≠ "java/lang/invoke/VarHandle" ∧ (parseMethodDescriptor yJ2_checkIndex_2214a.desc).map (fun d => d.parameters.length) = some 2) ∧ mJ2_checkIndex_2214a.2.2.1 ≤ 19 := ⟨TW_at 524 (by decide +kernel) (by decide +kernel), TW_at 129 (by decide +kernel) (by decide +kernel), TW_at 525 (by decide +kernel) (by decide +kernel), by decide +kernel, by decide⟩
theorem ssJ3_checkIndex_8e157 : Cond.static yJ3_checkIndex_8e157 ∈ TW ∧ Cond.initialized yJ3_checkIndex_8e157.cls ∈ TW ∧ Cond.code yJ3_checkIndex_8e157 mJ3_checkIndex_8e157.2.1 mJ3_checkIndex_8e157.2.2.1 mJ3_checkIndex_8e157.2.2.2 ∈ TW ∧ (yJ3_checkIndex_8e157.cls ≠ "java/lang/invoke/MethodHandle" ∧ yJ3_checkIndex_8e157.cls ≠ "java/lang/invoke/VarHandle" ∧ (parseMethodDescriptor yJ3_checkIndex_8e157.desc).map (fun d => d.parameters.length) = some 3) ∧ mJ3_checkIndex_8e157.2.2.1 ≤ 19 := ⟨TW_at 518 (by decide +kernel) (by decide +kernel), TW_at 128 (by decide +kernel) (by decide +kernel), TW_at 519 (by decide +kernel) (by decide +kernel), by decide +kernel, by decide⟩
theorem faX3_11 : FA RX3 11 3 0 := ⟨by decide, by decide, Or.inl (TW_at 158 (by decide +kernel) (by decide +kernel))⟩
theorem faX3_15 : FA RX3 15 3 1 := ⟨by decide, by decide, Or.inl (TW_at 159 (by decide +kernel) (by decide +kernel))⟩
theorem faX3_19 : FA RX3 19 3 2 := ⟨by decide, by decide, Or.inl (TW_at 160 (by decide +kernel) (by decide +kernel))⟩
theorem faX3_22 : FA RX3 22 3 3 := ⟨by decide, by decide, Or.inl (TW_at 161 (by decide +kernel) (by decide +kernel))⟩
theorem faX9_9 : FA RX9 9 9 0 := ⟨by decide, by decide, Or.inl (TW_at 179 (by decide +kernel) (by decide +kernel))⟩
theorem faX9_13 : FA RX9 13 9 1 := ⟨by decide, by decide, Or.inl (TW_at 180 (by decide +kernel) (by decide +kernel))⟩
theorem faX11_79 : FA RX11 79 9 1 := ⟨by decide, by decide, Or.inl (TW_at 181 (by decide +kernel) (by decide +kernel))⟩
theorem faX9_17 : FA RX9 17 9 2 := ⟨by decide, by decide, Or.inl (TW_at 182 (by decide +kernel) (by decide +kernel))⟩
theorem faX9_20 : FA RX9 20 9 3 := ⟨by decide, by decide, Or.inl (TW_at 183 (by decide +kernel) (by decide +kernel))⟩
theorem faX5_72 : FA RX5 72 9 4 := ⟨by decide, by decide, Or.inl (TW_at 184 (by decide +kernel) (by decide +kernel))⟩
theorem faX9_26 : FA RX9 26 9 4 := ⟨by decide, by decide, Or.inl (TW_at 185 (by decide +kernel) (by decide +kernel))⟩
theorem faX5_66 : FA RX5 66 9 5 := ⟨by decide, by decide, Or.inl (TW_at 186 (by decide +kernel) (by decide +kernel))⟩
theorem faX9_23 : FA RX9 23 9 5 := ⟨by decide, by decide, Or.inl (TW_at 187 (by decide +kernel) (by decide +kernel))⟩
theorem faX9_35 : FA RX9 35 9 6 := ⟨by decide, by decide, Or.inl (TW_at 188 (by decide +kernel) (by decide +kernel))⟩
theorem faX5_159 : FA RX5 159 9 6 := ⟨by decide, by decide, Or.inl (TW_at 189 (by decide +kernel) (by decide +kernel))⟩
theorem faX9_39 : FA RX9 39 9 7 := ⟨by decide, by decide, Or.inl (TW_at 190 (by decide +kernel) (by decide +kernel))⟩
theorem faX5_153 : FA RX5 153 9 7 := ⟨by decide, by decide, Or.inl (TW_at 191 (by decide +kernel) (by decide +kernel))⟩
theorem faX8_11 : FA RX8 11 8 0 := ⟨by decide, by decide, Or.inl (TW_at 222 (by decide +kernel) (by decide +kernel))⟩
theorem faX8_15 : FA RX8 15 8 1 := ⟨by decide, by decide, Or.inl (TW_at 223 (by decide +kernel) (by decide +kernel))⟩
theorem faX10_43 : FA RX10 43 8 1 := ⟨by decide, by decide, Or.inl (TW_at 224 (by decide +kernel) (by decide +kernel))⟩
theorem faX10_12 : FA RX10 12 10 0 := ⟨by decide, by decide, Or.inl (TW_at 230 (by decide +kernel) (by decide +kernel))⟩
theorem faX10_18 : FA RX10 18 10 1 := ⟨by decide, by decide, Or.inl (TW_at 231 (by decide +kernel) (by decide +kernel))⟩
theorem faX10_21 : FA RX10 21 10 2 := ⟨by decide, by decide, Or.inl (TW_at 232 (by decide +kernel) (by decide +kernel))⟩
theorem faX10_24 : FA RX10 24 10 3 := ⟨by decide, by decide, Or.inl (TW_at 233 (by decide +kernel) (by decide +kernel))⟩
theorem faX10_27 : FA RX10 27 10 4 := ⟨by decide, by decide, Or.inl (TW_at 234 (by decide +kernel) (by decide +kernel))⟩
theorem faX10_30 : FA RX10 30 10 5 := ⟨by decide, by decide, Or.inl (TW_at 235 (by decide +kernel) (by decide +kernel))⟩
theorem faX10_33 : FA RX10 33 10 6 := ⟨by decide, by decide, Or.inl (TW_at 236 (by decide +kernel) (by decide +kernel))⟩
theorem faX10_36 : FA RX10 36 10 7 := ⟨by decide, by decide, Or.inl (TW_at 237 (by decide +kernel) (by decide +kernel))⟩
theorem faX5_12 : FA RX5 12 5 0 := ⟨by decide, by decide, Or.inl (TW_at 255 (by decide +kernel) (by decide +kernel))⟩
theorem faX5_18 : FA RX5 18 5 1 := ⟨by decide, by decide, Or.inl (TW_at 256 (by decide +kernel) (by decide +kernel))⟩
theorem faX5_150 : FA RX5 150 5 2 := ⟨by decide, by decide, Or.inl (TW_at 257 (by decide +kernel) (by decide +kernel))⟩
theorem faX5_25 : FA RX5 25 5 3 := ⟨by decide, by decide, Or.inl (TW_at 258 (by decide +kernel) (by decide +kernel))⟩
theorem faX11_65 : FA RX11 65 5 3 := ⟨by decide, by decide, Or.inl (TW_at 259 (by decide +kernel) (by decide +kernel))⟩
theorem faX5_32 : FA RX5 32 5 4 := ⟨by decide, by decide, Or.inl (TW_at 260 (by decide +kernel) (by decide +kernel))⟩
theorem faX11_97 : FA RX11 97 5 4 := ⟨by decide, by decide, Or.inl (TW_at 261 (by decide +kernel) (by decide +kernel))⟩
theorem faX5_36 : FA RX5 36 5 5 := ⟨by decide, by decide, Or.inl (TW_at 262 (by decide +kernel) (by decide +kernel))⟩
theorem faX11_94 : FA RX11 94 5 5 := ⟨by decide, by decide, Or.inl (TW_at 263 (by decide +kernel) (by decide +kernel))⟩
theorem faX5_40 : FA RX5 40 5 6 := ⟨by decide, by decide, Or.inl (TW_at 264 (by decide +kernel) (by decide +kernel))⟩
theorem faX11_120 : FA RX11 120 5 6 := ⟨by decide, by decide, Or.inl (TW_at 265 (by decide +kernel) (by decide +kernel))⟩
theorem faX7_11 : FA RX7 11 7 0 := ⟨by decide, by decide, Or.inl (TW_at 289 (by decide +kernel) (by decide +kernel))⟩
theorem faX4_11 : FA RX4 11 4 0 := ⟨by decide, by decide, Or.inl (TW_at 299 (by decide +kernel) (by decide +kernel))⟩
theorem faX4_15 : FA RX4 15 4 1 := ⟨by decide, by decide, Or.inl (TW_at 300 (by decide +kernel) (by decide +kernel))⟩
theorem faX4_25 : FA RX4 25 4 2 := ⟨by decide, by decide, Or.inl (TW_at 301 (by decide +kernel) (by decide +kernel))⟩
theorem faX4_18 : FA RX4 18 4 3 := ⟨by decide, by decide, Or.inl (TW_at 302 (by decide +kernel) (by decide +kernel))⟩
theorem faX11_339 : FA RX11 339 4 3 := ⟨by decide, by decide, Or.inl (TW_at 303 (by decide +kernel) (by decide +kernel))⟩
theorem faX4_22 : FA RX4 22 4 4 := ⟨by decide, by decide, Or.inl (TW_at 304 (by decide +kernel) (by decide +kernel))⟩
theorem faX11_343 : FA RX11 343 4 4 := ⟨by decide, by decide, Or.inl (TW_at 305 (by decide +kernel) (by decide +kernel))⟩
theorem faX0_11 : FA RX0 11 0 0 := ⟨by decide, by decide, Or.inl (TW_at 323 (by decide +kernel) (by decide +kernel))⟩
theorem faX0_15 : FA RX0 15 0 1 := ⟨by decide, by decide, Or.inl (TW_at 324 (by decide +kernel) (by decide +kernel))⟩
theorem faX0_18 : FA RX0 18 0 2 := ⟨by decide, by decide, Or.inl (TW_at 325 (by decide +kernel) (by decide +kernel))⟩
theorem faX0_21 : FA RX0 21 0 3 := ⟨by decide, by decide, Or.inl (TW_at 326 (by decide +kernel) (by decide +kernel))⟩
theorem faX0_24 : FA RX0 24 0 4 := ⟨by decide, by decide, Or.inl (TW_at 327 (by decide +kernel) (by decide +kernel))⟩
theorem faX0_27 : FA RX0 27 0 5 := ⟨by decide, by decide, Or.inl (TW_at 328 (by decide +kernel) (by decide +kernel))⟩
theorem faX0_30 : FA RX0 30 0 6 := ⟨by decide, by decide, Or.inl (TW_at 329 (by decide +kernel) (by decide +kernel))⟩
theorem faX0_46 : FA RX0 46 0 7 := ⟨by decide, by decide, Or.inl (TW_at 330 (by decide +kernel) (by decide +kernel))⟩
theorem faX0_68 : FA RX0 68 0 8 := ⟨by decide, by decide, Or.inl (TW_at 331 (by decide +kernel) (by decide +kernel))⟩
theorem faX2_11 : FA RX2 11 2 0 := ⟨by decide, by decide, Or.inl (TW_at 358 (by decide +kernel) (by decide +kernel))⟩
theorem faX2_27 : FA RX2 27 2 1 := ⟨by decide, by decide, Or.inl (TW_at 359 (by decide +kernel) (by decide +kernel))⟩
theorem faX2_31 : FA RX2 31 2 2 := ⟨by decide, by decide, Or.inl (TW_at 360 (by decide +kernel) (by decide +kernel))⟩
theorem faX1_9 : FA RX1 9 1 0 := ⟨by decide, by decide, Or.inl (TW_at 374 (by decide +kernel) (by decide +kernel))⟩
theorem faX1_15 : FA RX1 15 1 1 := ⟨by decide, by decide, Or.inl (TW_at 375 (by decide +kernel) (by decide +kernel))⟩
theorem faX11_314 : FA RX11 314 1 1 := ⟨by decide, by decide, Or.inl (TW_at 376 (by decide +kernel) (by decide +kernel))⟩
theorem faX6_13 : FA RX6 13 6 0 := ⟨by decide, by decide, Or.inl (TW_at 388 (by decide +kernel) (by decide +kernel))⟩
theorem faX6_17 : FA RX6 17 6 1 := ⟨by decide, by decide, Or.inl (TW_at 389 (by decide +kernel) (by decide +kernel))⟩
theorem faX11_10 : FA RX11 10 11 0 := ⟨by decide, by decide, Or.inl (TW_at 395 (by decide +kernel) (by decide +kernel))⟩
theorem faX11_19 : FA RX11 19 11 1 := ⟨by decide, by decide, Or.inl (TW_at 396 (by decide +kernel) (by decide +kernel))⟩
theorem faX11_26 : FA RX11 26 11 2 := ⟨by decide, by decide, Or.inl (TW_at 397 (by decide +kernel) (by decide +kernel))⟩
theorem faX11_33 : FA RX11 33 11 3 := ⟨by decide, by decide, Or.inl (TW_at 398 (by decide +kernel) (by decide +kernel))⟩
theorem faX11_40 : FA RX11 40 11 4 := ⟨by decide, by decide, Or.inl (TW_at 399 (by decide +kernel) (by decide +kernel))⟩
theorem faX11_47 : FA RX11 47 11 5 := ⟨by decide, by decide, Or.inl (TW_at 400 (by decide +kernel) (by decide +kernel))⟩
theorem faX11_54 : FA RX11 54 11 6 := ⟨by decide, by decide, Or.inl (TW_at 401 (by decide +kernel) (by decide +kernel))⟩
theorem faX11_61 : FA RX11 61 11 7 := ⟨by decide, by decide, Or.inl (TW_at 402 (by decide +kernel) (by decide +kernel))⟩
theorem faX11_117 : FA RX11 117 11 8 := ⟨by decide, by decide, Or.inl (TW_at 403 (by decide +kernel) (by decide +kernel))⟩
theorem mlL_19 : ML RL 19 yX11_feed mX11_feed 5 11 := ⟨TW_at 423 (by decide +kernel) (by decide +kernel), mmX11_feed⟩
theorem mlX11_69 : ML RX11 69 yX9_takesTwenty mX9_takesTwenty 0 9 := ⟨TW_at 427 (by decide +kernel) (by decide +kernel), mmX9_takesTwenty⟩
theorem mlX11_75 : ML RX11 75 yX9_append mX9_append 1 9 := ⟨TW_at 431 (by decide +kernel) (by decide +kernel), mmX9_append⟩
theorem mlL_24 : ML RL 24 yX11_web mX11_web 1 11 := ⟨TW_at 435 (by decide +kernel) (by decide +kernel), mmX11_web⟩
theorem slX11_83 : SL RX11 83 yX11_within mX11_within 3 := ⟨Or.inl (TW_at 439 (by decide +kernel) (by decide +kernel)), ssX11_within⟩
theorem mlX11_87 : ML RX11 87 yX11_refused mX11_refused 1 11 := ⟨TW_at 442 (by decide +kernel) (by decide +kernel), mmX11_refused⟩
theorem mlX11_91 : ML RX11 91 yX5_read mX5_read 1 5 := ⟨TW_at 446 (by decide +kernel) (by decide +kernel), mmX5_read⟩
theorem mlX5_43 : ML RX5 43 yX10_clear mX10_clear 0 10 := ⟨TW_at 450 (by decide +kernel) (by decide +kernel), mmX10_clear⟩
theorem mlX10_39 : ML RX10 39 yX10_of mX10_of 1 10 := ⟨TW_at 454 (by decide +kernel) (by decide +kernel), mmX10_of⟩
theorem mlX5_46 : ML RX5 46 yX3_clear mX3_clear 0 3 := ⟨TW_at 458 (by decide +kernel) (by decide +kernel), mmX3_clear⟩
theorem mlX5_47 : ML RX5 47 yX9_rewind mX9_rewind 1 9 := ⟨TW_at 462 (by decide +kernel) (by decide +kernel), mmX9_rewind⟩
theorem mlX5_51 : ML RX5 51 yX5_readLine mX5_readLine 0 5 := ⟨TW_at 466 (by decide +kernel) (by decide +kernel), mmX5_readLine⟩
theorem mlX5_69 : ML RX5 69 yX9_advance mX9_advance 0 9 := ⟨TW_at 470 (by decide +kernel) (by decide +kernel), mmX9_advance⟩
theorem mlX9_29 : ML RX9 29 yX9_takeLetters mX9_takeLetters 0 9 := ⟨TW_at 474 (by decide +kernel) (by decide +kernel), mmX9_takeLetters⟩
theorem mlX9_32 : ML RX9 32 yX9_takeDigits mX9_takeDigits 0 9 := ⟨TW_at 478 (by decide +kernel) (by decide +kernel), mmX9_takeDigits⟩
theorem mlX5_75 : ML RX5 75 yX5_sortOfLine mX5_sortOfLine 0 5 := ⟨TW_at 482 (by decide +kernel) (by decide +kernel), mmX5_sortOfLine⟩
theorem mlX5_94 : ML RX5 94 yX9_isWord mX9_isWord 1 9 := ⟨TW_at 487 (by decide +kernel) (by decide +kernel), mmX9_isWord⟩
theorem slJ0_495 : SL RJ0 495 yJ1_charAt_3b067 mJ1_charAt_3b067 2 := ⟨Or.inl (TW_at 509 (by decide +kernel) (by decide +kernel)), ssJ1_charAt_3b067⟩
theorem slJ1_9 : SL RJ1 9 yJ0_checkIndex_df160 mJ0_checkIndex_df160 2 := ⟨Or.inl (TW_at 512 (by decide +kernel) (by decide +kernel)), ssJ0_checkIndex_df160⟩
theorem slJ0_1059 : SL RJ0 1059 yJ3_checkIndex_8e157 mJ3_checkIndex_8e157 3 := ⟨Or.inl (TW_at 517 (by decide +kernel) (by decide +kernel)), ssJ3_checkIndex_8e157⟩
theorem slJ0_498 : SL RJ0 498 yJ2_charAt_3b067 mJ2_charAt_3b067 2 := ⟨Or.inl (TW_at 520 (by decide +kernel) (by decide +kernel)), ssJ2_charAt_3b067⟩
theorem slJ2_67 : SL RJ2 67 yJ2_checkIndex_2214a mJ2_checkIndex_2214a 2 := ⟨Or.inl (TW_at 523 (by decide +kernel) (by decide +kernel)), ssJ2_checkIndex_2214a⟩
theorem slJ2_48 : SL RJ2 48 yJ2_length_9d52b mJ2_length_9d52b 1 := ⟨Or.inl (TW_at 526 (by decide +kernel) (by decide +kernel)), ssJ2_length_9d52b⟩
theorem slJ2_414 : SL RJ2 414 yJ0_checkIndex_df160 mJ0_checkIndex_df160 2 := ⟨Or.inl (TW_at 529 (by decide +kernel) (by decide +kernel)), ssJ0_checkIndex_df160⟩
theorem slJ2_71 : SL RJ2 71 yJ2_getChar_3b067 mJ2_getChar_3b067 2 := ⟨Or.inl (TW_at 530 (by decide +kernel) (by decide +kernel)), ssJ2_getChar_3b067⟩
theorem mlX5_62 : ML RX5 62 yX5_fail mX5_fail 1 5 := ⟨TW_at 548 (by decide +kernel) (by decide +kernel), mmX5_fail⟩
theorem mlX5_58 : ML RX5 58 yX10_howMany mX10_howMany 1 10 := ⟨TW_at 552 (by decide +kernel) (by decide +kernel), mmX10_howMany⟩
theorem mlX5_82 : ML RX5 82 yX5_clearRow mX5_clearRow 0 5 := ⟨TW_at 556 (by decide +kernel) (by decide +kernel), mmX5_clearRow⟩
theorem mlX5_85 : ML RX5 85 yX5_readBehind mX5_readBehind 1 5 := ⟨TW_at 560 (by decide +kernel) (by decide +kernel), mmX5_readBehind⟩
theorem mlX5_114 : ML RX5 114 yX5_takeWord mX5_takeWord 1 5 := ⟨TW_at 565 (by decide +kernel) (by decide +kernel), mmX5_takeWord⟩
theorem mlX5_117 : ML RX5 117 yX5_takeWhole mX5_takeWhole 2 5 := ⟨TW_at 569 (by decide +kernel) (by decide +kernel), mmX5_takeWhole⟩
theorem mlX5_156 : ML RX5 156 yX5_put mX5_put 1 5 := ⟨TW_at 573 (by decide +kernel) (by decide +kernel), mmX5_put⟩
theorem mlX5_123 : ML RX5 123 yX5_takeNewName mX5_takeNewName 1 5 := ⟨TW_at 578 (by decide +kernel) (by decide +kernel), mmX5_takeNewName⟩
theorem mlX5_163 : ML RX5 163 yX3_isTold mX3_isTold 1 3 := ⟨TW_at 582 (by decide +kernel) (by decide +kernel), mmX3_isTold⟩
theorem mlX5_167 : ML RX5 167 yX3_add mX3_add 3 3 := ⟨TW_at 586 (by decide +kernel) (by decide +kernel), mmX3_add⟩
theorem mlX5_126 : ML RX5 126 yX5_takeKind mX5_takeKind 0 5 := ⟨TW_at 590 (by decide +kernel) (by decide +kernel), mmX5_takeKind⟩
theorem mlX5_129 : ML RX5 129 yX5_takeName mX5_takeName 1 5 := ⟨TW_at 598 (by decide +kernel) (by decide +kernel), mmX5_takeName⟩
theorem mlX5_170 : ML RX5 170 yX3_numberOf mX3_numberOf 2 3 := ⟨TW_at 602 (by decide +kernel) (by decide +kernel), mmX3_numberOf⟩
theorem mlX5_132 : ML RX5 132 yX5_areUnlike mX5_areUnlike 0 5 := ⟨TW_at 606 (by decide +kernel) (by decide +kernel), mmX5_areUnlike⟩
theorem mlX5_139 : ML RX5 139 yX5_isNewClash mX5_isNewClash 0 5 := ⟨TW_at 612 (by decide +kernel) (by decide +kernel), mmX5_isNewClash⟩
theorem mlX5_185 : ML RX5 185 yX10_clashingWith mX10_clashingWith 1 10 := ⟨TW_at 616 (by decide +kernel) (by decide +kernel), mmX10_clashingWith⟩
theorem mlX10_55 : ML RX10 55 yX8_cell mX8_cell 2 8 := ⟨TW_at 620 (by decide +kernel) (by decide +kernel), mmX8_cell⟩
theorem slX5_188 : SL RX5 188 yX11_has mX11_has 2 := ⟨Or.inr ⟨"PromiseWeb", List.mem_of_getElem? (i := 624) (by decide +kernel)⟩, ssX11_has⟩
theorem mlX5_144 : ML RX5 144 yX5_isNewUnsure mX5_isNewUnsure 0 5 := ⟨TW_at 628 (by decide +kernel) (by decide +kernel), mmX5_isNewUnsure⟩
theorem mlX5_191 : ML RX5 191 yX10_cell mX10_cell 3 10 := ⟨TW_at 632 (by decide +kernel) (by decide +kernel), mmX10_cell⟩
theorem mlX5_147 : ML RX5 147 yX5_takeHow mX5_takeHow 0 5 := ⟨TW_at 636 (by decide +kernel) (by decide +kernel), mmX5_takeHow⟩
theorem mlX5_88 : ML RX5 88 yX10_add mX10_add 2 10 := ⟨TW_at 642 (by decide +kernel) (by decide +kernel), mmX10_add⟩
theorem mlX10_51 : ML RX10 51 yX8_add mX8_add 1 8 := ⟨TW_at 646 (by decide +kernel) (by decide +kernel), mmX8_add⟩
theorem mlX5_55 : ML RX5 55 yX5_goesOn mX5_goesOn 0 5 := ⟨TW_at 653 (by decide +kernel) (by decide +kernel), mmX5_goesOn⟩
theorem mlX11_100 : ML RX11 100 yX10_copyFrom mX10_copyFrom 1 10 := ⟨TW_at 657 (by decide +kernel) (by decide +kernel), mmX10_copyFrom⟩
theorem mlX10_47 : ML RX10 47 yX8_copyFrom mX8_copyFrom 1 8 := ⟨TW_at 661 (by decide +kernel) (by decide +kernel), mmX8_copyFrom⟩
theorem mlX11_104 : ML RX11 104 yX7_begin mX7_begin 1 7 := ⟨TW_at 665 (by decide +kernel) (by decide +kernel), mmX7_begin⟩
theorem mlX7_15 : ML RX7 15 yX10_howMany mX10_howMany 1 10 := ⟨TW_at 669 (by decide +kernel) (by decide +kernel), mmX10_howMany⟩
theorem mlX7_21 : ML RX7 21 yX10_cell mX10_cell 3 10 := ⟨TW_at 670 (by decide +kernel) (by decide +kernel), mmX10_cell⟩
theorem mlX7_25 : ML RX7 25 yX7_addKept mX7_addKept 3 7 := ⟨TW_at 671 (by decide +kernel) (by decide +kernel), mmX7_addKept⟩
theorem mlX7_29 : ML RX7 29 yX7_setCell mX7_setCell 3 7 := ⟨TW_at 675 (by decide +kernel) (by decide +kernel), mmX7_setCell⟩
theorem mlX7_32 : ML RX7 32 yX7_isThere mX7_isThere 2 7 := ⟨TW_at 679 (by decide +kernel) (by decide +kernel), mmX7_isThere⟩
theorem mlX11_107 : ML RX11 107 yX4_forget mX4_forget 0 4 := ⟨TW_at 683 (by decide +kernel) (by decide +kernel), mmX4_forget⟩
theorem mlX11_110 : ML RX11 110 yX2_weigh mX2_weigh 1 2 := ⟨TW_at 687 (by decide +kernel) (by decide +kernel), mmX2_weigh⟩
theorem mlX2_15 : ML RX2 15 yX10_howMany mX10_howMany 1 10 := ⟨TW_at 691 (by decide +kernel) (by decide +kernel), mmX10_howMany⟩
theorem slX2_21 : SL RX2 21 yJ9_min_7cf53 mJ9_min_7cf53 2 := ⟨Or.inl (TW_at 692 (by decide +kernel) (by decide +kernel)), ssJ9_min_7cf53⟩
theorem slX2_34 : SL RX2 34 yX2_weightOf mX2_weightOf 2 := ⟨Or.inl (TW_at 695 (by decide +kernel) (by decide +kernel)), ssX2_weightOf⟩
theorem mlX2_38 : ML RX2 38 yX10_slipsInHundred mX10_slipsInHundred 0 10 := ⟨TW_at 698 (by decide +kernel) (by decide +kernel), mmX10_slipsInHundred⟩
theorem mlX2_42 : ML RX2 42 yX10_cell mX10_cell 3 10 := ⟨TW_at 702 (by decide +kernel) (by decide +kernel), mmX10_cell⟩
theorem slX2_46 : SL RX2 46 yX2_isBrown mX2_isBrown 4 := ⟨Or.inl (TW_at 703 (by decide +kernel) (by decide +kernel)), ssX2_isBrown⟩
theorem slX2_54 : SL RX2 54 yX2_isLiedOn mX2_isLiedOn 3 := ⟨Or.inl (TW_at 706 (by decide +kernel) (by decide +kernel)), ssX2_isLiedOn⟩
theorem slX2_58 : SL RX2 58 yX11_has mX11_has 2 := ⟨Or.inr ⟨"PromiseWeb", List.mem_of_getElem? (i := 709) (by decide +kernel)⟩, ssX11_has⟩
theorem mlX2_62 : ML RX2 62 yX10_isLied mX10_isLied 1 10 := ⟨TW_at 710 (by decide +kernel) (by decide +kernel), mmX10_isLied⟩
theorem mlX2_50 : ML RX2 50 yX10_isToldBrown mX10_isToldBrown 1 10 := ⟨TW_at 714 (by decide +kernel) (by decide +kernel), mmX10_isToldBrown⟩
theorem mlX11_113 : ML RX11 113 yX10_howMany mX10_howMany 1 10 := ⟨TW_at 718 (by decide +kernel) (by decide +kernel), mmX10_howMany⟩
theorem mlL_28 : ML RL 28 yX11_fault mX11_fault 0 11 := ⟨TW_at 719 (by decide +kernel) (by decide +kernel), mmX11_fault⟩
theorem mlL_33 : ML RL 33 yX11_where mX11_where 0 11 := ⟨TW_at 723 (by decide +kernel) (by decide +kernel), mmX11_where⟩
theorem mlL_37 : ML RL 37 yX11_thread mX11_thread 2 11 := ⟨TW_at 727 (by decide +kernel) (by decide +kernel), mmX11_thread⟩
theorem mlX11_123 : ML RX11 123 yX11_needThread mX11_needThread 1 11 := ⟨TW_at 731 (by decide +kernel) (by decide +kernel), mmX11_needThread⟩
theorem mlX11_164 : ML RX11 164 yX7_threads mX7_threads 0 7 := ⟨TW_at 735 (by decide +kernel) (by decide +kernel), mmX7_threads⟩
theorem slX11_126 : SL RX11 126 yX11_firstOf mX11_firstOf 2 := ⟨Or.inl (TW_at 739 (by decide +kernel) (by decide +kernel)), ssX11_firstOf⟩
theorem mlX11_130 : ML RX11 130 yX7_strength mX7_strength 2 7 := ⟨TW_at 742 (by decide +kernel) (by decide +kernel), mmX7_strength⟩
theorem mlX7_42 : ML RX7 42 yX7_isSnapped mX7_isSnapped 1 7 := ⟨TW_at 746 (by decide +kernel) (by decide +kernel), mmX7_isSnapped⟩
theorem slX7_39 : SL RX7 39 yX11_has mX11_has 2 := ⟨Or.inr ⟨"PromiseWeb", List.mem_of_getElem? (i := 750) (by decide +kernel)⟩, ssX11_has⟩
theorem mlX7_36 : ML RX7 36 yX7_cell mX7_cell 2 7 := ⟨TW_at 751 (by decide +kernel) (by decide +kernel), mmX7_cell⟩
theorem slX7_46 : SL RX7 46 yJ9_max_7cf53 mJ9_max_7cf53 2 := ⟨Or.inl (TW_at 755 (by decide +kernel) (by decide +kernel)), ssJ9_max_7cf53⟩
theorem slX7_51 : SL RX7 51 yJ9_min_7cf53 mJ9_min_7cf53 2 := ⟨Or.inl (TW_at 758 (by decide +kernel) (by decide +kernel)), ssJ9_min_7cf53⟩
theorem mlX11_133 : ML RX11 133 yX7_isSnapped mX7_isSnapped 1 7 := ⟨TW_at 759 (by decide +kernel) (by decide +kernel), mmX7_isSnapped⟩
theorem mlX11_136 : ML RX11 136 yX10_clashingWith mX10_clashingWith 1 10 := ⟨TW_at 760 (by decide +kernel) (by decide +kernel), mmX10_clashingWith⟩
theorem mlX11_139 : ML RX11 139 yX7_cell mX7_cell 2 7 := ⟨TW_at 761 (by decide +kernel) (by decide +kernel), mmX7_cell⟩
theorem mlL_42 : ML RL 42 yX11_nail mX11_nail 2 11 := ⟨TW_at 762 (by decide +kernel) (by decide +kernel), mmX11_nail⟩
theorem mlX11_142 : ML RX11 142 yX11_needNail mX11_needNail 1 11 := ⟨TW_at 766 (by decide +kernel) (by decide +kernel), mmX11_needNail⟩
theorem mlX11_238 : ML RX11 238 yX11_needRow mX11_needRow 2 11 := ⟨TW_at 770 (by decide +kernel) (by decide +kernel), mmX11_needRow⟩
theorem mlX11_145 : ML RX11 145 yX11_goBehind mX11_goBehind 1 11 := ⟨TW_at 774 (by decide +kernel) (by decide +kernel), mmX11_goBehind⟩
theorem mlX11_358 : ML RX11 358 yX0_arrange mX0_arrange 2 0 := ⟨TW_at 778 (by decide +kernel) (by decide +kernel), mmX0_arrange⟩
theorem mlX0_34 : ML RX0 34 yX10_howMany mX10_howMany 1 10 := ⟨TW_at 782 (by decide +kernel) (by decide +kernel), mmX10_howMany⟩
theorem slX0_40 : SL RX0 40 yJ9_min_7cf53 mJ9_min_7cf53 2 := ⟨Or.inl (TW_at 783 (by decide +kernel) (by decide +kernel)), ssJ9_min_7cf53⟩
theorem mlX0_50 : ML RX0 50 yX7_cell mX7_cell 2 7 := ⟨TW_at 784 (by decide +kernel) (by decide +kernel), mmX7_cell⟩
theorem mlX0_55 : ML RX0 55 yX10_cell mX10_cell 3 10 := ⟨TW_at 785 (by decide +kernel) (by decide +kernel), mmX10_cell⟩
theorem mlX0_58 : ML RX0 58 yX0_fillSums mX0_fillSums 3 0 := ⟨TW_at 786 (by decide +kernel) (by decide +kernel), mmX0_fillSums⟩
theorem mlX11_202 : ML RX11 202 yX0_strengthen mX0_strengthen 2 0 := ⟨TW_at 790 (by decide +kernel) (by decide +kernel), mmX0_strengthen⟩
theorem mlX0_62 : ML RX0 62 yX7_threads mX7_threads 0 7 := ⟨TW_at 794 (by decide +kernel) (by decide +kernel), mmX7_threads⟩
theorem mlX0_66 : ML RX0 66 yX7_strength mX7_strength 2 7 := ⟨TW_at 795 (by decide +kernel) (by decide +kernel), mmX7_strength⟩
theorem mlX11_148 : ML RX11 148 yX0_heldAt mX0_heldAt 1 0 := ⟨TW_at 796 (by decide +kernel) (by decide +kernel), mmX0_heldAt⟩
theorem mlX11_151 : ML RX11 151 yX0_sumOf mX0_sumOf 1 0 := ⟨TW_at 800 (by decide +kernel) (by decide +kernel), mmX0_sumOf⟩
theorem mlL_46 : ML RL 46 yX11_strong mX11_strong 2 11 := ⟨TW_at 804 (by decide +kernel) (by decide +kernel), mmX11_strong⟩
theorem slX11_154 : SL RX11 154 yX11_needYears mX11_needYears 1 := ⟨Or.inl (TW_at 808 (by decide +kernel) (by decide +kernel)), ssX11_needYears⟩
theorem mlL_50 : ML RL 50 yX11_breaksIn mX11_breaksIn 1 11 := ⟨TW_at 811 (by decide +kernel) (by decide +kernel), mmX11_breaksIn⟩
theorem mlL_54 : ML RL 54 yX11_holding mX11_holding 1 11 := ⟨TW_at 815 (by decide +kernel) (by decide +kernel), mmX11_holding⟩
theorem mlX11_157 : ML RX11 157 yX11_needWeb mX11_needWeb 0 11 := ⟨TW_at 819 (by decide +kernel) (by decide +kernel), mmX11_needWeb⟩
theorem mlX11_161 : ML RX11 161 yX0_held mX0_held 0 0 := ⟨TW_at 823 (by decide +kernel) (by decide +kernel), mmX0_held⟩
theorem mlL_58 : ML RL 58 yX11_strongest mX11_strongest 1 11 := ⟨TW_at 827 (by decide +kernel) (by decide +kernel), mmX11_strongest⟩
theorem mlL_62 : ML RL 62 yX11_bears mX11_bears 3 11 := ⟨TW_at 831 (by decide +kernel) (by decide +kernel), mmX11_bears⟩
theorem mlX11_167 : ML RX11 167 yX11_needTwoNails mX11_needTwoNails 2 11 := ⟨TW_at 835 (by decide +kernel) (by decide +kernel), mmX11_needTwoNails⟩
theorem mlX11_170 : ML RX11 170 yX0_between mX0_between 2 0 := ⟨TW_at 839 (by decide +kernel) (by decide +kernel), mmX0_between⟩
theorem mlX0_84 : ML RX0 84 yX0_part mX0_part 2 0 := ⟨TW_at 843 (by decide +kernel) (by decide +kernel), mmX0_part⟩
theorem slX0_71 : SL RX0 71 yX11_has mX11_has 2 := ⟨Or.inr ⟨"PromiseWeb", List.mem_of_getElem? (i := 847) (by decide +kernel)⟩, ssX11_has⟩
theorem mlX0_75 : ML RX0 75 yX0_across mX0_across 1 0 := ⟨TW_at 848 (by decide +kernel) (by decide +kernel), mmX0_across⟩
theorem mlX0_88 : ML RX0 88 yX0_held mX0_held 0 0 := ⟨TW_at 852 (by decide +kernel) (by decide +kernel), mmX0_held⟩
theorem mlX0_91 : ML RX0 91 yX0_borneBy mX0_borneBy 1 0 := ⟨TW_at 853 (by decide +kernel) (by decide +kernel), mmX0_borneBy⟩
theorem mlX0_78 : ML RX0 78 yX0_sumOf mX0_sumOf 1 0 := ⟨TW_at 857 (by decide +kernel) (by decide +kernel), mmX0_sumOf⟩
theorem slX0_81 : SL RX0 81 yJ9_max_7cf53 mJ9_max_7cf53 2 := ⟨Or.inl (TW_at 858 (by decide +kernel) (by decide +kernel)), ssJ9_max_7cf53⟩
theorem mlL_67 : ML RL 67 yX11_cut mX11_cut 3 11 := ⟨TW_at 859 (by decide +kernel) (by decide +kernel), mmX11_cut⟩
theorem mlX11_173 : ML RX11 173 yX0_part mX0_part 2 0 := ⟨TW_at 863 (by decide +kernel) (by decide +kernel), mmX0_part⟩
theorem mlX11_177 : ML RX11 177 yX0_fewestCut mX0_fewestCut 0 0 := ⟨TW_at 864 (by decide +kernel) (by decide +kernel), mmX0_fewestCut⟩
theorem slX0_94 : SL RX0 94 yX0_isLess mX0_isLess 2 := ⟨Or.inl (TW_at 868 (by decide +kernel) (by decide +kernel)), ssX0_isLess⟩
theorem slX0_97 : SL RX0 97 yJ6_bitCount_0f7a4 mJ6_bitCount_0f7a4 1 := ⟨Or.inl (TW_at 871 (by decide +kernel) (by decide +kernel)), ssJ6_bitCount_0f7a4⟩
theorem kcJ6_265 : Cond.constant RJ6 265 (1431655765) ∈ TW := TW_at 874 (by decide +kernel) (by decide +kernel)
theorem kcJ6_266 : Cond.constant RJ6 266 (858993459) ∈ TW := TW_at 875 (by decide +kernel) (by decide +kernel)
theorem kcJ6_267 : Cond.constant RJ6 267 (252645135) ∈ TW := TW_at 876 (by decide +kernel) (by decide +kernel)
theorem mlL_71 : ML RL 71 yX11_vital mX11_vital 3 11 := ⟨TW_at 877 (by decide +kernel) (by decide +kernel), mmX11_vital⟩
theorem slX11_180 : SL RX11 180 yX11_has mX11_has 2 := ⟨Or.inl (TW_at 881 (by decide +kernel) (by decide +kernel)), ssX11_has⟩
theorem mlX11_184 : ML RX11 184 yX0_borneBy mX0_borneBy 1 0 := ⟨TW_at 882 (by decide +kernel) (by decide +kernel), mmX0_borneBy⟩
theorem mlL_75 : ML RL 75 yX11_needed mX11_needed 3 11 := ⟨TW_at 883 (by decide +kernel) (by decide +kernel), mmX11_needed⟩
theorem mlL_79 : ML RL 79 yX11_weakest mX11_weakest 1 11 := ⟨TW_at 887 (by decide +kernel) (by decide +kernel), mmX11_weakest⟩
theorem mlL_83 : ML RL 83 yX11_apart mX11_apart 3 11 := ⟨TW_at 891 (by decide +kernel) (by decide +kernel), mmX11_apart⟩
theorem mlX11_187 : ML RX11 187 yX0_steps mX0_steps 2 0 := ⟨TW_at 895 (by decide +kernel) (by decide +kernel), mmX0_steps⟩
theorem mlX0_102 : ML RX0 102 yX0_reachedFrom mX0_reachedFrom 2 0 := ⟨TW_at 899 (by decide +kernel) (by decide +kernel), mmX0_reachedFrom⟩
theorem mlL_87 : ML RL 87 yX11_parts mX11_parts 1 11 := ⟨TW_at 903 (by decide +kernel) (by decide +kernel), mmX11_parts⟩
theorem mlX11_190 : ML RX11 190 yX0_pieces mX0_pieces 1 0 := ⟨TW_at 907 (by decide +kernel) (by decide +kernel), mmX0_pieces⟩
theorem mlX0_105 : ML RX0 105 yX0_pieceOf mX0_pieceOf 2 0 := ⟨TW_at 911 (by decide +kernel) (by decide +kernel), mmX0_pieceOf⟩
theorem mlL_91 : ML RL 91 yX11_bridges mX11_bridges 1 11 := ⟨TW_at 915 (by decide +kernel) (by decide +kernel), mmX11_bridges⟩
theorem mlL_95 : ML RL 95 yX11_borne mX11_borne 1 11 := ⟨TW_at 919 (by decide +kernel) (by decide +kernel), mmX11_borne⟩
theorem mlX11_193 : ML RX11 193 yX11_loadsBorneBy mX11_loadsBorneBy 1 11 := ⟨TW_at 923 (by decide +kernel) (by decide +kernel), mmX11_loadsBorneBy⟩
theorem mlX11_199 : ML RX11 199 yX11_partForLoad mX11_partForLoad 1 11 := ⟨TW_at 927 (by decide +kernel) (by decide +kernel), mmX11_partForLoad⟩
theorem mlX11_206 : ML RX11 206 yX10_cell mX10_cell 3 10 := ⟨TW_at 931 (by decide +kernel) (by decide +kernel), mmX10_cell⟩
theorem mlL_99 : ML RL 99 yX11_fallsIn mX11_fallsIn 1 11 := ⟨TW_at 932 (by decide +kernel) (by decide +kernel), mmX11_fallsIn⟩
theorem mlX11_196 : ML RX11 196 yX11_needLoad mX11_needLoad 1 11 := ⟨TW_at 936 (by decide +kernel) (by decide +kernel), mmX11_needLoad⟩
theorem mlL_103 : ML RL 103 yX11_spare mX11_spare 1 11 := ⟨TW_at 940 (by decide +kernel) (by decide +kernel), mmX11_spare⟩
theorem mlL_107 : ML RL 107 yX11_mend mX11_mend 0 11 := ⟨TW_at 944 (by decide +kernel) (by decide +kernel), mmX11_mend⟩
theorem mlX11_208 : ML RX11 208 yX11_cheapestMend mX11_cheapestMend 0 11 := ⟨TW_at 948 (by decide +kernel) (by decide +kernel), mmX11_cheapestMend⟩
theorem mlX11_211 : ML RX11 211 yX11_costOf mX11_costOf 1 11 := ⟨TW_at 952 (by decide +kernel) (by decide +kernel), mmX11_costOf⟩
theorem slX11_219 : SL RX11 219 yX0_ofOffers mX0_ofOffers 1 := ⟨Or.inl (TW_at 956 (by decide +kernel) (by decide +kernel)), ssX0_ofOffers⟩
theorem mlL_111 : ML RL 111 yX11_mendCost mX11_mendCost 0 11 := ⟨TW_at 959 (by decide +kernel) (by decide +kernel), mmX11_mendCost⟩
theorem mlL_115 : ML RL 115 yX11_bestOffer mX11_bestOffer 0 11 := ⟨TW_at 963 (by decide +kernel) (by decide +kernel), mmX11_bestOffer⟩
theorem slX11_214 : SL RX11 214 yJ6_bitCount_0f7a4 mJ6_bitCount_0f7a4 1 := ⟨Or.inl (TW_at 967 (by decide +kernel) (by decide +kernel)), ssJ6_bitCount_0f7a4⟩
theorem mlL_119 : ML RL 119 yX11_clashes mX11_clashes 1 11 := ⟨TW_at 968 (by decide +kernel) (by decide +kernel), mmX11_clashes⟩
theorem mlX11_222 : ML RX11 222 yX10_clashesAmong mX10_clashesAmong 1 10 := ⟨TW_at 972 (by decide +kernel) (by decide +kernel), mmX10_clashesAmong⟩
theorem slX10_59 : SL RX10 59 yX11_has mX11_has 2 := ⟨Or.inr ⟨"PromiseWeb", List.mem_of_getElem? (i := 976) (by decide +kernel)⟩, ssX11_has⟩
theorem mlL_123 : ML RL 123 yX11_breakFew mX11_breakFew 0 11 := ⟨TW_at 977 (by decide +kernel) (by decide +kernel), mmX11_breakFew⟩
theorem mlX11_225 : ML RX11 225 yX11_leastBreak mX11_leastBreak 1 11 := ⟨TW_at 981 (by decide +kernel) (by decide +kernel), mmX11_leastBreak⟩
theorem slX11_229 : SL RX11 229 yX11_isWithin mX11_isWithin 2 := ⟨Or.inl (TW_at 985 (by decide +kernel) (by decide +kernel)), ssX11_isWithin⟩
theorem mlL_127 : ML RL 127 yX11_breakRued mX11_breakRued 0 11 := ⟨TW_at 988 (by decide +kernel) (by decide +kernel), mmX11_breakRued⟩
theorem mlL_131 : ML RL 131 yX11_rue mX11_rue 0 11 := ⟨TW_at 992 (by decide +kernel) (by decide +kernel), mmX11_rue⟩
theorem mlL_135 : ML RL 135 yX11_peaces mX11_peaces 0 11 := ⟨TW_at 996 (by decide +kernel) (by decide +kernel), mmX11_peaces⟩
theorem mlL_139 : ML RL 139 yX11_fits mX11_fits 0 11 := ⟨TW_at 1000 (by decide +kernel) (by decide +kernel), mmX11_fits⟩
theorem mlX11_232 : ML RX11 232 yX2_fitting mX2_fitting 0 2 := ⟨TW_at 1004 (by decide +kernel) (by decide +kernel), mmX2_fitting⟩
theorem mlL_143 : ML RL 143 yX11_fitAt mX11_fitAt 1 11 := ⟨TW_at 1008 (by decide +kernel) (by decide +kernel), mmX11_fitAt⟩
theorem mlX11_235 : ML RX11 235 yX2_fittingAt mX2_fittingAt 1 2 := ⟨TW_at 1012 (by decide +kernel) (by decide +kernel), mmX2_fittingAt⟩
theorem mlL_147 : ML RL 147 yX11_odds mX11_odds 2 11 := ⟨TW_at 1016 (by decide +kernel) (by decide +kernel), mmX11_odds⟩
theorem kcX11_241 : Cond.constantLong RX11 241 (-1) ∈ TW := TW_at 1020 (by decide +kernel) (by decide +kernel)
theorem mlX11_243 : ML RX11 243 yX2_weightWith mX2_weightWith 1 2 := ⟨TW_at 1021 (by decide +kernel) (by decide +kernel), mmX2_weightWith⟩
theorem mlX11_247 : ML RX11 247 yX2_whole mX2_whole 0 2 := ⟨TW_at 1025 (by decide +kernel) (by decide +kernel), mmX2_whole⟩
theorem mlX11_251 : ML RX11 251 yX6_set mX6_set 2 6 := ⟨TW_at 1029 (by decide +kernel) (by decide +kernel), mmX6_set⟩
theorem slX6_7 : SL RX6 7 yX6_commonOf mX6_commonOf 2 := ⟨Or.inl (TW_at 1033 (by decide +kernel) (by decide +kernel)), ssX6_commonOf⟩
theorem mlX11_255 : ML RX11 255 yX6_part mX6_part 1 6 := ⟨TW_at 1036 (by decide +kernel) (by decide +kernel), mmX6_part⟩
theorem mlL_152 : ML RL 152 yX11_likeliest mX11_likeliest 0 11 := ⟨TW_at 1040 (by decide +kernel) (by decide +kernel), mmX11_likeliest⟩
theorem mlX11_258 : ML RX11 258 yX2_heaviest mX2_heaviest 0 2 := ⟨TW_at 1044 (by decide +kernel) (by decide +kernel), mmX2_heaviest⟩
theorem mlL_156 : ML RL 156 yX11_test mX11_test 0 11 := ⟨TW_at 1048 (by decide +kernel) (by decide +kernel), mmX11_test⟩
theorem mlX11_261 : ML RX11 261 yX2_bestAsked mX2_bestAsked 0 2 := ⟨TW_at 1052 (by decide +kernel) (by decide +kernel), mmX2_bestAsked⟩
theorem mlX2_65 : ML RX2 65 yX2_fitting mX2_fitting 0 2 := ⟨TW_at 1056 (by decide +kernel) (by decide +kernel), mmX2_fitting⟩
theorem mlX2_71 : ML RX2 71 yX2_leftAtMost mX2_leftAtMost 1 2 := ⟨TW_at 1057 (by decide +kernel) (by decide +kernel), mmX2_leftAtMost⟩
theorem slX2_68 : SL RX2 68 yJ9_max_7cf53 mJ9_max_7cf53 2 := ⟨Or.inl (TW_at 1061 (by decide +kernel) (by decide +kernel)), ssJ9_max_7cf53⟩
theorem mlL_160 : ML RL 160 yX11_testLeaves mX11_testLeaves 0 11 := ⟨TW_at 1062 (by decide +kernel) (by decide +kernel), mmX11_testLeaves⟩
theorem mlX11_264 : ML RX11 264 yX2_leftAtMost mX2_leftAtMost 1 2 := ⟨TW_at 1066 (by decide +kernel) (by decide +kernel), mmX2_leftAtMost⟩
theorem mlL_164 : ML RL 164 yX11_brown mX11_brown 3 11 := ⟨TW_at 1067 (by decide +kernel) (by decide +kernel), mmX11_brown⟩
theorem mlX11_267 : ML RX11 267 yX2_weightOfBrown mX2_weightOfBrown 3 2 := ⟨TW_at 1071 (by decide +kernel) (by decide +kernel), mmX2_weightOfBrown⟩
theorem mlL_169 : ML RL 169 yX11_judge mX11_judge 0 11 := ⟨TW_at 1075 (by decide +kernel) (by decide +kernel), mmX11_judge⟩
theorem mlX11_271 : ML RX11 271 yX10_isLied mX10_isLied 1 10 := ⟨TW_at 1079 (by decide +kernel) (by decide +kernel), mmX10_isLied⟩
theorem mlX11_274 : ML RX11 274 yX10_isToldBrown mX10_isToldBrown 1 10 := ⟨TW_at 1080 (by decide +kernel) (by decide +kernel), mmX10_isToldBrown⟩
theorem mlL_173 : ML RL 173 yX11_snaps mX11_snaps 2 11 := ⟨TW_at 1081 (by decide +kernel) (by decide +kernel), mmX11_snaps⟩
theorem mlX11_277 : ML RX11 277 yX0_playTurns mX0_playTurns 2 0 := ⟨TW_at 1085 (by decide +kernel) (by decide +kernel), mmX0_playTurns⟩
theorem slX0_108 : SL RX0 108 yX11_isWithin mX11_isWithin 2 := ⟨Or.inr ⟨"PromiseWeb", List.mem_of_getElem? (i := 1089) (by decide +kernel)⟩, ssX11_isWithin⟩
theorem mlX0_111 : ML RX0 111 yX0_winningSnap mX0_winningSnap 1 0 := ⟨TW_at 1090 (by decide +kernel) (by decide +kernel), mmX0_winningSnap⟩
theorem mlX0_114 : ML RX0 114 yX0_wins mX0_wins 1 0 := ⟨TW_at 1094 (by decide +kernel) (by decide +kernel), mmX0_wins⟩
theorem mlX11_280 : ML RX11 280 yX0_wins mX0_wins 1 0 := ⟨TW_at 1098 (by decide +kernel) (by decide +kernel), mmX0_wins⟩
theorem mlL_177 : ML RL 177 yX11_snapsBy mX11_snapsBy 2 11 := ⟨TW_at 1099 (by decide +kernel) (by decide +kernel), mmX11_snapsBy⟩
theorem mlX11_283 : ML RX11 283 yX0_winningSnap mX0_winningSnap 1 0 := ⟨TW_at 1103 (by decide +kernel) (by decide +kernel), mmX0_winningSnap⟩
theorem mlL_181 : ML RL 181 yX11_blows mX11_blows 4 11 := ⟨TW_at 1104 (by decide +kernel) (by decide +kernel), mmX11_blows⟩
theorem slX11_286 : SL RX11 286 yX11_gain mX11_gain 3 := ⟨Or.inl (TW_at 1108 (by decide +kernel) (by decide +kernel)), ssX11_gain⟩
theorem mlL_186 : ML RL 186 yX11_rests mX11_rests 1 11 := ⟨TW_at 1111 (by decide +kernel) (by decide +kernel), mmX11_rests⟩
theorem slX11_290 : SL RX11 290 yX11_isRest mX11_isRest 3 := ⟨Or.inl (TW_at 1115 (by decide +kernel) (by decide +kernel)), ssX11_isRest⟩
theorem mlL_190 : ML RL 190 yX11_rest mX11_rest 1 11 := ⟨TW_at 1118 (by decide +kernel) (by decide +kernel), mmX11_rest⟩
theorem mlL_194 : ML RL 194 yX11_bearOdds mX11_bearOdds 4 11 := ⟨TW_at 1122 (by decide +kernel) (by decide +kernel), mmX11_bearOdds⟩
theorem mlX11_294 : ML RX11 294 yX11_chanceOf mX11_chanceOf 2 11 := ⟨TW_at 1126 (by decide +kernel) (by decide +kernel), mmX11_chanceOf⟩
theorem mlX11_307 : ML RX11 307 yX10_clerksInHundred mX10_clerksInHundred 0 10 := ⟨TW_at 1130 (by decide +kernel) (by decide +kernel), mmX10_clerksInHundred⟩
theorem slX11_300 : SL RX11 300 yX11_power mX11_power 2 := ⟨Or.inl (TW_at 1134 (by decide +kernel) (by decide +kernel)), ssX11_power⟩
theorem kcX11_298 : Cond.constantLong RX11 298 (100) ∈ TW := TW_at 1137 (by decide +kernel) (by decide +kernel)
theorem mlL_199 : ML RL 199 yX11_mean mX11_mean 3 11 := ⟨TW_at 1138 (by decide +kernel) (by decide +kernel), mmX11_mean⟩
theorem mlL_203 : ML RL 203 yX11_years mX11_years 2 11 := ⟨TW_at 1142 (by decide +kernel) (by decide +kernel), mmX11_years⟩
theorem kcX11_304 : Cond.constant RX11 304 (65536) ∈ TW := TW_at 1146 (by decide +kernel) (by decide +kernel)
theorem mlX11_305 : ML RX11 305 yX1_begin mX1_begin 1 1 := ⟨TW_at 1147 (by decide +kernel) (by decide +kernel), mmX1_begin⟩
theorem mlX11_310 : ML RX11 310 yX1_passYear mX1_passYear 3 1 := ⟨TW_at 1151 (by decide +kernel) (by decide +kernel), mmX1_passYear⟩
theorem mlX1_18 : ML RX1 18 yX7_threads mX7_threads 0 7 := ⟨TW_at 1155 (by decide +kernel) (by decide +kernel), mmX7_threads⟩
theorem slX1_24 : SL RX1 24 yX11_has mX11_has 2 := ⟨Or.inr ⟨"PromiseWeb", List.mem_of_getElem? (i := 1156) (by decide +kernel)⟩, ssX11_has⟩
theorem mlX1_28 : ML RX1 28 yX7_strength mX7_strength 2 7 := ⟨TW_at 1157 (by decide +kernel) (by decide +kernel), mmX7_strength⟩
theorem mlX1_32 : ML RX1 32 yX1_draw mX1_draw 0 1 := ⟨TW_at 1158 (by decide +kernel) (by decide +kernel), mmX1_draw⟩
theorem kcX1_35 : Cond.constant RX1 35 (65537) ∈ TW := TW_at 1162 (by decide +kernel) (by decide +kernel)
theorem mlL_207 : ML RL 207 yX11_fallsBy mX11_fallsBy 3 11 := ⟨TW_at 1163 (by decide +kernel) (by decide +kernel), mmX11_fallsBy⟩
theorem mlL_211 : ML RL 211 yX11_year mX11_year 0 11 := ⟨TW_at 1167 (by decide +kernel) (by decide +kernel), mmX11_year⟩
theorem mlX11_317 : ML RX11 317 yX7_yearsGone mX7_yearsGone 0 7 := ⟨TW_at 1171 (by decide +kernel) (by decide +kernel), mmX7_yearsGone⟩
theorem mlX11_320 : ML RX11 320 yX4_keep mX4_keep 1 4 := ⟨TW_at 1175 (by decide +kernel) (by decide +kernel), mmX4_keep⟩
theorem mlX4_28 : ML RX4 28 yX7_copyTo mX7_copyTo 2 7 := ⟨TW_at 1179 (by decide +kernel) (by decide +kernel), mmX7_copyTo⟩
theorem slX4_32 : SL RX4 32 yJ9_min_7cf53 mJ9_min_7cf53 2 := ⟨Or.inl (TW_at 1184 (by decide +kernel) (by decide +kernel)), ssJ9_min_7cf53⟩
theorem mlX11_324 : ML RX11 324 yX7_passYear mX7_passYear 0 7 := ⟨TW_at 1185 (by decide +kernel) (by decide +kernel), mmX7_passYear⟩
theorem mlL_215 : ML RL 215 yX11_snap mX11_snap 1 11 := ⟨TW_at 1189 (by decide +kernel) (by decide +kernel), mmX11_snap⟩
theorem mlX11_326 : ML RX11 326 yX7_setSnapped mX7_setSnapped 1 7 := ⟨TW_at 1193 (by decide +kernel) (by decide +kernel), mmX7_setSnapped⟩
theorem mlL_220 : ML RL 220 yX11_spin mX11_spin 1 11 := ⟨TW_at 1197 (by decide +kernel) (by decide +kernel), mmX11_spin⟩
theorem mlX11_329 : ML RX11 329 yX7_addKept mX7_addKept 3 7 := ⟨TW_at 1201 (by decide +kernel) (by decide +kernel), mmX7_addKept⟩
theorem mlL_224 : ML RL 224 yX11_darn mX11_darn 1 11 := ⟨TW_at 1202 (by decide +kernel) (by decide +kernel), mmX11_darn⟩
theorem mlX11_333 : ML RX11 333 yX7_age mX7_age 1 7 := ⟨TW_at 1206 (by decide +kernel) (by decide +kernel), mmX7_age⟩
theorem mlX11_336 : ML RX11 336 yX7_renew mX7_renew 1 7 := ⟨TW_at 1210 (by decide +kernel) (by decide +kernel), mmX7_renew⟩
theorem mlL_228 : ML RL 228 yX11_undo mX11_undo 0 11 := ⟨TW_at 1214 (by decide +kernel) (by decide +kernel), mmX11_undo⟩
theorem mlX11_340 : ML RX11 340 yX4_takeBack mX4_takeBack 1 4 := ⟨TW_at 1218 (by decide +kernel) (by decide +kernel), mmX4_takeBack⟩
theorem mlX4_38 : ML RX4 38 yX7_copyFrom mX7_copyFrom 2 7 := ⟨TW_at 1222 (by decide +kernel) (by decide +kernel), mmX7_copyFrom⟩
theorem mlL_233 : ML RL 233 yX11_image mX11_image 0 11 := ⟨TW_at 1226 (by decide +kernel) (by decide +kernel), mmX11_image⟩
theorem mlX11_346 : ML RX11 346 yX4_takeImage mX4_takeImage 1 4 := ⟨TW_at 1230 (by decide +kernel) (by decide +kernel), mmX4_takeImage⟩
theorem mlL_237 : ML RL 237 yX11_back mX11_back 1 11 := ⟨TW_at 1234 (by decide +kernel) (by decide +kernel), mmX11_back⟩
theorem mlX11_349 : ML RX11 349 yX4_goBack mX4_goBack 2 4 := ⟨TW_at 1238 (by decide +kernel) (by decide +kernel), mmX4_goBack⟩
theorem mlL_250 : ML RL 250 yX11_size mX11_size 1 11 := ⟨TW_at 1242 (by decide +kernel) (by decide +kernel), mmX11_size⟩
theorem mlX11_355 : ML RX11 355 yX10_slipsInHundred mX10_slipsInHundred 0 10 := ⟨TW_at 1246 (by decide +kernel) (by decide +kernel), mmX10_slipsInHundred⟩
theorem mlL_254 : ML RL 254 yX11_trouble mX11_trouble 0 11 := ⟨TW_at 1247 (by decide +kernel) (by decide +kernel), mmX11_trouble⟩
theorem mlL_7 : ML RL 7 yX11_led mX11_led 1 11 := ⟨TW_at 1255 (by decide +kernel) (by decide +kernel), mmX11_led⟩
theorem faX13_46 : FA RX13 46 13 0 := ⟨by decide, by decide, Or.inl (TW_at 1326 (by decide +kernel) (by decide +kernel))⟩
theorem faX13_49 : FA RX13 49 13 1 := ⟨by decide, by decide, Or.inl (TW_at 1327 (by decide +kernel) (by decide +kernel))⟩
theorem faX13_9 : FA RX13 9 13 2 := ⟨by decide, by decide, Or.inl (TW_at 1328 (by decide +kernel) (by decide +kernel))⟩
theorem faX13_343 : FA RX13 343 13 3 := ⟨by decide, by decide, Or.inl (TW_at 1329 (by decide +kernel) (by decide +kernel))⟩
theorem faX13_149 : FA RX13 149 13 4 := ⟨by decide, by decide, Or.inl (TW_at 1330 (by decide +kernel) (by decide +kernel))⟩
theorem faX13_13 : FA RX13 13 13 5 := ⟨by decide, by decide, Or.inl (TW_at 1331 (by decide +kernel) (by decide +kernel))⟩
theorem faX13_336 : FA RX13 336 13 6 := ⟨by decide, by decide, Or.inl (TW_at 1332 (by decide +kernel) (by decide +kernel))⟩
theorem faX13_63 : FA RX13 63 13 7 := ⟨by decide, by decide, Or.inl (TW_at 1333 (by decide +kernel) (by decide +kernel))⟩
theorem faX13_81 : FA RX13 81 13 8 := ⟨by decide, by decide, Or.inl (TW_at 1334 (by decide +kernel) (by decide +kernel))⟩
theorem faX13_78 : FA RX13 78 13 9 := ⟨by decide, by decide, Or.inl (TW_at 1335 (by decide +kernel) (by decide +kernel))⟩
theorem faX13_87 : FA RX13 87 13 10 := ⟨by decide, by decide, Or.inl (TW_at 1336 (by decide +kernel) (by decide +kernel))⟩
theorem faX13_101 : FA RX13 101 13 11 := ⟨by decide, by decide, Or.inl (TW_at 1337 (by decide +kernel) (by decide +kernel))⟩
theorem faX13_104 : FA RX13 104 13 12 := ⟨by decide, by decide, Or.inl (TW_at 1338 (by decide +kernel) (by decide +kernel))⟩
theorem faX13_107 : FA RX13 107 13 13 := ⟨by decide, by decide, Or.inl (TW_at 1339 (by decide +kernel) (by decide +kernel))⟩
theorem faX13_94 : FA RX13 94 13 14 := ⟨by decide, by decide, Or.inl (TW_at 1340 (by decide +kernel) (by decide +kernel))⟩
theorem faX13_185 : FA RX13 185 13 15 := ⟨by decide, by decide, Or.inl (TW_at 1341 (by decide +kernel) (by decide +kernel))⟩
theorem faX13_17 : FA RX13 17 13 16 := ⟨by decide, by decide, Or.inl (TW_at 1342 (by decide +kernel) (by decide +kernel))⟩
theorem faX13_21 : FA RX13 21 13 17 := ⟨by decide, by decide, Or.inl (TW_at 1343 (by decide +kernel) (by decide +kernel))⟩
theorem faX13_24 : FA RX13 24 13 18 := ⟨by decide, by decide, Or.inl (TW_at 1344 (by decide +kernel) (by decide +kernel))⟩
theorem faX13_27 : FA RX13 27 13 19 := ⟨by decide, by decide, Or.inl (TW_at 1345 (by decide +kernel) (by decide +kernel))⟩
theorem faX13_345 : FA RX13 345 13 20 := ⟨by decide, by decide, Or.inl (TW_at 1346 (by decide +kernel) (by decide +kernel))⟩
theorem faX13_348 : FA RX13 348 13 21 := ⟨by decide, by decide, Or.inl (TW_at 1347 (by decide +kernel) (by decide +kernel))⟩
theorem faX13_30 : FA RX13 30 13 22 := ⟨by decide, by decide, Or.inl (TW_at 1348 (by decide +kernel) (by decide +kernel))⟩
theorem faX13_33 : FA RX13 33 13 23 := ⟨by decide, by decide, Or.inl (TW_at 1349 (by decide +kernel) (by decide +kernel))⟩
theorem faX13_36 : FA RX13 36 13 24 := ⟨by decide, by decide, Or.inl (TW_at 1350 (by decide +kernel) (by decide +kernel))⟩
theorem faX13_360 : FA RX13 360 13 25 := ⟨by decide, by decide, Or.inl (TW_at 1351 (by decide +kernel) (by decide +kernel))⟩
theorem faX13_455 : FA RX13 455 13 26 := ⟨by decide, by decide, Or.inl (TW_at 1352 (by decide +kernel) (by decide +kernel))⟩
theorem faX13_39 : FA RX13 39 13 27 := ⟨by decide, by decide, Or.inl (TW_at 1353 (by decide +kernel) (by decide +kernel))⟩
theorem faX13_472 : FA RX13 472 13 28 := ⟨by decide, by decide, Or.inl (TW_at 1354 (by decide +kernel) (by decide +kernel))⟩
theorem faX13_42 : FA RX13 42 13 29 := ⟨by decide, by decide, Or.inl (TW_at 1355 (by decide +kernel) (by decide +kernel))⟩
theorem faX13_494 : FA RX13 494 13 30 := ⟨by decide, by decide, Or.inl (TW_at 1356 (by decide +kernel) (by decide +kernel))⟩
theorem faX13_505 : FA RX13 505 13 31 := ⟨by decide, by decide, Or.inl (TW_at 1357 (by decide +kernel) (by decide +kernel))⟩
theorem mlL_247 : ML RL 247 yX13_thrown mX13_thrown 0 13 := ⟨TW_at 1423 (by decide +kernel) (by decide +kernel), mmX13_thrown⟩
theorem mlL_23 : ML RL 23 yX13_feed mX13_feed 5 13 := ⟨TW_at 1427 (by decide +kernel) (by decide +kernel), mmX13_feed⟩
theorem mlL_27 : ML RL 27 yX13_web mX13_web 1 13 := ⟨TW_at 1431 (by decide +kernel) (by decide +kernel), mmX13_web⟩
theorem mlX13_52 : ML RX13 52 yX13_refused mX13_refused 1 13 := ⟨TW_at 1435 (by decide +kernel) (by decide +kernel), mmX13_refused⟩
theorem faX12_9 : FA RX12 9 12 0 := ⟨by decide, by decide, Or.inl (TW_at 1445 (by decide +kernel) (by decide +kernel))⟩
theorem faX13_153 : FA RX13 153 12 0 := ⟨by decide, by decide, Or.inr ⟨"PromiseWebModel", List.mem_of_getElem? (i := 1446) (by decide +kernel)⟩⟩
theorem faX13_228 : FA RX13 228 12 1 := ⟨by decide, by decide, Or.inr ⟨"PromiseWebModel", List.mem_of_getElem? (i := 1447) (by decide +kernel)⟩⟩
theorem faX13_194 : FA RX13 194 12 2 := ⟨by decide, by decide, Or.inr ⟨"PromiseWebModel", List.mem_of_getElem? (i := 1448) (by decide +kernel)⟩⟩
theorem faX13_241 : FA RX13 241 12 3 := ⟨by decide, by decide, Or.inr ⟨"PromiseWebModel", List.mem_of_getElem? (i := 1449) (by decide +kernel)⟩⟩
theorem faX13_271 : FA RX13 271 12 4 := ⟨by decide, by decide, Or.inr ⟨"PromiseWebModel", List.mem_of_getElem? (i := 1450) (by decide +kernel)⟩⟩
theorem faX13_287 : FA RX13 287 12 5 := ⟨by decide, by decide, Or.inr ⟨"PromiseWebModel", List.mem_of_getElem? (i := 1451) (by decide +kernel)⟩⟩
theorem faX13_298 : FA RX13 298 12 6 := ⟨by decide, by decide, Or.inr ⟨"PromiseWebModel", List.mem_of_getElem? (i := 1452) (by decide +kernel)⟩⟩
theorem faX12_83 : FA RX12 83 12 7 := ⟨by decide, by decide, Or.inl (TW_at 1453 (by decide +kernel) (by decide +kernel))⟩
theorem faX13_313 : FA RX13 313 12 7 := ⟨by decide, by decide, Or.inr ⟨"PromiseWebModel", List.mem_of_getElem? (i := 1454) (by decide +kernel)⟩⟩
theorem faX13_321 : FA RX13 321 12 8 := ⟨by decide, by decide, Or.inr ⟨"PromiseWebModel", List.mem_of_getElem? (i := 1455) (by decide +kernel)⟩⟩
theorem faX13_334 : FA RX13 334 12 9 := ⟨by decide, by decide, Or.inr ⟨"PromiseWebModel", List.mem_of_getElem? (i := 1456) (by decide +kernel)⟩⟩
theorem faX12_80 : FA RX12 80 12 10 := ⟨by decide, by decide, Or.inl (TW_at 1457 (by decide +kernel) (by decide +kernel))⟩
theorem faX13_170 : FA RX13 170 12 10 := ⟨by decide, by decide, Or.inr ⟨"PromiseWebModel", List.mem_of_getElem? (i := 1458) (by decide +kernel)⟩⟩
theorem faX12_15 : FA RX12 15 12 11 := ⟨by decide, by decide, Or.inl (TW_at 1459 (by decide +kernel) (by decide +kernel))⟩
theorem faX13_258 : FA RX13 258 12 11 := ⟨by decide, by decide, Or.inr ⟨"PromiseWebModel", List.mem_of_getElem? (i := 1460) (by decide +kernel)⟩⟩
theorem faX12_19 : FA RX12 19 12 12 := ⟨by decide, by decide, Or.inl (TW_at 1461 (by decide +kernel) (by decide +kernel))⟩
theorem faX13_261 : FA RX13 261 12 12 := ⟨by decide, by decide, Or.inr ⟨"PromiseWebModel", List.mem_of_getElem? (i := 1462) (by decide +kernel)⟩⟩
theorem faX12_22 : FA RX12 22 12 13 := ⟨by decide, by decide, Or.inl (TW_at 1463 (by decide +kernel) (by decide +kernel))⟩
theorem faX13_264 : FA RX13 264 12 13 := ⟨by decide, by decide, Or.inr ⟨"PromiseWebModel", List.mem_of_getElem? (i := 1464) (by decide +kernel)⟩⟩
theorem faX12_25 : FA RX12 25 12 14 := ⟨by decide, by decide, Or.inl (TW_at 1465 (by decide +kernel) (by decide +kernel))⟩
theorem faX13_267 : FA RX13 267 12 14 := ⟨by decide, by decide, Or.inr ⟨"PromiseWebModel", List.mem_of_getElem? (i := 1466) (by decide +kernel)⟩⟩
theorem faX12_28 : FA RX12 28 12 15 := ⟨by decide, by decide, Or.inl (TW_at 1467 (by decide +kernel) (by decide +kernel))⟩
theorem faX13_269 : FA RX13 269 12 15 := ⟨by decide, by decide, Or.inr ⟨"PromiseWebModel", List.mem_of_getElem? (i := 1468) (by decide +kernel)⟩⟩
theorem faX12_31 : FA RX12 31 12 16 := ⟨by decide, by decide, Or.inl (TW_at 1469 (by decide +kernel) (by decide +kernel))⟩
theorem faX13_274 : FA RX13 274 12 16 := ⟨by decide, by decide, Or.inr ⟨"PromiseWebModel", List.mem_of_getElem? (i := 1470) (by decide +kernel)⟩⟩
theorem faX12_34 : FA RX12 34 12 17 := ⟨by decide, by decide, Or.inl (TW_at 1471 (by decide +kernel) (by decide +kernel))⟩
theorem faX13_290 : FA RX13 290 12 17 := ⟨by decide, by decide, Or.inr ⟨"PromiseWebModel", List.mem_of_getElem? (i := 1472) (by decide +kernel)⟩⟩
theorem faX12_37 : FA RX12 37 12 18 := ⟨by decide, by decide, Or.inl (TW_at 1473 (by decide +kernel) (by decide +kernel))⟩
theorem faX13_293 : FA RX13 293 12 18 := ⟨by decide, by decide, Or.inr ⟨"PromiseWebModel", List.mem_of_getElem? (i := 1474) (by decide +kernel)⟩⟩
theorem faX12_40 : FA RX12 40 12 19 := ⟨by decide, by decide, Or.inl (TW_at 1475 (by decide +kernel) (by decide +kernel))⟩
theorem faX13_296 : FA RX13 296 12 19 := ⟨by decide, by decide, Or.inr ⟨"PromiseWebModel", List.mem_of_getElem? (i := 1476) (by decide +kernel)⟩⟩
theorem faX12_43 : FA RX12 43 12 20 := ⟨by decide, by decide, Or.inl (TW_at 1477 (by decide +kernel) (by decide +kernel))⟩
theorem faX13_303 : FA RX13 303 12 20 := ⟨by decide, by decide, Or.inr ⟨"PromiseWebModel", List.mem_of_getElem? (i := 1478) (by decide +kernel)⟩⟩
theorem faX12_46 : FA RX12 46 12 21 := ⟨by decide, by decide, Or.inl (TW_at 1479 (by decide +kernel) (by decide +kernel))⟩
theorem faX13_306 : FA RX13 306 12 21 := ⟨by decide, by decide, Or.inr ⟨"PromiseWebModel", List.mem_of_getElem? (i := 1480) (by decide +kernel)⟩⟩
theorem faX12_49 : FA RX12 49 12 22 := ⟨by decide, by decide, Or.inl (TW_at 1481 (by decide +kernel) (by decide +kernel))⟩
theorem faX13_309 : FA RX13 309 12 22 := ⟨by decide, by decide, Or.inr ⟨"PromiseWebModel", List.mem_of_getElem? (i := 1482) (by decide +kernel)⟩⟩
theorem faX12_52 : FA RX12 52 12 23 := ⟨by decide, by decide, Or.inl (TW_at 1483 (by decide +kernel) (by decide +kernel))⟩
theorem faX13_311 : FA RX13 311 12 23 := ⟨by decide, by decide, Or.inr ⟨"PromiseWebModel", List.mem_of_getElem? (i := 1484) (by decide +kernel)⟩⟩
theorem faX12_55 : FA RX12 55 12 24 := ⟨by decide, by decide, Or.inl (TW_at 1485 (by decide +kernel) (by decide +kernel))⟩
theorem faX13_281 : FA RX13 281 12 24 := ⟨by decide, by decide, Or.inr ⟨"PromiseWebModel", List.mem_of_getElem? (i := 1486) (by decide +kernel)⟩⟩
theorem faX12_58 : FA RX12 58 12 25 := ⟨by decide, by decide, Or.inl (TW_at 1487 (by decide +kernel) (by decide +kernel))⟩
theorem faX13_284 : FA RX13 284 12 25 := ⟨by decide, by decide, Or.inr ⟨"PromiseWebModel", List.mem_of_getElem? (i := 1488) (by decide +kernel)⟩⟩
theorem faX12_61 : FA RX12 61 12 26 := ⟨by decide, by decide, Or.inl (TW_at 1489 (by decide +kernel) (by decide +kernel))⟩
theorem faX13_319 : FA RX13 319 12 26 := ⟨by decide, by decide, Or.inr ⟨"PromiseWebModel", List.mem_of_getElem? (i := 1490) (by decide +kernel)⟩⟩
theorem faX12_64 : FA RX12 64 12 27 := ⟨by decide, by decide, Or.inl (TW_at 1491 (by decide +kernel) (by decide +kernel))⟩
theorem faX13_328 : FA RX13 328 12 27 := ⟨by decide, by decide, Or.inr ⟨"PromiseWebModel", List.mem_of_getElem? (i := 1492) (by decide +kernel)⟩⟩
theorem faX12_67 : FA RX12 67 12 28 := ⟨by decide, by decide, Or.inl (TW_at 1493 (by decide +kernel) (by decide +kernel))⟩
theorem faX13_331 : FA RX13 331 12 28 := ⟨by decide, by decide, Or.inr ⟨"PromiseWebModel", List.mem_of_getElem? (i := 1494) (by decide +kernel)⟩⟩
theorem faX12_70 : FA RX12 70 12 29 := ⟨by decide, by decide, Or.inl (TW_at 1495 (by decide +kernel) (by decide +kernel))⟩
theorem faX13_166 : FA RX13 166 12 29 := ⟨by decide, by decide, Or.inr ⟨"PromiseWebModel", List.mem_of_getElem? (i := 1496) (by decide +kernel)⟩⟩
theorem faX12_74 : FA RX12 74 12 30 := ⟨by decide, by decide, Or.inl (TW_at 1497 (by decide +kernel) (by decide +kernel))⟩
theorem faX13_173 : FA RX13 173 12 30 := ⟨by decide, by decide, Or.inr ⟨"PromiseWebModel", List.mem_of_getElem? (i := 1498) (by decide +kernel)⟩⟩
theorem faX12_77 : FA RX12 77 12 31 := ⟨by decide, by decide, Or.inl (TW_at 1499 (by decide +kernel) (by decide +kernel))⟩
theorem faX13_176 : FA RX13 176 12 31 := ⟨by decide, by decide, Or.inr ⟨"PromiseWebModel", List.mem_of_getElem? (i := 1500) (by decide +kernel)⟩⟩
theorem mlX13_114 : ML RX13 114 yX13_goesOn mX13_goesOn 0 13 := ⟨TW_at 1566 (by decide +kernel) (by decide +kernel), mmX13_goesOn⟩
theorem mlX13_84 : ML RX13 84 yX13_byteAt mX13_byteAt 1 13 := ⟨TW_at 1570 (by decide +kernel) (by decide +kernel), mmX13_byteAt⟩
theorem slX13_90 : SL RX13 90 yX13_isLetter mX13_isLetter 1 := ⟨Or.inl (TW_at 1574 (by decide +kernel) (by decide +kernel)), ssX13_isLetter⟩
theorem kcX13_72 : Cond.constantLong RX13 72 (32) ∈ TW := TW_at 1577 (by decide +kernel) (by decide +kernel)
theorem slX13_98 : SL RX13 98 yX13_isDigit mX13_isDigit 1 := ⟨Or.inl (TW_at 1578 (by decide +kernel) (by decide +kernel)), ssX13_isDigit⟩
theorem mlX13_340 : ML RX13 340 yX13_readAll mX13_readAll 0 13 := ⟨TW_at 1581 (by decide +kernel) (by decide +kernel), mmX13_readAll⟩
theorem mlX13_188 : ML RX13 188 yX13_readLine mX13_readLine 0 13 := ⟨TW_at 1585 (by decide +kernel) (by decide +kernel), mmX13_readLine⟩
theorem mlX13_125 : ML RX13 125 yX13_isWord mX13_isWord 1 13 := ⟨TW_at 1590 (by decide +kernel) (by decide +kernel), mmX13_isWord⟩
theorem slX13_110 : SL RX13 110 yX13_packed mX13_packed 1 := ⟨Or.inl (TW_at 1594 (by decide +kernel) (by decide +kernel)), ssX13_packed⟩
theorem mlX13_197 : ML RX13 197 yX13_readWeb mX13_readWeb 0 13 := ⟨TW_at 1599 (by decide +kernel) (by decide +kernel), mmX13_readWeb⟩
theorem mlX13_117 : ML RX13 117 yX13_flaw mX13_flaw 1 13 := ⟨TW_at 1603 (by decide +kernel) (by decide +kernel), mmX13_flaw⟩
theorem mlX13_222 : ML RX13 222 yX13_readPart mX13_readPart 3 13 := ⟨TW_at 1608 (by decide +kernel) (by decide +kernel), mmX13_readPart⟩
theorem mlX13_129 : ML RX13 129 yX13_readWhole mX13_readWhole 2 13 := ⟨TW_at 1612 (by decide +kernel) (by decide +kernel), mmX13_readWhole⟩
theorem slX13_121 : SL RX13 121 yX13_in mX13_in 3 := ⟨Or.inl (TW_at 1616 (by decide +kernel) (by decide +kernel)), ssX13_in⟩
theorem mlX13_200 : ML RX13 200 yX13_readNail mX13_readNail 0 13 := ⟨TW_at 1621 (by decide +kernel) (by decide +kernel), mmX13_readNail⟩
theorem mlX13_230 : ML RX13 230 yX13_lineBegins mX13_lineBegins 2 13 := ⟨TW_at 1625 (by decide +kernel) (by decide +kernel), mmX13_lineBegins⟩
theorem mlX13_234 : ML RX13 234 yX13_readFresh mX13_readFresh 0 13 := ⟨TW_at 1629 (by decide +kernel) (by decide +kernel), mmX13_readFresh⟩
theorem mlX13_158 : ML RX13 158 yX13_isName mX13_isName 0 13 := ⟨TW_at 1633 (by decide +kernel) (by decide +kernel), mmX13_isName⟩
theorem mlX13_162 : ML RX13 162 yX12_find mX12_find 1 12 := ⟨TW_at 1643 (by decide +kernel) (by decide +kernel), mmX12_find⟩
theorem mlX13_238 : ML RX13 238 yX13_names mX13_names 3 13 := ⟨TW_at 1647 (by decide +kernel) (by decide +kernel), mmX13_names⟩
theorem mlX13_203 : ML RX13 203 yX13_readThread mX13_readThread 0 13 := ⟨TW_at 1651 (by decide +kernel) (by decide +kernel), mmX13_readThread⟩
theorem mlX13_251 : ML RX13 251 yX13_readNails mX13_readNails 0 13 := ⟨TW_at 1659 (by decide +kernel) (by decide +kernel), mmX13_readNails⟩
theorem mlX13_182 : ML RX13 182 yX13_readKnown mX13_readKnown 1 13 := ⟨TW_at 1663 (by decide +kernel) (by decide +kernel), mmX13_readKnown⟩
theorem mlX13_179 : ML RX13 179 yX13_knownOne mX13_knownOne 1 13 := ⟨TW_at 1667 (by decide +kernel) (by decide +kernel), mmX13_knownOne⟩
theorem mlX13_206 : ML RX13 206 yX13_readClash mX13_readClash 0 13 := ⟨TW_at 1673 (by decide +kernel) (by decide +kernel), mmX13_readClash⟩
theorem slX13_277 : SL RX13 277 yX13_bit mX13_bit 2 := ⟨Or.inl (TW_at 1677 (by decide +kernel) (by decide +kernel)), ssX13_bit⟩
theorem mlX13_209 : ML RX13 209 yX13_readLoad mX13_readLoad 0 13 := ⟨TW_at 1680 (by decide +kernel) (by decide +kernel), mmX13_readLoad⟩
theorem mlX13_212 : ML RX13 212 yX13_readOffer mX13_readOffer 0 13 := ⟨TW_at 1684 (by decide +kernel) (by decide +kernel), mmX13_readOffer⟩
theorem mlX13_215 : ML RX13 215 yX13_readUnsure mX13_readUnsure 0 13 := ⟨TW_at 1689 (by decide +kernel) (by decide +kernel), mmX13_readUnsure⟩
theorem mlX13_316 : ML RX13 316 yX12_unsureOf mX12_unsureOf 1 12 := ⟨TW_at 1693 (by decide +kernel) (by decide +kernel), mmX12_unsureOf⟩
theorem mlX13_218 : ML RX13 218 yX13_readHair mX13_readHair 0 13 := ⟨TW_at 1697 (by decide +kernel) (by decide +kernel), mmX13_readHair⟩
theorem mlX13_191 : ML RX13 191 yX13_eatsSemicolon mX13_eatsSemicolon 0 13 := ⟨TW_at 1703 (by decide +kernel) (by decide +kernel), mmX13_eatsSemicolon⟩
theorem mlX13_56 : ML RX13 56 yX13_good mX13_good 1 13 := ⟨TW_at 1707 (by decide +kernel) (by decide +kernel), mmX13_good⟩
theorem mlL_32 : ML RL 32 yX13_fault mX13_fault 0 13 := ⟨TW_at 1711 (by decide +kernel) (by decide +kernel), mmX13_fault⟩
theorem mlL_36 : ML RL 36 yX13_where mX13_where 0 13 := ⟨TW_at 1715 (by decide +kernel) (by decide +kernel), mmX13_where⟩
theorem mlL_41 : ML RL 41 yX13_thread mX13_thread 2 13 := ⟨TW_at 1719 (by decide +kernel) (by decide +kernel), mmX13_thread⟩
theorem mlX13_392 : ML RX13 392 yX13_isThread mX13_isThread 1 13 := ⟨TW_at 1723 (by decide +kernel) (by decide +kernel), mmX13_isThread⟩
theorem mlX13_376 : ML RX13 376 yX13_works mX13_works 0 13 := ⟨TW_at 1727 (by decide +kernel) (by decide +kernel), mmX13_works⟩
theorem mlX13_357 : ML RX13 357 yX13_kindOf mX13_kindOf 1 13 := ⟨TW_at 1731 (by decide +kernel) (by decide +kernel), mmX13_kindOf⟩
theorem mlX13_363 : ML RX13 363 yX13_oneOf mX13_oneOf 1 13 := ⟨TW_at 1735 (by decide +kernel) (by decide +kernel), mmX13_oneOf⟩
theorem mlX13_366 : ML RX13 366 yX13_twoOf mX13_twoOf 1 13 := ⟨TW_at 1739 (by decide +kernel) (by decide +kernel), mmX13_twoOf⟩
theorem mlX13_369 : ML RX13 369 yX13_strongOf mX13_strongOf 2 13 := ⟨TW_at 1743 (by decide +kernel) (by decide +kernel), mmX13_strongOf⟩
theorem mlX13_354 : ML RX13 354 yX13_stepOf mX13_stepOf 1 13 := ⟨TW_at 1747 (by decide +kernel) (by decide +kernel), mmX13_stepOf⟩
theorem mlX13_395 : ML RX13 395 yX13_foesOf mX13_foesOf 1 13 := ⟨TW_at 1751 (by decide +kernel) (by decide +kernel), mmX13_foesOf⟩
theorem mlL_45 : ML RL 45 yX13_nail mX13_nail 2 13 := ⟨TW_at 1755 (by decide +kernel) (by decide +kernel), mmX13_nail⟩
theorem mlX13_351 : ML RX13 351 yX13_isNail mX13_isNail 1 13 := ⟨TW_at 1759 (by decide +kernel) (by decide +kernel), mmX13_isNail⟩
theorem mlX13_398 : ML RX13 398 yX13_lays mX13_lays 1 13 := ⟨TW_at 1763 (by decide +kernel) (by decide +kernel), mmX13_lays⟩
theorem mlX13_379 : ML RX13 379 yX13_laysWorked mX13_laysWorked 1 13 := ⟨TW_at 1767 (by decide +kernel) (by decide +kernel), mmX13_laysWorked⟩
theorem mlX13_372 : ML RX13 372 yX13_edge mX13_edge 3 13 := ⟨TW_at 1771 (by decide +kernel) (by decide +kernel), mmX13_edge⟩
theorem mlL_49 : ML RL 49 yX13_strong mX13_strong 2 13 := ⟨TW_at 1775 (by decide +kernel) (by decide +kernel), mmX13_strong⟩
theorem mlX13_401 : ML RX13 401 yX13_refusesYears mX13_refusesYears 2 13 := ⟨TW_at 1779 (by decide +kernel) (by decide +kernel), mmX13_refusesYears⟩
theorem mlL_53 : ML RL 53 yX13_breaksIn mX13_breaksIn 1 13 := ⟨TW_at 1783 (by decide +kernel) (by decide +kernel), mmX13_breaksIn⟩
theorem mlL_57 : ML RL 57 yX13_holding mX13_holding 1 13 := ⟨TW_at 1787 (by decide +kernel) (by decide +kernel), mmX13_holding⟩
theorem mlX13_405 : ML RX13 405 yX13_held mX13_held 0 13 := ⟨TW_at 1791 (by decide +kernel) (by decide +kernel), mmX13_held⟩
theorem mlL_61 : ML RL 61 yX13_strongest mX13_strongest 1 13 := ⟨TW_at 1795 (by decide +kernel) (by decide +kernel), mmX13_strongest⟩
theorem mlL_66 : ML RL 66 yX13_bears mX13_bears 3 13 := ⟨TW_at 1799 (by decide +kernel) (by decide +kernel), mmX13_bears⟩
theorem mlX13_408 : ML RX13 408 yX13_areTwo mX13_areTwo 2 13 := ⟨TW_at 1803 (by decide +kernel) (by decide +kernel), mmX13_areTwo⟩
theorem mlX13_411 : ML RX13 411 yX13_borneBetween mX13_borneBetween 3 13 := ⟨TW_at 1807 (by decide +kernel) (by decide +kernel), mmX13_borneBetween⟩
theorem kcX13_385 : Cond.constant RX13 385 (99999) ∈ TW := TW_at 1811 (by decide +kernel) (by decide +kernel)
theorem mlX13_386 : ML RX13 386 yX13_crossing mX13_crossing 2 13 := ⟨TW_at 1812 (by decide +kernel) (by decide +kernel), mmX13_crossing⟩
theorem mlX13_382 : ML RX13 382 yX13_isCrossing mX13_isCrossing 2 13 := ⟨TW_at 1816 (by decide +kernel) (by decide +kernel), mmX13_isCrossing⟩
theorem mlL_70 : ML RL 70 yX13_cut mX13_cut 3 13 := ⟨TW_at 1820 (by decide +kernel) (by decide +kernel), mmX13_cut⟩
theorem slX13_415 : SL RX13 415 yX13_bits mX13_bits 1 := ⟨Or.inl (TW_at 1824 (by decide +kernel) (by decide +kernel)), ssX13_bits⟩
theorem mlL_74 : ML RL 74 yX13_vital mX13_vital 3 13 := ⟨TW_at 1827 (by decide +kernel) (by decide +kernel), mmX13_vital⟩
theorem mlL_78 : ML RL 78 yX13_needed mX13_needed 3 13 := ⟨TW_at 1831 (by decide +kernel) (by decide +kernel), mmX13_needed⟩
theorem mlL_82 : ML RL 82 yX13_weakest mX13_weakest 1 13 := ⟨TW_at 1835 (by decide +kernel) (by decide +kernel), mmX13_weakest⟩
theorem mlL_86 : ML RL 86 yX13_apart mX13_apart 3 13 := ⟨TW_at 1839 (by decide +kernel) (by decide +kernel), mmX13_apart⟩
theorem mlL_90 : ML RL 90 yX13_parts mX13_parts 1 13 := ⟨TW_at 1843 (by decide +kernel) (by decide +kernel), mmX13_parts⟩
theorem mlX13_418 : ML RX13 418 yX13_partsBut mX13_partsBut 1 13 := ⟨TW_at 1847 (by decide +kernel) (by decide +kernel), mmX13_partsBut⟩
theorem mlX13_389 : ML RX13 389 yX13_together mX13_together 2 13 := ⟨TW_at 1851 (by decide +kernel) (by decide +kernel), mmX13_together⟩
theorem mlL_94 : ML RL 94 yX13_bridges mX13_bridges 1 13 := ⟨TW_at 1855 (by decide +kernel) (by decide +kernel), mmX13_bridges⟩
theorem mlL_98 : ML RL 98 yX13_borne mX13_borne 1 13 := ⟨TW_at 1859 (by decide +kernel) (by decide +kernel), mmX13_borne⟩
theorem mlX13_421 : ML RX13 421 yX13_borneAll mX13_borneAll 0 13 := ⟨TW_at 1863 (by decide +kernel) (by decide +kernel), mmX13_borneAll⟩
theorem mlL_102 : ML RL 102 yX13_fallsIn mX13_fallsIn 1 13 := ⟨TW_at 1867 (by decide +kernel) (by decide +kernel), mmX13_fallsIn⟩
theorem mlX13_424 : ML RX13 424 yX13_isLoad mX13_isLoad 1 13 := ⟨TW_at 1871 (by decide +kernel) (by decide +kernel), mmX13_isLoad⟩
theorem mlL_106 : ML RL 106 yX13_spare mX13_spare 1 13 := ⟨TW_at 1875 (by decide +kernel) (by decide +kernel), mmX13_spare⟩
theorem mlX13_427 : ML RX13 427 yX13_lost mX13_lost 2 13 := ⟨TW_at 1879 (by decide +kernel) (by decide +kernel), mmX13_lost⟩
theorem mlL_110 : ML RL 110 yX13_mend mX13_mend 0 13 := ⟨TW_at 1883 (by decide +kernel) (by decide +kernel), mmX13_mend⟩
theorem mlX13_436 : ML RX13 436 yX13_mending mX13_mending 0 13 := ⟨TW_at 1887 (by decide +kernel) (by decide +kernel), mmX13_mending⟩
theorem mlX13_430 : ML RX13 430 yX13_costOf mX13_costOf 1 13 := ⟨TW_at 1891 (by decide +kernel) (by decide +kernel), mmX13_costOf⟩
theorem mlX13_433 : ML RX13 433 yX13_laysOffers mX13_laysOffers 1 13 := ⟨TW_at 1895 (by decide +kernel) (by decide +kernel), mmX13_laysOffers⟩
theorem mlL_114 : ML RL 114 yX13_mendCost mX13_mendCost 0 13 := ⟨TW_at 1899 (by decide +kernel) (by decide +kernel), mmX13_mendCost⟩
theorem mlL_118 : ML RL 118 yX13_bestOffer mX13_bestOffer 0 13 := ⟨TW_at 1903 (by decide +kernel) (by decide +kernel), mmX13_bestOffer⟩
theorem mlL_122 : ML RL 122 yX13_clashes mX13_clashes 1 13 := ⟨TW_at 1907 (by decide +kernel) (by decide +kernel), mmX13_clashes⟩
theorem mlX13_439 : ML RX13 439 yX13_clashing mX13_clashing 1 13 := ⟨TW_at 1911 (by decide +kernel) (by decide +kernel), mmX13_clashing⟩
theorem mlL_126 : ML RL 126 yX13_breakFew mX13_breakFew 0 13 := ⟨TW_at 1915 (by decide +kernel) (by decide +kernel), mmX13_breakFew⟩
theorem mlX13_445 : ML RX13 445 yX13_breaking mX13_breaking 1 13 := ⟨TW_at 1919 (by decide +kernel) (by decide +kernel), mmX13_breaking⟩
theorem mlX13_442 : ML RX13 442 yX13_strengthOf mX13_strengthOf 1 13 := ⟨TW_at 1923 (by decide +kernel) (by decide +kernel), mmX13_strengthOf⟩
theorem mlL_130 : ML RL 130 yX13_breakRued mX13_breakRued 0 13 := ⟨TW_at 1927 (by decide +kernel) (by decide +kernel), mmX13_breakRued⟩
theorem mlL_134 : ML RL 134 yX13_rue mX13_rue 0 13 := ⟨TW_at 1931 (by decide +kernel) (by decide +kernel), mmX13_rue⟩
theorem mlL_138 : ML RL 138 yX13_peaces mX13_peaces 0 13 := ⟨TW_at 1935 (by decide +kernel) (by decide +kernel), mmX13_peaces⟩
theorem mlL_142 : ML RL 142 yX13_fits mX13_fits 0 13 := ⟨TW_at 1939 (by decide +kernel) (by decide +kernel), mmX13_fits⟩
theorem mlX13_465 : ML RX13 465 yX13_fitting mX13_fitting 1 13 := ⟨TW_at 1943 (by decide +kernel) (by decide +kernel), mmX13_fitting⟩
theorem mlX13_458 : ML RX13 458 yX13_sets mX13_sets 0 13 := ⟨TW_at 1947 (by decide +kernel) (by decide +kernel), mmX13_sets⟩
theorem mlX13_461 : ML RX13 461 yX13_weightOf mX13_weightOf 1 13 := ⟨TW_at 1951 (by decide +kernel) (by decide +kernel), mmX13_weightOf⟩
theorem mlX13_452 : ML RX13 452 yX13_isRight mX13_isRight 2 13 := ⟨TW_at 1955 (by decide +kernel) (by decide +kernel), mmX13_isRight⟩
theorem mlX13_449 : ML RX13 449 yX13_isLied mX13_isLied 2 13 := ⟨TW_at 1959 (by decide +kernel) (by decide +kernel), mmX13_isLied⟩
theorem mlL_146 : ML RL 146 yX13_fitAt mX13_fitAt 1 13 := ⟨TW_at 1963 (by decide +kernel) (by decide +kernel), mmX13_fitAt⟩
theorem mlL_151 : ML RL 151 yX13_odds mX13_odds 2 13 := ⟨TW_at 1967 (by decide +kernel) (by decide +kernel), mmX13_odds⟩
theorem mlX13_468 : ML RX13 468 yX13_fraction mX13_fraction 3 13 := ⟨TW_at 1971 (by decide +kernel) (by decide +kernel), mmX13_fraction⟩
theorem slX13_59 : SL RX13 59 yX13_common mX13_common 2 := ⟨Or.inl (TW_at 1975 (by decide +kernel) (by decide +kernel)), ssX13_common⟩
theorem mlL_155 : ML RL 155 yX13_likeliest mX13_likeliest 0 13 := ⟨TW_at 1978 (by decide +kernel) (by decide +kernel), mmX13_likeliest⟩
theorem mlL_159 : ML RL 159 yX13_test mX13_test 0 13 := ⟨TW_at 1982 (by decide +kernel) (by decide +kernel), mmX13_test⟩
theorem mlX13_475 : ML RX13 475 yX13_tests mX13_tests 0 13 := ⟨TW_at 1986 (by decide +kernel) (by decide +kernel), mmX13_tests⟩
theorem mlL_163 : ML RL 163 yX13_testLeaves mX13_testLeaves 0 13 := ⟨TW_at 1990 (by decide +kernel) (by decide +kernel), mmX13_testLeaves⟩
theorem mlL_168 : ML RL 168 yX13_brown mX13_brown 3 13 := ⟨TW_at 1994 (by decide +kernel) (by decide +kernel), mmX13_brown⟩
theorem mlX13_478 : ML RX13 478 yX13_isLiedNow mX13_isLiedNow 2 13 := ⟨TW_at 1998 (by decide +kernel) (by decide +kernel), mmX13_isLiedNow⟩
theorem mlL_172 : ML RL 172 yX13_judge mX13_judge 0 13 := ⟨TW_at 2002 (by decide +kernel) (by decide +kernel), mmX13_judge⟩
theorem mlL_176 : ML RL 176 yX13_snaps mX13_snaps 2 13 := ⟨TW_at 2006 (by decide +kernel) (by decide +kernel), mmX13_snaps⟩
theorem mlX13_481 : ML RX13 481 yX13_snapping mX13_snapping 2 13 := ⟨TW_at 2010 (by decide +kernel) (by decide +kernel), mmX13_snapping⟩
theorem mlL_180 : ML RL 180 yX13_snapsBy mX13_snapsBy 2 13 := ⟨TW_at 2014 (by decide +kernel) (by decide +kernel), mmX13_snapsBy⟩
theorem mlL_185 : ML RL 185 yX13_blows mX13_blows 4 13 := ⟨TW_at 2018 (by decide +kernel) (by decide +kernel), mmX13_blows⟩
theorem mlX13_484 : ML RX13 484 yX13_refusesWeb mX13_refusesWeb 1 13 := ⟨TW_at 2022 (by decide +kernel) (by decide +kernel), mmX13_refusesWeb⟩
theorem slX13_487 : SL RX13 487 yX13_blown mX13_blown 3 := ⟨Or.inl (TW_at 2026 (by decide +kernel) (by decide +kernel)), ssX13_blown⟩
theorem mlL_189 : ML RL 189 yX13_rests mX13_rests 1 13 := ⟨TW_at 2029 (by decide +kernel) (by decide +kernel), mmX13_rests⟩
theorem slX13_491 : SL RX13 491 yX13_isRest mX13_isRest 2 := ⟨Or.inl (TW_at 2033 (by decide +kernel) (by decide +kernel)), ssX13_isRest⟩
theorem mlL_193 : ML RL 193 yX13_rest mX13_rest 1 13 := ⟨TW_at 2036 (by decide +kernel) (by decide +kernel), mmX13_rest⟩
theorem mlL_198 : ML RL 198 yX13_bearOdds mX13_bearOdds 4 13 := ⟨TW_at 2040 (by decide +kernel) (by decide +kernel), mmX13_bearOdds⟩
theorem mlX13_499 : ML RX13 499 yX13_partOf mX13_partOf 2 13 := ⟨TW_at 2044 (by decide +kernel) (by decide +kernel), mmX13_partOf⟩
theorem kcX13_497 : Cond.constantLong RX13 497 (100) ∈ TW := TW_at 2048 (by decide +kernel) (by decide +kernel)
theorem mlL_202 : ML RL 202 yX13_mean mX13_mean 3 13 := ⟨TW_at 2049 (by decide +kernel) (by decide +kernel), mmX13_mean⟩
theorem mlL_206 : ML RL 206 yX13_years mX13_years 2 13 := ⟨TW_at 2053 (by decide +kernel) (by decide +kernel), mmX13_years⟩
theorem mlX13_513 : ML RX13 513 yX13_refusesSeed mX13_refusesSeed 3 13 := ⟨TW_at 2057 (by decide +kernel) (by decide +kernel), mmX13_refusesSeed⟩
theorem kcX13_512 : Cond.constant RX13 512 (65536) ∈ TW := TW_at 2061 (by decide +kernel) (by decide +kernel)
theorem mlX13_517 : ML RX13 517 yX13_clerksYear mX13_clerksYear 0 13 := ⟨TW_at 2062 (by decide +kernel) (by decide +kernel), mmX13_clerksYear⟩
theorem kcX13_503 : Cond.constantLong RX13 503 (75) ∈ TW := TW_at 2066 (by decide +kernel) (by decide +kernel)
theorem kcX13_508 : Cond.constantLong RX13 508 (74) ∈ TW := TW_at 2067 (by decide +kernel) (by decide +kernel)
theorem kcX13_510 : Cond.constantLong RX13 510 (65537) ∈ TW := TW_at 2068 (by decide +kernel) (by decide +kernel)
theorem mlL_210 : ML RL 210 yX13_fallsBy mX13_fallsBy 3 13 := ⟨TW_at 2069 (by decide +kernel) (by decide +kernel), mmX13_fallsBy⟩
theorem mlL_214 : ML RL 214 yX13_year mX13_year 0 13 := ⟨TW_at 2073 (by decide +kernel) (by decide +kernel), mmX13_year⟩
theorem mlX13_520 : ML RX13 520 yX13_remembers mX13_remembers 0 13 := ⟨TW_at 2077 (by decide +kernel) (by decide +kernel), mmX13_remembers⟩
theorem mlL_219 : ML RL 219 yX13_snap mX13_snap 1 13 := ⟨TW_at 2081 (by decide +kernel) (by decide +kernel), mmX13_snap⟩
theorem mlX13_523 : ML RX13 523 yX13_denied mX13_denied 1 13 := ⟨TW_at 2085 (by decide +kernel) (by decide +kernel), mmX13_denied⟩
theorem mlX13_526 : ML RX13 526 yX13_granted mX13_granted 0 13 := ⟨TW_at 2089 (by decide +kernel) (by decide +kernel), mmX13_granted⟩
theorem mlL_223 : ML RL 223 yX13_spin mX13_spin 1 13 := ⟨TW_at 2093 (by decide +kernel) (by decide +kernel), mmX13_spin⟩
theorem mlL_227 : ML RL 227 yX13_darn mX13_darn 1 13 := ⟨TW_at 2097 (by decide +kernel) (by decide +kernel), mmX13_darn⟩
theorem mlL_232 : ML RL 232 yX13_undo mX13_undo 0 13 := ⟨TW_at 2101 (by decide +kernel) (by decide +kernel), mmX13_undo⟩
theorem mlL_236 : ML RL 236 yX13_image mX13_image 0 13 := ⟨TW_at 2105 (by decide +kernel) (by decide +kernel), mmX13_image⟩
theorem mlL_240 : ML RL 240 yX13_back mX13_back 1 13 := ⟨TW_at 2109 (by decide +kernel) (by decide +kernel), mmX13_back⟩
theorem mlL_246 : ML RL 246 yX13_led mX13_led 1 13 := ⟨TW_at 2113 (by decide +kernel) (by decide +kernel), mmX13_led⟩
theorem mlL_253 : ML RL 253 yX13_size mX13_size 1 13 := ⟨TW_at 2117 (by decide +kernel) (by decide +kernel), mmX13_size⟩
theorem mlL_257 : ML RL 257 yX13_trouble mX13_trouble 0 13 := ⟨TW_at 2121 (by decide +kernel) (by decide +kernel), mmX13_trouble⟩
end
