theorem dX12_init_0 : decode cX12_init 0 = .ok (.aload_n 0, 1) := by decide +kernel
theorem dX12_init_1 : decode cX12_init 1 = .ok (.invokespecial 3, 3) := by decide +kernel
theorem dX12_init_4 : decode cX12_init 4 = .ok (.aload_n 0, 1) := by decide +kernel
theorem dX12_init_5 : decode cX12_init 5 = .ok (.iconst (-1), 1) := by decide +kernel
theorem dX12_init_6 : decode cX12_init 6 = .ok (.putfield 9, 3) := by decide +kernel
theorem dX12_init_9 : decode cX12_init 9 = .ok (.aload_n 0, 1) := by decide +kernel
theorem dX12_init_10 : decode cX12_init 10 = .ok (.bipush 7, 2) := by decide +kernel
theorem dX12_init_12 : decode cX12_init 12 = .ok (.newarray .int, 2) := by decide +kernel
theorem dX12_init_14 : decode cX12_init 14 = .ok (.putfield 15, 3) := by decide +kernel
theorem dX12_init_17 : decode cX12_init 17 = .ok (.aload_n 0, 1) := by decide +kernel
theorem dX12_init_18 : decode cX12_init 18 = .ok (.bipush 7, 2) := by decide +kernel
theorem dX12_init_20 : decode cX12_init 20 = .ok (.newarray .int, 2) := by decide +kernel
theorem dX12_init_22 : decode cX12_init 22 = .ok (.putfield 19, 3) := by decide +kernel
theorem dX12_init_25 : decode cX12_init 25 = .ok (.aload_n 0, 1) := by decide +kernel
theorem dX12_init_26 : decode cX12_init 26 = .ok (.bipush 7, 2) := by decide +kernel
theorem dX12_init_28 : decode cX12_init 28 = .ok (.newarray .int, 2) := by decide +kernel
theorem dX12_init_30 : decode cX12_init 30 = .ok (.putfield 22, 3) := by decide +kernel
theorem dX12_init_33 : decode cX12_init 33 = .ok (.aload_n 0, 1) := by decide +kernel
theorem dX12_init_34 : decode cX12_init 34 = .ok (.bipush 7, 2) := by decide +kernel
theorem dX12_init_36 : decode cX12_init 36 = .ok (.newarray .int, 2) := by decide +kernel
theorem dX12_init_38 : decode cX12_init 38 = .ok (.putfield 25, 3) := by decide +kernel
theorem dX12_init_41 : decode cX12_init 41 = .ok (.aload_n 0, 1) := by decide +kernel
theorem dX12_init_42 : decode cX12_init 42 = .ok (.bipush 7, 2) := by decide +kernel
theorem dX12_init_44 : decode cX12_init 44 = .ok (.newarray .int, 2) := by decide +kernel
theorem dX12_init_46 : decode cX12_init 46 = .ok (.putfield 28, 3) := by decide +kernel
theorem dX12_init_49 : decode cX12_init 49 = .ok (.aload_n 0, 1) := by decide +kernel
theorem dX12_init_50 : decode cX12_init 50 = .ok (.bipush 7, 2) := by decide +kernel
theorem dX12_init_52 : decode cX12_init 52 = .ok (.newarray .int, 2) := by decide +kernel
theorem dX12_init_54 : decode cX12_init 54 = .ok (.putfield 31, 3) := by decide +kernel
theorem dX12_init_57 : decode cX12_init 57 = .ok (.aload_n 0, 1) := by decide +kernel
theorem dX12_init_58 : decode cX12_init 58 = .ok (.iconst 4, 1) := by decide +kernel
theorem dX12_init_59 : decode cX12_init 59 = .ok (.newarray .int, 2) := by decide +kernel
theorem dX12_init_61 : decode cX12_init 61 = .ok (.putfield 34, 3) := by decide +kernel
theorem dX12_init_64 : decode cX12_init 64 = .ok (.aload_n 0, 1) := by decide +kernel
theorem dX12_init_65 : decode cX12_init 65 = .ok (.iconst 4, 1) := by decide +kernel
theorem dX12_init_66 : decode cX12_init 66 = .ok (.newarray .int, 2) := by decide +kernel
theorem dX12_init_68 : decode cX12_init 68 = .ok (.putfield 37, 3) := by decide +kernel
theorem dX12_init_71 : decode cX12_init 71 = .ok (.aload_n 0, 1) := by decide +kernel
theorem dX12_init_72 : decode cX12_init 72 = .ok (.iconst 4, 1) := by decide +kernel
theorem dX12_init_73 : decode cX12_init 73 = .ok (.newarray .int, 2) := by decide +kernel
theorem dX12_init_75 : decode cX12_init 75 = .ok (.putfield 40, 3) := by decide +kernel
theorem dX12_init_78 : decode cX12_init 78 = .ok (.aload_n 0, 1) := by decide +kernel
theorem dX12_init_79 : decode cX12_init 79 = .ok (.iconst 5, 1) := by decide +kernel
theorem dX12_init_80 : decode cX12_init 80 = .ok (.newarray .int, 2) := by decide +kernel
theorem dX12_init_82 : decode cX12_init 82 = .ok (.putfield 43, 3) := by decide +kernel
theorem dX12_init_85 : decode cX12_init 85 = .ok (.aload_n 0, 1) := by decide +kernel
theorem dX12_init_86 : decode cX12_init 86 = .ok (.iconst 5, 1) := by decide +kernel
theorem dX12_init_87 : decode cX12_init 87 = .ok (.newarray .int, 2) := by decide +kernel
theorem dX12_init_89 : decode cX12_init 89 = .ok (.putfield 46, 3) := by decide +kernel
theorem dX12_init_92 : decode cX12_init 92 = .ok (.aload_n 0, 1) := by decide +kernel
theorem dX12_init_93 : decode cX12_init 93 = .ok (.iconst 5, 1) := by decide +kernel
theorem dX12_init_94 : decode cX12_init 94 = .ok (.newarray .int, 2) := by decide +kernel
theorem dX12_init_96 : decode cX12_init 96 = .ok (.putfield 49, 3) := by decide +kernel
theorem dX12_init_99 : decode cX12_init 99 = .ok (.aload_n 0, 1) := by decide +kernel
theorem dX12_init_100 : decode cX12_init 100 = .ok (.iconst 5, 1) := by decide +kernel
theorem dX12_init_101 : decode cX12_init 101 = .ok (.newarray .int, 2) := by decide +kernel
theorem dX12_init_103 : decode cX12_init 103 = .ok (.putfield 52, 3) := by decide +kernel
theorem dX12_init_106 : decode cX12_init 106 = .ok (.aload_n 0, 1) := by decide +kernel
theorem dX12_init_107 : decode cX12_init 107 = .ok (.bipush 8, 2) := by decide +kernel
theorem dX12_init_109 : decode cX12_init 109 = .ok (.newarray .int, 2) := by decide +kernel
theorem dX12_init_111 : decode cX12_init 111 = .ok (.putfield 55, 3) := by decide +kernel
theorem dX12_init_114 : decode cX12_init 114 = .ok (.aload_n 0, 1) := by decide +kernel
theorem dX12_init_115 : decode cX12_init 115 = .ok (.bipush 8, 2) := by decide +kernel
theorem dX12_init_117 : decode cX12_init 117 = .ok (.newarray .int, 2) := by decide +kernel
theorem dX12_init_119 : decode cX12_init 119 = .ok (.putfield 58, 3) := by decide +kernel
theorem dX12_init_122 : decode cX12_init 122 = .ok (.aload_n 0, 1) := by decide +kernel
theorem dX12_init_123 : decode cX12_init 123 = .ok (.iconst 5, 1) := by decide +kernel
theorem dX12_init_124 : decode cX12_init 124 = .ok (.newarray .int, 2) := by decide +kernel
theorem dX12_init_126 : decode cX12_init 126 = .ok (.putfield 61, 3) := by decide +kernel
theorem dX12_init_129 : decode cX12_init 129 = .ok (.aload_n 0, 1) := by decide +kernel
theorem dX12_init_130 : decode cX12_init 130 = .ok (.bipush 6, 2) := by decide +kernel
theorem dX12_init_132 : decode cX12_init 132 = .ok (.newarray .int, 2) := by decide +kernel
theorem dX12_init_134 : decode cX12_init 134 = .ok (.putfield 64, 3) := by decide +kernel
theorem dX12_init_137 : decode cX12_init 137 = .ok (.aload_n 0, 1) := by decide +kernel
theorem dX12_init_138 : decode cX12_init 138 = .ok (.bipush 6, 2) := by decide +kernel
theorem dX12_init_140 : decode cX12_init 140 = .ok (.newarray .int, 2) := by decide +kernel
theorem dX12_init_142 : decode cX12_init 142 = .ok (.putfield 67, 3) := by decide +kernel
theorem dX12_init_145 : decode cX12_init 145 = .ok (.aload_n 0, 1) := by decide +kernel
theorem dX12_init_146 : decode cX12_init 146 = .ok (.bipush 14, 2) := by decide +kernel
theorem dX12_init_148 : decode cX12_init 148 = .ok (.newarray .long, 2) := by decide +kernel
theorem dX12_init_150 : decode cX12_init 150 = .ok (.putfield 70, 3) := by decide +kernel
theorem dX12_init_153 : decode cX12_init 153 = .ok (.aload_n 0, 1) := by decide +kernel
theorem dX12_init_154 : decode cX12_init 154 = .ok (.bipush 14, 2) := by decide +kernel
theorem dX12_init_156 : decode cX12_init 156 = .ok (.newarray .int, 2) := by decide +kernel
theorem dX12_init_158 : decode cX12_init 158 = .ok (.putfield 74, 3) := by decide +kernel
theorem dX12_init_161 : decode cX12_init 161 = .ok (.aload_n 0, 1) := by decide +kernel
theorem dX12_init_162 : decode cX12_init 162 = .ok (.bipush 14, 2) := by decide +kernel
theorem dX12_init_164 : decode cX12_init 164 = .ok (.newarray .int, 2) := by decide +kernel
theorem dX12_init_166 : decode cX12_init 166 = .ok (.putfield 77, 3) := by decide +kernel
theorem dX12_init_169 : decode cX12_init 169 = .ok (.return_, 1) := by decide +kernel
theorem dX12_find_0 : decode cX12_find 0 = .ok (.iconst 0, 1) := by decide +kernel
theorem dX12_find_1 : decode cX12_find 1 = .ok (.istore_n 3, 1) := by decide +kernel
theorem dX12_find_2 : decode cX12_find 2 = .ok (.iload_n 3, 1) := by decide +kernel
theorem dX12_find_3 : decode cX12_find 3 = .ok (.aload_n 0, 1) := by decide +kernel
theorem dX12_find_4 : decode cX12_find 4 = .ok (.getfield 80, 3) := by decide +kernel
theorem dX12_find_7 : decode cX12_find 7 = .ok (.if_icmp .ge 22, 3) := by decide +kernel
theorem dX12_find_10 : decode cX12_find 10 = .ok (.aload_n 0, 1) := by decide +kernel
theorem dX12_find_11 : decode cX12_find 11 = .ok (.getfield 70, 3) := by decide +kernel
theorem dX12_find_14 : decode cX12_find 14 = .ok (.iload_n 3, 1) := by decide +kernel
theorem dX12_find_15 : decode cX12_find 15 = .ok (.laload, 1) := by decide +kernel
theorem dX12_find_16 : decode cX12_find 16 = .ok (.lload_n 1, 1) := by decide +kernel
theorem dX12_find_17 : decode cX12_find 17 = .ok (.lcmp, 1) := by decide +kernel
theorem dX12_find_18 : decode cX12_find 18 = .ok (.ifCond .ne 5, 3) := by decide +kernel
theorem dX12_find_21 : decode cX12_find 21 = .ok (.iload_n 3, 1) := by decide +kernel
theorem dX12_find_22 : decode cX12_find 22 = .ok (.ireturn, 1) := by decide +kernel
theorem dX12_find_23 : decode cX12_find 23 = .ok (.iinc 3 1, 3) := by decide +kernel
theorem dX12_find_26 : decode cX12_find 26 = .ok (.goto (-24), 3) := by decide +kernel
theorem dX12_find_29 : decode cX12_find 29 = .ok (.iconst (-1), 1) := by decide +kernel
theorem dX12_find_30 : decode cX12_find 30 = .ok (.ireturn, 1) := by decide +kernel
theorem dX12_unsureOf_0 : decode cX12_unsureOf 0 = .ok (.iconst 0, 1) := by decide +kernel
theorem dX12_unsureOf_1 : decode cX12_unsureOf 1 = .ok (.istore_n 2, 1) := by decide +kernel
theorem dX12_unsureOf_2 : decode cX12_unsureOf 2 = .ok (.iload_n 2, 1) := by decide +kernel
theorem dX12_unsureOf_3 : decode cX12_unsureOf 3 = .ok (.aload_n 0, 1) := by decide +kernel
theorem dX12_unsureOf_4 : decode cX12_unsureOf 4 = .ok (.getfield 83, 3) := by decide +kernel
theorem dX12_unsureOf_7 : decode cX12_unsureOf 7 = .ok (.if_icmp .ge 21, 3) := by decide +kernel
theorem dX12_unsureOf_10 : decode cX12_unsureOf 10 = .ok (.aload_n 0, 1) := by decide +kernel
theorem dX12_unsureOf_11 : decode cX12_unsureOf 11 = .ok (.getfield 61, 3) := by decide +kernel
theorem dX12_unsureOf_14 : decode cX12_unsureOf 14 = .ok (.iload_n 2, 1) := by decide +kernel
theorem dX12_unsureOf_15 : decode cX12_unsureOf 15 = .ok (.iaload, 1) := by decide +kernel
theorem dX12_unsureOf_16 : decode cX12_unsureOf 16 = .ok (.iload_n 1, 1) := by decide +kernel
theorem dX12_unsureOf_17 : decode cX12_unsureOf 17 = .ok (.if_icmp .ne 5, 3) := by decide +kernel
theorem dX12_unsureOf_20 : decode cX12_unsureOf 20 = .ok (.iload_n 2, 1) := by decide +kernel
theorem dX12_unsureOf_21 : decode cX12_unsureOf 21 = .ok (.ireturn, 1) := by decide +kernel
theorem dX12_unsureOf_22 : decode cX12_unsureOf 22 = .ok (.iinc 2 1, 3) := by decide +kernel
theorem dX12_unsureOf_25 : decode cX12_unsureOf 25 = .ok (.goto (-23), 3) := by decide +kernel
theorem dX12_unsureOf_28 : decode cX12_unsureOf 28 = .ok (.iconst (-1), 1) := by decide +kernel
theorem dX12_unsureOf_29 : decode cX12_unsureOf 29 = .ok (.ireturn, 1) := by decide +kernel
theorem dX13_init_0 : decode cX13_init 0 = .ok (.aload_n 0, 1) := by decide +kernel
theorem dX13_init_1 : decode cX13_init 1 = .ok (.invokespecial 3, 3) := by decide +kernel
theorem dX13_init_4 : decode cX13_init 4 = .ok (.aload_n 0, 1) := by decide +kernel
theorem dX13_init_5 : decode cX13_init 5 = .ok (.iconst (-1), 1) := by decide +kernel
theorem dX13_init_6 : decode cX13_init 6 = .ok (.putfield 9, 3) := by decide +kernel
theorem dX13_init_9 : decode cX13_init 9 = .ok (.aload_n 0, 1) := by decide +kernel
theorem dX13_init_10 : decode cX13_init 10 = .ok (.sipush 900, 3) := by decide +kernel
theorem dX13_init_13 : decode cX13_init 13 = .ok (.newarray .byte, 2) := by decide +kernel
theorem dX13_init_15 : decode cX13_init 15 = .ok (.putfield 13, 3) := by decide +kernel
theorem dX13_init_18 : decode cX13_init 18 = .ok (.aload_n 0, 1) := by decide +kernel
theorem dX13_init_19 : decode cX13_init 19 = .ok (.bipush 26, 2) := by decide +kernel
theorem dX13_init_21 : decode cX13_init 21 = .ok (.newarray .int, 2) := by decide +kernel
theorem dX13_init_23 : decode cX13_init 23 = .ok (.putfield 17, 3) := by decide +kernel
theorem dX13_init_26 : decode cX13_init 26 = .ok (.aload_n 0, 1) := by decide +kernel
theorem dX13_init_27 : decode cX13_init 27 = .ok (.bipush 26, 2) := by decide +kernel
theorem dX13_init_29 : decode cX13_init 29 = .ok (.newarray .int, 2) := by decide +kernel
theorem dX13_init_31 : decode cX13_init 31 = .ok (.putfield 21, 3) := by decide +kernel
theorem dX13_init_34 : decode cX13_init 34 = .ok (.aload_n 0, 1) := by decide +kernel
theorem dX13_init_35 : decode cX13_init 35 = .ok (.sipush 416, 3) := by decide +kernel
theorem dX13_init_38 : decode cX13_init 38 = .ok (.newarray .int, 2) := by decide +kernel
theorem dX13_init_40 : decode cX13_init 40 = .ok (.putfield 24, 3) := by decide +kernel
theorem dX13_init_43 : decode cX13_init 43 = .ok (.aload_n 0, 1) := by decide +kernel
theorem dX13_init_44 : decode cX13_init 44 = .ok (.bipush 78, 2) := by decide +kernel
theorem dX13_init_46 : decode cX13_init 46 = .ok (.newarray .int, 2) := by decide +kernel
theorem dX13_init_48 : decode cX13_init 48 = .ok (.putfield 27, 3) := by decide +kernel
theorem dX13_init_51 : decode cX13_init 51 = .ok (.aload_n 0, 1) := by decide +kernel
theorem dX13_init_52 : decode cX13_init 52 = .ok (.bipush 13, 2) := by decide +kernel
theorem dX13_init_54 : decode cX13_init 54 = .ok (.newarray .int, 2) := by decide +kernel
theorem dX13_init_56 : decode cX13_init 56 = .ok (.putfield 30, 3) := by decide +kernel
theorem dX13_init_59 : decode cX13_init 59 = .ok (.aload_n 0, 1) := by decide +kernel
theorem dX13_init_60 : decode cX13_init 60 = .ok (.bipush 13, 2) := by decide +kernel
theorem dX13_init_62 : decode cX13_init 62 = .ok (.newarray .int, 2) := by decide +kernel
theorem dX13_init_64 : decode cX13_init 64 = .ok (.putfield 33, 3) := by decide +kernel
theorem dX13_init_67 : decode cX13_init 67 = .ok (.aload_n 0, 1) := by decide +kernel
theorem dX13_init_68 : decode cX13_init 68 = .ok (.bipush 13, 2) := by decide +kernel
theorem dX13_init_70 : decode cX13_init 70 = .ok (.newarray .int, 2) := by decide +kernel
theorem dX13_init_72 : decode cX13_init 72 = .ok (.putfield 36, 3) := by decide +kernel
theorem dX13_init_75 : decode cX13_init 75 = .ok (.aload_n 0, 1) := by decide +kernel
theorem dX13_init_76 : decode cX13_init 76 = .ok (.iconst 5, 1) := by decide +kernel
theorem dX13_init_77 : decode cX13_init 77 = .ok (.newarray .int, 2) := by decide +kernel
theorem dX13_init_79 : decode cX13_init 79 = .ok (.putfield 39, 3) := by decide +kernel
theorem dX13_init_82 : decode cX13_init 82 = .ok (.aload_n 0, 1) := by decide +kernel
theorem dX13_init_83 : decode cX13_init 83 = .ok (.sipush 256, 3) := by decide +kernel
theorem dX13_init_86 : decode cX13_init 86 = .ok (.newarray .boolean, 2) := by decide +kernel
theorem dX13_init_88 : decode cX13_init 88 = .ok (.putfield 42, 3) := by decide +kernel
theorem dX13_init_91 : decode cX13_init 91 = .ok (.return_, 1) := by decide +kernel
theorem dX13_thrown_0 : decode cX13_thrown 0 = .ok (.aload_n 0, 1) := by decide +kernel
theorem dX13_thrown_1 : decode cX13_thrown 1 = .ok (.getfield 46, 3) := by decide +kernel
theorem dX13_thrown_4 : decode cX13_thrown 4 = .ok (.ireturn, 1) := by decide +kernel
theorem dX13_refused_0 : decode cX13_refused 0 = .ok (.aload_n 0, 1) := by decide +kernel
theorem dX13_refused_1 : decode cX13_refused 1 = .ok (.iload_n 1, 1) := by decide +kernel
theorem dX13_refused_2 : decode cX13_refused 2 = .ok (.putfield 49, 3) := by decide +kernel
theorem dX13_refused_5 : decode cX13_refused 5 = .ok (.aload_n 0, 1) := by decide +kernel
theorem dX13_refused_6 : decode cX13_refused 6 = .ok (.iconst (-1), 1) := by decide +kernel
theorem dX13_refused_7 : decode cX13_refused 7 = .ok (.putfield 9, 3) := by decide +kernel
theorem dX13_refused_10 : decode cX13_refused 10 = .ok (.iconst (-1), 1) := by decide +kernel
theorem dX13_refused_11 : decode cX13_refused 11 = .ok (.ireturn, 1) := by decide +kernel
theorem dX13_lost_0 : decode cX13_lost 0 = .ok (.aload_n 0, 1) := by decide +kernel
theorem dX13_lost_1 : decode cX13_lost 1 = .ok (.iload_n 1, 1) := by decide +kernel
theorem dX13_lost_2 : decode cX13_lost 2 = .ok (.invokevirtual 52, 3) := by decide +kernel
theorem dX13_lost_5 : decode cX13_lost 5 = .ok (.pop, 1) := by decide +kernel
theorem dX13_lost_6 : decode cX13_lost 6 = .ok (.iload_n 2, 1) := by decide +kernel
theorem dX13_lost_7 : decode cX13_lost 7 = .ok (.ireturn, 1) := by decide +kernel
theorem dX13_denied_0 : decode cX13_denied 0 = .ok (.aload_n 0, 1) := by decide +kernel
theorem dX13_denied_1 : decode cX13_denied 1 = .ok (.iload_n 1, 1) := by decide +kernel
theorem dX13_denied_2 : decode cX13_denied 2 = .ok (.invokevirtual 52, 3) := by decide +kernel
theorem dX13_denied_5 : decode cX13_denied 5 = .ok (.pop, 1) := by decide +kernel
theorem dX13_denied_6 : decode cX13_denied 6 = .ok (.iconst 0, 1) := by decide +kernel
theorem dX13_denied_7 : decode cX13_denied 7 = .ok (.ireturn, 1) := by decide +kernel
theorem dX13_good_0 : decode cX13_good 0 = .ok (.aload_n 0, 1) := by decide +kernel
theorem dX13_good_1 : decode cX13_good 1 = .ok (.iconst 0, 1) := by decide +kernel
theorem dX13_good_2 : decode cX13_good 2 = .ok (.putfield 49, 3) := by decide +kernel
theorem dX13_good_5 : decode cX13_good 5 = .ok (.aload_n 0, 1) := by decide +kernel
theorem dX13_good_6 : decode cX13_good 6 = .ok (.iconst (-1), 1) := by decide +kernel
theorem dX13_good_7 : decode cX13_good 7 = .ok (.putfield 9, 3) := by decide +kernel
theorem dX13_good_10 : decode cX13_good 10 = .ok (.iload_n 1, 1) := by decide +kernel
theorem dX13_good_11 : decode cX13_good 11 = .ok (.ireturn, 1) := by decide +kernel
theorem dX13_granted_0 : decode cX13_granted 0 = .ok (.aload_n 0, 1) := by decide +kernel
theorem dX13_granted_1 : decode cX13_granted 1 = .ok (.iconst 0, 1) := by decide +kernel
theorem dX13_granted_2 : decode cX13_granted 2 = .ok (.invokevirtual 56, 3) := by decide +kernel
theorem dX13_granted_5 : decode cX13_granted 5 = .ok (.pop, 1) := by decide +kernel
theorem dX13_granted_6 : decode cX13_granted 6 = .ok (.iconst 1, 1) := by decide +kernel
theorem dX13_granted_7 : decode cX13_granted 7 = .ok (.ireturn, 1) := by decide +kernel
theorem dX13_in_0 : decode cX13_in 0 = .ok (.iload_n 0, 1) := by decide +kernel
theorem dX13_in_1 : decode cX13_in 1 = .ok (.iload_n 1, 1) := by decide +kernel
theorem dX13_in_2 : decode cX13_in 2 = .ok (.if_icmp .lt 12, 3) := by decide +kernel
theorem dX13_in_5 : decode cX13_in 5 = .ok (.iload_n 0, 1) := by decide +kernel
theorem dX13_in_6 : decode cX13_in 6 = .ok (.iload_n 2, 1) := by decide +kernel
theorem dX13_in_7 : decode cX13_in 7 = .ok (.if_icmp .gt 7, 3) := by decide +kernel
theorem dX13_in_10 : decode cX13_in 10 = .ok (.iconst 1, 1) := by decide +kernel
theorem dX13_in_11 : decode cX13_in 11 = .ok (.goto 4, 3) := by decide +kernel
theorem dX13_in_14 : decode cX13_in 14 = .ok (.iconst 0, 1) := by decide +kernel
theorem dX13_in_15 : decode cX13_in 15 = .ok (.ireturn, 1) := by decide +kernel
theorem dX13_bit_0 : decode cX13_bit 0 = .ok (.iload_n 0, 1) := by decide +kernel
theorem dX13_bit_1 : decode cX13_bit 1 = .ok (.iload_n 1, 1) := by decide +kernel
theorem dX13_bit_2 : decode cX13_bit 2 = .ok (.ishr, 1) := by decide +kernel
theorem dX13_bit_3 : decode cX13_bit 3 = .ok (.iconst 1, 1) := by decide +kernel
theorem dX13_bit_4 : decode cX13_bit 4 = .ok (.iand, 1) := by decide +kernel
theorem dX13_bit_5 : decode cX13_bit 5 = .ok (.iconst 1, 1) := by decide +kernel
theorem dX13_bit_6 : decode cX13_bit 6 = .ok (.if_icmp .ne 7, 3) := by decide +kernel
theorem dX13_bit_9 : decode cX13_bit 9 = .ok (.iconst 1, 1) := by decide +kernel
theorem dX13_bit_10 : decode cX13_bit 10 = .ok (.goto 4, 3) := by decide +kernel
theorem dX13_bit_13 : decode cX13_bit 13 = .ok (.iconst 0, 1) := by decide +kernel
theorem dX13_bit_14 : decode cX13_bit 14 = .ok (.ireturn, 1) := by decide +kernel
theorem dX13_bits_0 : decode cX13_bits 0 = .ok (.iconst 0, 1) := by decide +kernel
theorem dX13_bits_1 : decode cX13_bits 1 = .ok (.istore_n 1, 1) := by decide +kernel
theorem dX13_bits_2 : decode cX13_bits 2 = .ok (.iload_n 0, 1) := by decide +kernel
theorem dX13_bits_3 : decode cX13_bits 3 = .ok (.istore_n 2, 1) := by decide +kernel
theorem dX13_bits_4 : decode cX13_bits 4 = .ok (.iload_n 2, 1) := by decide +kernel
theorem dX13_bits_5 : decode cX13_bits 5 = .ok (.ifCond .eq 15, 3) := by decide +kernel
theorem dX13_bits_8 : decode cX13_bits 8 = .ok (.iinc 1 1, 3) := by decide +kernel
theorem dX13_bits_11 : decode cX13_bits 11 = .ok (.iload_n 2, 1) := by decide +kernel
theorem dX13_bits_12 : decode cX13_bits 12 = .ok (.iload_n 2, 1) := by decide +kernel
theorem dX13_bits_13 : decode cX13_bits 13 = .ok (.iconst 1, 1) := by decide +kernel
theorem dX13_bits_14 : decode cX13_bits 14 = .ok (.isub, 1) := by decide +kernel
theorem dX13_bits_15 : decode cX13_bits 15 = .ok (.iand, 1) := by decide +kernel
theorem dX13_bits_16 : decode cX13_bits 16 = .ok (.istore_n 2, 1) := by decide +kernel
theorem dX13_bits_17 : decode cX13_bits 17 = .ok (.goto (-13), 3) := by decide +kernel
theorem dX13_bits_20 : decode cX13_bits 20 = .ok (.iload_n 1, 1) := by decide +kernel
theorem dX13_bits_21 : decode cX13_bits 21 = .ok (.ireturn, 1) := by decide +kernel
theorem dX13_common_0 : decode cX13_common 0 = .ok (.lload_n 0, 1) := by decide +kernel
theorem dX13_common_1 : decode cX13_common 1 = .ok (.lstore 4, 2) := by decide +kernel
theorem dX13_common_3 : decode cX13_common 3 = .ok (.lload_n 2, 1) := by decide +kernel
theorem dX13_common_4 : decode cX13_common 4 = .ok (.lstore 6, 2) := by decide +kernel
theorem dX13_common_6 : decode cX13_common 6 = .ok (.lload 6, 2) := by decide +kernel
theorem dX13_common_8 : decode cX13_common 8 = .ok (.lconst 0, 1) := by decide +kernel
theorem dX13_common_9 : decode cX13_common 9 = .ok (.lcmp, 1) := by decide +kernel
theorem dX13_common_10 : decode cX13_common 10 = .ok (.ifCond .eq 21, 3) := by decide +kernel
theorem dX13_common_13 : decode cX13_common 13 = .ok (.lload 4, 2) := by decide +kernel
theorem dX13_common_15 : decode cX13_common 15 = .ok (.lload 6, 2) := by decide +kernel
theorem dX13_common_17 : decode cX13_common 17 = .ok (.lrem, 1) := by decide +kernel
theorem dX13_common_18 : decode cX13_common 18 = .ok (.lstore 8, 2) := by decide +kernel
theorem dX13_common_20 : decode cX13_common 20 = .ok (.lload 6, 2) := by decide +kernel
theorem dX13_common_22 : decode cX13_common 22 = .ok (.lstore 4, 2) := by decide +kernel
theorem dX13_common_24 : decode cX13_common 24 = .ok (.lload 8, 2) := by decide +kernel
theorem dX13_common_26 : decode cX13_common 26 = .ok (.lstore 6, 2) := by decide +kernel
theorem dX13_common_28 : decode cX13_common 28 = .ok (.goto (-22), 3) := by decide +kernel
theorem dX13_common_31 : decode cX13_common 31 = .ok (.lload 4, 2) := by decide +kernel
theorem dX13_common_33 : decode cX13_common 33 = .ok (.lreturn, 1) := by decide +kernel
theorem dX13_fraction_0 : decode cX13_fraction 0 = .ok (.aload_n 0, 1) := by decide +kernel
theorem dX13_fraction_1 : decode cX13_fraction 1 = .ok (.iconst 0, 1) := by decide +kernel
theorem dX13_fraction_2 : decode cX13_fraction 2 = .ok (.invokevirtual 56, 3) := by decide +kernel
theorem dX13_fraction_5 : decode cX13_fraction 5 = .ok (.pop, 1) := by decide +kernel
theorem dX13_fraction_6 : decode cX13_fraction 6 = .ok (.lload_n 3, 1) := by decide +kernel
theorem dX13_fraction_7 : decode cX13_fraction 7 = .ok (.lconst 0, 1) := by decide +kernel
theorem dX13_fraction_8 : decode cX13_fraction 8 = .ok (.lcmp, 1) := by decide +kernel
theorem dX13_fraction_9 : decode cX13_fraction 9 = .ok (.ifCond .ne 14, 3) := by decide +kernel
theorem dX13_fraction_12 : decode cX13_fraction 12 = .ok (.iload 5, 2) := by decide +kernel
theorem dX13_fraction_14 : decode cX13_fraction 14 = .ok (.ifCond .eq 7, 3) := by decide +kernel
theorem dX13_fraction_17 : decode cX13_fraction 17 = .ok (.lconst 1, 1) := by decide +kernel
theorem dX13_fraction_18 : decode cX13_fraction 18 = .ok (.goto 4, 3) := by decide +kernel
theorem dX13_fraction_21 : decode cX13_fraction 21 = .ok (.lconst 0, 1) := by decide +kernel
theorem dX13_fraction_22 : decode cX13_fraction 22 = .ok (.lreturn, 1) := by decide +kernel
theorem dX13_fraction_23 : decode cX13_fraction 23 = .ok (.iload 5, 2) := by decide +kernel
theorem dX13_fraction_25 : decode cX13_fraction 25 = .ok (.ifCond .eq 7, 3) := by decide +kernel
theorem dX13_fraction_28 : decode cX13_fraction 28 = .ok (.lload_n 3, 1) := by decide +kernel
theorem dX13_fraction_29 : decode cX13_fraction 29 = .ok (.goto 4, 3) := by decide +kernel
theorem dX13_fraction_32 : decode cX13_fraction 32 = .ok (.lload_n 1, 1) := by decide +kernel
theorem dX13_fraction_33 : decode cX13_fraction 33 = .ok (.lload_n 1, 1) := by decide +kernel
theorem dX13_fraction_34 : decode cX13_fraction 34 = .ok (.lload_n 3, 1) := by decide +kernel
theorem dX13_fraction_35 : decode cX13_fraction 35 = .ok (.invokestatic 59, 3) := by decide +kernel
theorem dX13_fraction_38 : decode cX13_fraction 38 = .ok (.ldiv, 1) := by decide +kernel
theorem dX13_fraction_39 : decode cX13_fraction 39 = .ok (.lreturn, 1) := by decide +kernel
theorem dX13_byteAt_0 : decode cX13_byteAt 0 = .ok (.iload_n 1, 1) := by decide +kernel
theorem dX13_byteAt_1 : decode cX13_byteAt 1 = .ok (.aload_n 0, 1) := by decide +kernel
theorem dX13_byteAt_2 : decode cX13_byteAt 2 = .ok (.getfield 63, 3) := by decide +kernel
theorem dX13_byteAt_5 : decode cX13_byteAt 5 = .ok (.if_icmp .ge 16, 3) := by decide +kernel
theorem dX13_byteAt_8 : decode cX13_byteAt 8 = .ok (.aload_n 0, 1) := by decide +kernel
theorem dX13_byteAt_9 : decode cX13_byteAt 9 = .ok (.getfield 13, 3) := by decide +kernel
theorem dX13_byteAt_12 : decode cX13_byteAt 12 = .ok (.iload_n 1, 1) := by decide +kernel
theorem dX13_byteAt_13 : decode cX13_byteAt 13 = .ok (.baload, 1) := by decide +kernel
theorem dX13_byteAt_14 : decode cX13_byteAt 14 = .ok (.sipush 255, 3) := by decide +kernel
theorem dX13_byteAt_17 : decode cX13_byteAt 17 = .ok (.iand, 1) := by decide +kernel
theorem dX13_byteAt_18 : decode cX13_byteAt 18 = .ok (.goto 4, 3) := by decide +kernel
theorem dX13_byteAt_21 : decode cX13_byteAt 21 = .ok (.iconst (-1), 1) := by decide +kernel
theorem dX13_byteAt_22 : decode cX13_byteAt 22 = .ok (.ireturn, 1) := by decide +kernel
theorem dX13_isLetter_0 : decode cX13_isLetter 0 = .ok (.iload_n 0, 1) := by decide +kernel
theorem dX13_isLetter_1 : decode cX13_isLetter 1 = .ok (.bipush 97, 2) := by decide +kernel
theorem dX13_isLetter_3 : decode cX13_isLetter 3 = .ok (.if_icmp .lt 13, 3) := by decide +kernel
theorem dX13_isLetter_6 : decode cX13_isLetter 6 = .ok (.iload_n 0, 1) := by decide +kernel
theorem dX13_isLetter_7 : decode cX13_isLetter 7 = .ok (.bipush 122, 2) := by decide +kernel
theorem dX13_isLetter_9 : decode cX13_isLetter 9 = .ok (.if_icmp .gt 7, 3) := by decide +kernel
theorem dX13_isLetter_12 : decode cX13_isLetter 12 = .ok (.iconst 1, 1) := by decide +kernel
theorem dX13_isLetter_13 : decode cX13_isLetter 13 = .ok (.goto 4, 3) := by decide +kernel
theorem dX13_isLetter_16 : decode cX13_isLetter 16 = .ok (.iconst 0, 1) := by decide +kernel
theorem dX13_isLetter_17 : decode cX13_isLetter 17 = .ok (.ireturn, 1) := by decide +kernel
theorem dX13_isDigit_0 : decode cX13_isDigit 0 = .ok (.iload_n 0, 1) := by decide +kernel
theorem dX13_isDigit_1 : decode cX13_isDigit 1 = .ok (.bipush 48, 2) := by decide +kernel
theorem dX13_isDigit_3 : decode cX13_isDigit 3 = .ok (.if_icmp .lt 13, 3) := by decide +kernel
theorem dX13_isDigit_6 : decode cX13_isDigit 6 = .ok (.iload_n 0, 1) := by decide +kernel
theorem dX13_isDigit_7 : decode cX13_isDigit 7 = .ok (.bipush 57, 2) := by decide +kernel
theorem dX13_isDigit_9 : decode cX13_isDigit 9 = .ok (.if_icmp .gt 7, 3) := by decide +kernel
theorem dX13_isDigit_12 : decode cX13_isDigit 12 = .ok (.iconst 1, 1) := by decide +kernel
theorem dX13_isDigit_13 : decode cX13_isDigit 13 = .ok (.goto 4, 3) := by decide +kernel
theorem dX13_isDigit_16 : decode cX13_isDigit 16 = .ok (.iconst 0, 1) := by decide +kernel
theorem dX13_isDigit_17 : decode cX13_isDigit 17 = .ok (.ireturn, 1) := by decide +kernel
theorem dX13_packed_0 : decode cX13_packed 0 = .ok (.lconst 0, 1) := by decide +kernel
theorem dX13_packed_1 : decode cX13_packed 1 = .ok (.lstore_n 1, 1) := by decide +kernel
theorem dX13_packed_2 : decode cX13_packed 2 = .ok (.iconst 0, 1) := by decide +kernel
theorem dX13_packed_3 : decode cX13_packed 3 = .ok (.istore_n 3, 1) := by decide +kernel
theorem dX13_packed_4 : decode cX13_packed 4 = .ok (.iload_n 3, 1) := by decide +kernel
theorem dX13_packed_5 : decode cX13_packed 5 = .ok (.aload_n 0, 1) := by decide +kernel
theorem dX13_packed_6 : decode cX13_packed 6 = .ok (.invokevirtual 66, 3) := by decide +kernel
theorem dX13_packed_9 : decode cX13_packed 9 = .ok (.if_icmp .ge 27, 3) := by decide +kernel
theorem dX13_packed_12 : decode cX13_packed 12 = .ok (.ldc2_w 72, 3) := by decide +kernel
theorem dX13_packed_15 : decode cX13_packed 15 = .ok (.lload_n 1, 1) := by decide +kernel
theorem dX13_packed_16 : decode cX13_packed 16 = .ok (.lmul, 1) := by decide +kernel
theorem dX13_packed_17 : decode cX13_packed 17 = .ok (.aload_n 0, 1) := by decide +kernel
theorem dX13_packed_18 : decode cX13_packed 18 = .ok (.iload_n 3, 1) := by decide +kernel
theorem dX13_packed_19 : decode cX13_packed 19 = .ok (.invokevirtual 74, 3) := by decide +kernel
theorem dX13_packed_22 : decode cX13_packed 22 = .ok (.bipush 97, 2) := by decide +kernel
theorem dX13_packed_24 : decode cX13_packed 24 = .ok (.isub, 1) := by decide +kernel
theorem dX13_packed_25 : decode cX13_packed 25 = .ok (.iconst 1, 1) := by decide +kernel
theorem dX13_packed_26 : decode cX13_packed 26 = .ok (.iadd, 1) := by decide +kernel
theorem dX13_packed_27 : decode cX13_packed 27 = .ok (.i2l, 1) := by decide +kernel
theorem dX13_packed_28 : decode cX13_packed 28 = .ok (.ladd, 1) := by decide +kernel
theorem dX13_packed_29 : decode cX13_packed 29 = .ok (.lstore_n 1, 1) := by decide +kernel
theorem dX13_packed_30 : decode cX13_packed 30 = .ok (.iinc 3 1, 3) := by decide +kernel
theorem dX13_packed_33 : decode cX13_packed 33 = .ok (.goto (-29), 3) := by decide +kernel
theorem dX13_packed_36 : decode cX13_packed 36 = .ok (.lload_n 1, 1) := by decide +kernel
theorem dX13_packed_37 : decode cX13_packed 37 = .ok (.lreturn, 1) := by decide +kernel
theorem dX13_goesOn_0 : decode cX13_goesOn 0 = .ok (.aload_n 0, 1) := by decide +kernel
theorem dX13_goesOn_1 : decode cX13_goesOn 1 = .ok (.getfield 78, 3) := by decide +kernel
theorem dX13_goesOn_4 : decode cX13_goesOn 4 = .ok (.iconst 5, 1) := by decide +kernel
theorem dX13_goesOn_5 : decode cX13_goesOn 5 = .ok (.if_icmp .ne 4, 3) := by decide +kernel
theorem dX13_goesOn_8 : decode cX13_goesOn 8 = .ok (.return_, 1) := by decide +kernel
theorem dX13_goesOn_9 : decode cX13_goesOn 9 = .ok (.aload_n 0, 1) := by decide +kernel
theorem dX13_goesOn_10 : decode cX13_goesOn 10 = .ok (.aload_n 0, 1) := by decide +kernel
theorem dX13_goesOn_11 : decode cX13_goesOn 11 = .ok (.getfield 81, 3) := by decide +kernel
theorem dX13_goesOn_14 : decode cX13_goesOn 14 = .ok (.invokevirtual 84, 3) := by decide +kernel
theorem dX13_goesOn_17 : decode cX13_goesOn 17 = .ok (.bipush 32, 2) := by decide +kernel
theorem dX13_goesOn_19 : decode cX13_goesOn 19 = .ok (.if_icmp .ne 16, 3) := by decide +kernel
theorem dX13_goesOn_22 : decode cX13_goesOn 22 = .ok (.aload_n 0, 1) := by decide +kernel
theorem dX13_goesOn_23 : decode cX13_goesOn 23 = .ok (.dup, 1) := by decide +kernel
theorem dX13_goesOn_24 : decode cX13_goesOn 24 = .ok (.getfield 81, 3) := by decide +kernel
theorem dX13_goesOn_27 : decode cX13_goesOn 27 = .ok (.iconst 1, 1) := by decide +kernel
theorem dX13_goesOn_28 : decode cX13_goesOn 28 = .ok (.iadd, 1) := by decide +kernel
theorem dX13_goesOn_29 : decode cX13_goesOn 29 = .ok (.putfield 81, 3) := by decide +kernel
theorem dX13_goesOn_32 : decode cX13_goesOn 32 = .ok (.goto (-23), 3) := by decide +kernel
theorem dX13_goesOn_35 : decode cX13_goesOn 35 = .ok (.aload_n 0, 1) := by decide +kernel
theorem dX13_goesOn_36 : decode cX13_goesOn 36 = .ok (.aload_n 0, 1) := by decide +kernel
theorem dX13_goesOn_37 : decode cX13_goesOn 37 = .ok (.getfield 81, 3) := by decide +kernel
theorem dX13_goesOn_40 : decode cX13_goesOn 40 = .ok (.putfield 87, 3) := by decide +kernel
theorem dX13_goesOn_43 : decode cX13_goesOn 43 = .ok (.aload_n 0, 1) := by decide +kernel
theorem dX13_goesOn_44 : decode cX13_goesOn 44 = .ok (.iconst 0, 1) := by decide +kernel
theorem dX13_goesOn_45 : decode cX13_goesOn 45 = .ok (.putfield 78, 3) := by decide +kernel
theorem dX13_goesOn_48 : decode cX13_goesOn 48 = .ok (.aload_n 0, 1) := by decide +kernel
theorem dX13_goesOn_49 : decode cX13_goesOn 49 = .ok (.aload_n 0, 1) := by decide +kernel
theorem dX13_goesOn_50 : decode cX13_goesOn 50 = .ok (.getfield 81, 3) := by decide +kernel
theorem dX13_goesOn_53 : decode cX13_goesOn 53 = .ok (.invokevirtual 84, 3) := by decide +kernel
theorem dX13_goesOn_56 : decode cX13_goesOn 56 = .ok (.istore_n 1, 1) := by decide +kernel
theorem dX13_goesOn_57 : decode cX13_goesOn 57 = .ok (.iconst 0, 1) := by decide +kernel
theorem dX13_goesOn_58 : decode cX13_goesOn 58 = .ok (.istore_n 2, 1) := by decide +kernel
theorem dX13_goesOn_59 : decode cX13_goesOn 59 = .ok (.iload_n 1, 1) := by decide +kernel
theorem dX13_goesOn_60 : decode cX13_goesOn 60 = .ok (.iconst (-1), 1) := by decide +kernel
theorem dX13_goesOn_61 : decode cX13_goesOn 61 = .ok (.if_icmp .ne 11, 3) := by decide +kernel
theorem dX13_goesOn_64 : decode cX13_goesOn 64 = .ok (.aload_n 0, 1) := by decide +kernel
theorem dX13_goesOn_65 : decode cX13_goesOn 65 = .ok (.iconst 1, 1) := by decide +kernel
theorem dX13_goesOn_66 : decode cX13_goesOn 66 = .ok (.putfield 78, 3) := by decide +kernel
theorem dX13_goesOn_69 : decode cX13_goesOn 69 = .ok (.goto 196, 3) := by decide +kernel
theorem dX13_goesOn_72 : decode cX13_goesOn 72 = .ok (.iload_n 1, 1) := by decide +kernel
theorem dX13_goesOn_73 : decode cX13_goesOn 73 = .ok (.invokestatic 90, 3) := by decide +kernel
theorem dX13_goesOn_76 : decode cX13_goesOn 76 = .ok (.ifCond .eq 85, 3) := by decide +kernel
theorem dX13_goesOn_79 : decode cX13_goesOn 79 = .ok (.aload_n 0, 1) := by decide +kernel
theorem dX13_goesOn_80 : decode cX13_goesOn 80 = .ok (.lconst 0, 1) := by decide +kernel
theorem dX13_goesOn_81 : decode cX13_goesOn 81 = .ok (.putfield 94, 3) := by decide +kernel
theorem dX13_goesOn_84 : decode cX13_goesOn 84 = .ok (.aload_n 0, 1) := by decide +kernel
theorem dX13_goesOn_85 : decode cX13_goesOn 85 = .ok (.aload_n 0, 1) := by decide +kernel
theorem dX13_goesOn_86 : decode cX13_goesOn 86 = .ok (.getfield 81, 3) := by decide +kernel
theorem dX13_goesOn_89 : decode cX13_goesOn 89 = .ok (.invokevirtual 84, 3) := by decide +kernel
theorem dX13_goesOn_92 : decode cX13_goesOn 92 = .ok (.invokestatic 90, 3) := by decide +kernel
theorem dX13_goesOn_95 : decode cX13_goesOn 95 = .ok (.ifCond .eq 52, 3) := by decide +kernel
theorem dX13_goesOn_98 : decode cX13_goesOn 98 = .ok (.iload_n 2, 1) := by decide +kernel
theorem dX13_goesOn_99 : decode cX13_goesOn 99 = .ok (.bipush 8, 2) := by decide +kernel
theorem dX13_goesOn_101 : decode cX13_goesOn 101 = .ok (.if_icmp .ge 30, 3) := by decide +kernel
theorem dX13_goesOn_104 : decode cX13_goesOn 104 = .ok (.aload_n 0, 1) := by decide +kernel
theorem dX13_goesOn_105 : decode cX13_goesOn 105 = .ok (.ldc2_w 72, 3) := by decide +kernel
theorem dX13_goesOn_108 : decode cX13_goesOn 108 = .ok (.aload_n 0, 1) := by decide +kernel
theorem dX13_goesOn_109 : decode cX13_goesOn 109 = .ok (.getfield 94, 3) := by decide +kernel
theorem dX13_goesOn_112 : decode cX13_goesOn 112 = .ok (.lmul, 1) := by decide +kernel
theorem dX13_goesOn_113 : decode cX13_goesOn 113 = .ok (.aload_n 0, 1) := by decide +kernel
theorem dX13_goesOn_114 : decode cX13_goesOn 114 = .ok (.aload_n 0, 1) := by decide +kernel
theorem dX13_goesOn_115 : decode cX13_goesOn 115 = .ok (.getfield 81, 3) := by decide +kernel
theorem dX13_goesOn_118 : decode cX13_goesOn 118 = .ok (.invokevirtual 84, 3) := by decide +kernel
theorem dX13_goesOn_121 : decode cX13_goesOn 121 = .ok (.bipush 97, 2) := by decide +kernel
theorem dX13_goesOn_123 : decode cX13_goesOn 123 = .ok (.isub, 1) := by decide +kernel
theorem dX13_goesOn_124 : decode cX13_goesOn 124 = .ok (.iconst 1, 1) := by decide +kernel
theorem dX13_goesOn_125 : decode cX13_goesOn 125 = .ok (.iadd, 1) := by decide +kernel
theorem dX13_goesOn_126 : decode cX13_goesOn 126 = .ok (.i2l, 1) := by decide +kernel
theorem dX13_goesOn_127 : decode cX13_goesOn 127 = .ok (.ladd, 1) := by decide +kernel
theorem dX13_goesOn_128 : decode cX13_goesOn 128 = .ok (.putfield 94, 3) := by decide +kernel
theorem dX13_goesOn_131 : decode cX13_goesOn 131 = .ok (.iinc 2 1, 3) := by decide +kernel
theorem dX13_goesOn_134 : decode cX13_goesOn 134 = .ok (.aload_n 0, 1) := by decide +kernel
theorem dX13_goesOn_135 : decode cX13_goesOn 135 = .ok (.dup, 1) := by decide +kernel
theorem dX13_goesOn_136 : decode cX13_goesOn 136 = .ok (.getfield 81, 3) := by decide +kernel
theorem dX13_goesOn_139 : decode cX13_goesOn 139 = .ok (.iconst 1, 1) := by decide +kernel
theorem dX13_goesOn_140 : decode cX13_goesOn 140 = .ok (.iadd, 1) := by decide +kernel
theorem dX13_goesOn_141 : decode cX13_goesOn 141 = .ok (.putfield 81, 3) := by decide +kernel
theorem dX13_goesOn_144 : decode cX13_goesOn 144 = .ok (.goto (-60), 3) := by decide +kernel
theorem dX13_goesOn_147 : decode cX13_goesOn 147 = .ok (.iload_n 2, 1) := by decide +kernel
theorem dX13_goesOn_148 : decode cX13_goesOn 148 = .ok (.bipush 8, 2) := by decide +kernel
theorem dX13_goesOn_150 : decode cX13_goesOn 150 = .ok (.if_icmp .gt 115, 3) := by decide +kernel
theorem dX13_goesOn_153 : decode cX13_goesOn 153 = .ok (.aload_n 0, 1) := by decide +kernel
theorem dX13_goesOn_154 : decode cX13_goesOn 154 = .ok (.iconst 2, 1) := by decide +kernel
theorem dX13_goesOn_155 : decode cX13_goesOn 155 = .ok (.putfield 78, 3) := by decide +kernel
theorem dX13_goesOn_158 : decode cX13_goesOn 158 = .ok (.goto 107, 3) := by decide +kernel
theorem dX13_goesOn_161 : decode cX13_goesOn 161 = .ok (.iload_n 1, 1) := by decide +kernel
theorem dX13_goesOn_162 : decode cX13_goesOn 162 = .ok (.invokestatic 98, 3) := by decide +kernel
theorem dX13_goesOn_165 : decode cX13_goesOn 165 = .ok (.ifCond .eq 79, 3) := by decide +kernel
theorem dX13_goesOn_168 : decode cX13_goesOn 168 = .ok (.aload_n 0, 1) := by decide +kernel
theorem dX13_goesOn_169 : decode cX13_goesOn 169 = .ok (.iconst 0, 1) := by decide +kernel
theorem dX13_goesOn_170 : decode cX13_goesOn 170 = .ok (.putfield 101, 3) := by decide +kernel
theorem dX13_goesOn_173 : decode cX13_goesOn 173 = .ok (.aload_n 0, 1) := by decide +kernel
theorem dX13_goesOn_174 : decode cX13_goesOn 174 = .ok (.aload_n 0, 1) := by decide +kernel
theorem dX13_goesOn_175 : decode cX13_goesOn 175 = .ok (.getfield 81, 3) := by decide +kernel
theorem dX13_goesOn_178 : decode cX13_goesOn 178 = .ok (.invokevirtual 84, 3) := by decide +kernel
theorem dX13_goesOn_181 : decode cX13_goesOn 181 = .ok (.invokestatic 98, 3) := by decide +kernel
theorem dX13_goesOn_184 : decode cX13_goesOn 184 = .ok (.ifCond .eq 47, 3) := by decide +kernel
theorem dX13_goesOn_187 : decode cX13_goesOn 187 = .ok (.iload_n 2, 1) := by decide +kernel
theorem dX13_goesOn_188 : decode cX13_goesOn 188 = .ok (.iconst 3, 1) := by decide +kernel
theorem dX13_goesOn_189 : decode cX13_goesOn 189 = .ok (.if_icmp .ge 26, 3) := by decide +kernel
theorem dX13_goesOn_192 : decode cX13_goesOn 192 = .ok (.aload_n 0, 1) := by decide +kernel
theorem dX13_goesOn_193 : decode cX13_goesOn 193 = .ok (.bipush 10, 2) := by decide +kernel
theorem dX13_goesOn_195 : decode cX13_goesOn 195 = .ok (.aload_n 0, 1) := by decide +kernel
theorem dX13_goesOn_196 : decode cX13_goesOn 196 = .ok (.getfield 101, 3) := by decide +kernel
theorem dX13_goesOn_199 : decode cX13_goesOn 199 = .ok (.imul, 1) := by decide +kernel
theorem dX13_goesOn_200 : decode cX13_goesOn 200 = .ok (.aload_n 0, 1) := by decide +kernel
theorem dX13_goesOn_201 : decode cX13_goesOn 201 = .ok (.aload_n 0, 1) := by decide +kernel
theorem dX13_goesOn_202 : decode cX13_goesOn 202 = .ok (.getfield 81, 3) := by decide +kernel
theorem dX13_goesOn_205 : decode cX13_goesOn 205 = .ok (.invokevirtual 84, 3) := by decide +kernel
theorem dX13_goesOn_208 : decode cX13_goesOn 208 = .ok (.iadd, 1) := by decide +kernel
theorem dX13_goesOn_209 : decode cX13_goesOn 209 = .ok (.bipush 48, 2) := by decide +kernel
theorem dX13_goesOn_211 : decode cX13_goesOn 211 = .ok (.isub, 1) := by decide +kernel
theorem dX13_goesOn_212 : decode cX13_goesOn 212 = .ok (.putfield 101, 3) := by decide +kernel
theorem dX13_goesOn_215 : decode cX13_goesOn 215 = .ok (.iinc 2 1, 3) := by decide +kernel
theorem dX13_goesOn_218 : decode cX13_goesOn 218 = .ok (.aload_n 0, 1) := by decide +kernel
theorem dX13_goesOn_219 : decode cX13_goesOn 219 = .ok (.dup, 1) := by decide +kernel
theorem dX13_goesOn_220 : decode cX13_goesOn 220 = .ok (.getfield 81, 3) := by decide +kernel
theorem dX13_goesOn_223 : decode cX13_goesOn 223 = .ok (.iconst 1, 1) := by decide +kernel
theorem dX13_goesOn_224 : decode cX13_goesOn 224 = .ok (.iadd, 1) := by decide +kernel
theorem dX13_goesOn_225 : decode cX13_goesOn 225 = .ok (.putfield 81, 3) := by decide +kernel
theorem dX13_goesOn_228 : decode cX13_goesOn 228 = .ok (.goto (-55), 3) := by decide +kernel
theorem dX13_goesOn_231 : decode cX13_goesOn 231 = .ok (.iload_n 2, 1) := by decide +kernel
theorem dX13_goesOn_232 : decode cX13_goesOn 232 = .ok (.iconst 3, 1) := by decide +kernel
theorem dX13_goesOn_233 : decode cX13_goesOn 233 = .ok (.if_icmp .gt 32, 3) := by decide +kernel
theorem dX13_goesOn_236 : decode cX13_goesOn 236 = .ok (.aload_n 0, 1) := by decide +kernel
theorem dX13_goesOn_237 : decode cX13_goesOn 237 = .ok (.iconst 3, 1) := by decide +kernel
theorem dX13_goesOn_238 : decode cX13_goesOn 238 = .ok (.putfield 78, 3) := by decide +kernel
theorem dX13_goesOn_241 : decode cX13_goesOn 241 = .ok (.goto 24, 3) := by decide +kernel
theorem dX13_goesOn_244 : decode cX13_goesOn 244 = .ok (.iload_n 1, 1) := by decide +kernel
theorem dX13_goesOn_245 : decode cX13_goesOn 245 = .ok (.bipush 59, 2) := by decide +kernel
theorem dX13_goesOn_247 : decode cX13_goesOn 247 = .ok (.if_icmp .ne 18, 3) := by decide +kernel
theorem dX13_goesOn_250 : decode cX13_goesOn 250 = .ok (.aload_n 0, 1) := by decide +kernel
theorem dX13_goesOn_251 : decode cX13_goesOn 251 = .ok (.iconst 4, 1) := by decide +kernel
theorem dX13_goesOn_252 : decode cX13_goesOn 252 = .ok (.putfield 78, 3) := by decide +kernel
theorem dX13_goesOn_255 : decode cX13_goesOn 255 = .ok (.aload_n 0, 1) := by decide +kernel
theorem dX13_goesOn_256 : decode cX13_goesOn 256 = .ok (.dup, 1) := by decide +kernel
theorem dX13_goesOn_257 : decode cX13_goesOn 257 = .ok (.getfield 81, 3) := by decide +kernel
theorem dX13_goesOn_260 : decode cX13_goesOn 260 = .ok (.iconst 1, 1) := by decide +kernel
theorem dX13_goesOn_261 : decode cX13_goesOn 261 = .ok (.iadd, 1) := by decide +kernel
theorem dX13_goesOn_262 : decode cX13_goesOn 262 = .ok (.putfield 81, 3) := by decide +kernel
theorem dX13_goesOn_265 : decode cX13_goesOn 265 = .ok (.return_, 1) := by decide +kernel
theorem dX13_flaw_0 : decode cX13_flaw 0 = .ok (.aload_n 0, 1) := by decide +kernel
theorem dX13_flaw_1 : decode cX13_flaw 1 = .ok (.getfield 78, 3) := by decide +kernel
theorem dX13_flaw_4 : decode cX13_flaw 4 = .ok (.iconst 5, 1) := by decide +kernel
theorem dX13_flaw_5 : decode cX13_flaw 5 = .ok (.if_icmp .ne 4, 3) := by decide +kernel
theorem dX13_flaw_8 : decode cX13_flaw 8 = .ok (.return_, 1) := by decide +kernel
theorem dX13_flaw_9 : decode cX13_flaw 9 = .ok (.aload_n 0, 1) := by decide +kernel
theorem dX13_flaw_10 : decode cX13_flaw 10 = .ok (.iload_n 1, 1) := by decide +kernel
theorem dX13_flaw_11 : decode cX13_flaw 11 = .ok (.putfield 104, 3) := by decide +kernel
theorem dX13_flaw_14 : decode cX13_flaw 14 = .ok (.aload_n 0, 1) := by decide +kernel
theorem dX13_flaw_15 : decode cX13_flaw 15 = .ok (.aload_n 0, 1) := by decide +kernel
theorem dX13_flaw_16 : decode cX13_flaw 16 = .ok (.getfield 87, 3) := by decide +kernel
theorem dX13_flaw_19 : decode cX13_flaw 19 = .ok (.putfield 107, 3) := by decide +kernel
theorem dX13_flaw_22 : decode cX13_flaw 22 = .ok (.aload_n 0, 1) := by decide +kernel
theorem dX13_flaw_23 : decode cX13_flaw 23 = .ok (.iconst 5, 1) := by decide +kernel
theorem dX13_flaw_24 : decode cX13_flaw 24 = .ok (.putfield 78, 3) := by decide +kernel
theorem dX13_flaw_27 : decode cX13_flaw 27 = .ok (.return_, 1) := by decide +kernel
theorem dX13_isWord_0 : decode cX13_isWord 0 = .ok (.aload_n 0, 1) := by decide +kernel
theorem dX13_isWord_1 : decode cX13_isWord 1 = .ok (.getfield 78, 3) := by decide +kernel
theorem dX13_isWord_4 : decode cX13_isWord 4 = .ok (.iconst 2, 1) := by decide +kernel
theorem dX13_isWord_5 : decode cX13_isWord 5 = .ok (.if_icmp .ne 19, 3) := by decide +kernel
theorem dX13_isWord_8 : decode cX13_isWord 8 = .ok (.aload_n 0, 1) := by decide +kernel
theorem dX13_isWord_9 : decode cX13_isWord 9 = .ok (.getfield 94, 3) := by decide +kernel
theorem dX13_isWord_12 : decode cX13_isWord 12 = .ok (.aload_n 1, 1) := by decide +kernel
theorem dX13_isWord_13 : decode cX13_isWord 13 = .ok (.invokestatic 110, 3) := by decide +kernel
theorem dX13_isWord_16 : decode cX13_isWord 16 = .ok (.lcmp, 1) := by decide +kernel
theorem dX13_isWord_17 : decode cX13_isWord 17 = .ok (.ifCond .ne 7, 3) := by decide +kernel
theorem dX13_isWord_20 : decode cX13_isWord 20 = .ok (.iconst 1, 1) := by decide +kernel
theorem dX13_isWord_21 : decode cX13_isWord 21 = .ok (.goto 4, 3) := by decide +kernel
theorem dX13_isWord_24 : decode cX13_isWord 24 = .ok (.iconst 0, 1) := by decide +kernel
theorem dX13_isWord_25 : decode cX13_isWord 25 = .ok (.ireturn, 1) := by decide +kernel
theorem dX13_eatsSemicolon_0 : decode cX13_eatsSemicolon 0 = .ok (.aload_n 0, 1) := by decide +kernel
theorem dX13_eatsSemicolon_1 : decode cX13_eatsSemicolon 1 = .ok (.getfield 78, 3) := by decide +kernel
theorem dX13_eatsSemicolon_4 : decode cX13_eatsSemicolon 4 = .ok (.iconst 4, 1) := by decide +kernel
theorem dX13_eatsSemicolon_5 : decode cX13_eatsSemicolon 5 = .ok (.if_icmp .ne 7, 3) := by decide +kernel
theorem dX13_eatsSemicolon_8 : decode cX13_eatsSemicolon 8 = .ok (.iconst 1, 1) := by decide +kernel
theorem dX13_eatsSemicolon_9 : decode cX13_eatsSemicolon 9 = .ok (.goto 4, 3) := by decide +kernel
theorem dX13_eatsSemicolon_12 : decode cX13_eatsSemicolon 12 = .ok (.iconst 0, 1) := by decide +kernel
theorem dX13_eatsSemicolon_13 : decode cX13_eatsSemicolon 13 = .ok (.istore_n 1, 1) := by decide +kernel
theorem dX13_eatsSemicolon_14 : decode cX13_eatsSemicolon 14 = .ok (.iload_n 1, 1) := by decide +kernel
theorem dX13_eatsSemicolon_15 : decode cX13_eatsSemicolon 15 = .ok (.ifCond .eq 7, 3) := by decide +kernel
theorem dX13_eatsSemicolon_18 : decode cX13_eatsSemicolon 18 = .ok (.aload_n 0, 1) := by decide +kernel
theorem dX13_eatsSemicolon_19 : decode cX13_eatsSemicolon 19 = .ok (.invokevirtual 114, 3) := by decide +kernel
theorem dX13_eatsSemicolon_22 : decode cX13_eatsSemicolon 22 = .ok (.iload_n 1, 1) := by decide +kernel
theorem dX13_eatsSemicolon_23 : decode cX13_eatsSemicolon 23 = .ok (.ireturn, 1) := by decide +kernel
theorem dX13_readWhole_0 : decode cX13_readWhole 0 = .ok (.aload_n 0, 1) := by decide +kernel
theorem dX13_readWhole_1 : decode cX13_readWhole 1 = .ok (.getfield 78, 3) := by decide +kernel
theorem dX13_readWhole_4 : decode cX13_readWhole 4 = .ok (.iconst 3, 1) := by decide +kernel
theorem dX13_readWhole_5 : decode cX13_readWhole 5 = .ok (.if_icmp .eq 11, 3) := by decide +kernel
theorem dX13_readWhole_8 : decode cX13_readWhole 8 = .ok (.aload_n 0, 1) := by decide +kernel
theorem dX13_readWhole_9 : decode cX13_readWhole 9 = .ok (.iconst 1, 1) := by decide +kernel
theorem dX13_readWhole_10 : decode cX13_readWhole 10 = .ok (.invokevirtual 117, 3) := by decide +kernel
theorem dX13_readWhole_13 : decode cX13_readWhole 13 = .ok (.goto 20, 3) := by decide +kernel
theorem dX13_readWhole_16 : decode cX13_readWhole 16 = .ok (.aload_n 0, 1) := by decide +kernel
theorem dX13_readWhole_17 : decode cX13_readWhole 17 = .ok (.getfield 101, 3) := by decide +kernel
theorem dX13_readWhole_20 : decode cX13_readWhole 20 = .ok (.iload_n 1, 1) := by decide +kernel
theorem dX13_readWhole_21 : decode cX13_readWhole 21 = .ok (.iload_n 2, 1) := by decide +kernel
theorem dX13_readWhole_22 : decode cX13_readWhole 22 = .ok (.invokestatic 121, 3) := by decide +kernel
theorem dX13_readWhole_25 : decode cX13_readWhole 25 = .ok (.ifCond .ne 8, 3) := by decide +kernel
theorem dX13_readWhole_28 : decode cX13_readWhole 28 = .ok (.aload_n 0, 1) := by decide +kernel
theorem dX13_readWhole_29 : decode cX13_readWhole 29 = .ok (.iconst 4, 1) := by decide +kernel
theorem dX13_readWhole_30 : decode cX13_readWhole 30 = .ok (.invokevirtual 117, 3) := by decide +kernel
theorem dX13_readWhole_33 : decode cX13_readWhole 33 = .ok (.aload_n 0, 1) := by decide +kernel
theorem dX13_readWhole_34 : decode cX13_readWhole 34 = .ok (.getfield 78, 3) := by decide +kernel
theorem dX13_readWhole_37 : decode cX13_readWhole 37 = .ok (.iconst 5, 1) := by decide +kernel
theorem dX13_readWhole_38 : decode cX13_readWhole 38 = .ok (.if_icmp .ne 7, 3) := by decide +kernel
theorem dX13_readWhole_41 : decode cX13_readWhole 41 = .ok (.iload_n 1, 1) := by decide +kernel
theorem dX13_readWhole_42 : decode cX13_readWhole 42 = .ok (.goto 7, 3) := by decide +kernel
theorem dX13_readWhole_45 : decode cX13_readWhole 45 = .ok (.aload_n 0, 1) := by decide +kernel
theorem dX13_readWhole_46 : decode cX13_readWhole 46 = .ok (.getfield 101, 3) := by decide +kernel
theorem dX13_readWhole_49 : decode cX13_readWhole 49 = .ok (.istore_n 3, 1) := by decide +kernel
theorem dX13_readWhole_50 : decode cX13_readWhole 50 = .ok (.aload_n 0, 1) := by decide +kernel
theorem dX13_readWhole_51 : decode cX13_readWhole 51 = .ok (.invokevirtual 114, 3) := by decide +kernel
theorem dX13_readWhole_54 : decode cX13_readWhole 54 = .ok (.iload_n 3, 1) := by decide +kernel
theorem dX13_readWhole_55 : decode cX13_readWhole 55 = .ok (.ireturn, 1) := by decide +kernel
theorem dX13_readPart_0 : decode cX13_readPart 0 = .ok (.aload_n 0, 1) := by decide +kernel
theorem dX13_readPart_1 : decode cX13_readPart 1 = .ok (.aload_n 1, 1) := by decide +kernel
theorem dX13_readPart_2 : decode cX13_readPart 2 = .ok (.invokevirtual 125, 3) := by decide +kernel
theorem dX13_readPart_5 : decode cX13_readPart 5 = .ok (.ifCond .ne 8, 3) := by decide +kernel
theorem dX13_readPart_8 : decode cX13_readPart 8 = .ok (.aload_n 0, 1) := by decide +kernel
theorem dX13_readPart_9 : decode cX13_readPart 9 = .ok (.iconst 1, 1) := by decide +kernel
theorem dX13_readPart_10 : decode cX13_readPart 10 = .ok (.invokevirtual 117, 3) := by decide +kernel
theorem dX13_readPart_13 : decode cX13_readPart 13 = .ok (.aload_n 0, 1) := by decide +kernel
theorem dX13_readPart_14 : decode cX13_readPart 14 = .ok (.invokevirtual 114, 3) := by decide +kernel
theorem dX13_readPart_17 : decode cX13_readPart 17 = .ok (.aload_n 0, 1) := by decide +kernel
theorem dX13_readPart_18 : decode cX13_readPart 18 = .ok (.iload_n 2, 1) := by decide +kernel
theorem dX13_readPart_19 : decode cX13_readPart 19 = .ok (.iload_n 3, 1) := by decide +kernel
theorem dX13_readPart_20 : decode cX13_readPart 20 = .ok (.invokevirtual 129, 3) := by decide +kernel
theorem dX13_readPart_23 : decode cX13_readPart 23 = .ok (.ireturn, 1) := by decide +kernel
theorem dX13_isName_0 : decode cX13_isName 0 = .ok (.aload_n 0, 1) := by decide +kernel
theorem dX13_isName_1 : decode cX13_isName 1 = .ok (.getfield 78, 3) := by decide +kernel
theorem dX13_isName_4 : decode cX13_isName 4 = .ok (.iconst 2, 1) := by decide +kernel
theorem dX13_isName_5 : decode cX13_isName 5 = .ok (.if_icmp .ne 39, 3) := by decide +kernel
theorem dX13_isName_8 : decode cX13_isName 8 = .ok (.aload_n 0, 1) := by decide +kernel
theorem dX13_isName_9 : decode cX13_isName 9 = .ok (.ldc 133, 2) := by decide +kernel
theorem dX13_isName_11 : decode cX13_isName 11 = .ok (.invokevirtual 125, 3) := by decide +kernel
theorem dX13_isName_14 : decode cX13_isName 14 = .ok (.ifCond .ne 30, 3) := by decide +kernel
theorem dX13_isName_17 : decode cX13_isName 17 = .ok (.aload_n 0, 1) := by decide +kernel
theorem dX13_isName_18 : decode cX13_isName 18 = .ok (.ldc 135, 2) := by decide +kernel
theorem dX13_isName_20 : decode cX13_isName 20 = .ok (.invokevirtual 125, 3) := by decide +kernel
theorem dX13_isName_23 : decode cX13_isName 23 = .ok (.ifCond .ne 21, 3) := by decide +kernel
theorem dX13_isName_26 : decode cX13_isName 26 = .ok (.aload_n 0, 1) := by decide +kernel
theorem dX13_isName_27 : decode cX13_isName 27 = .ok (.ldc 137, 2) := by decide +kernel
theorem dX13_isName_29 : decode cX13_isName 29 = .ok (.invokevirtual 125, 3) := by decide +kernel
theorem dX13_isName_32 : decode cX13_isName 32 = .ok (.ifCond .ne 12, 3) := by decide +kernel
theorem dX13_isName_35 : decode cX13_isName 35 = .ok (.aload_n 0, 1) := by decide +kernel
theorem dX13_isName_36 : decode cX13_isName 36 = .ok (.ldc 139, 2) := by decide +kernel
theorem dX13_isName_38 : decode cX13_isName 38 = .ok (.invokevirtual 125, 3) := by decide +kernel
theorem dX13_isName_41 : decode cX13_isName 41 = .ok (.ifCond .eq 5, 3) := by decide +kernel
theorem dX13_isName_44 : decode cX13_isName 44 = .ok (.iconst 0, 1) := by decide +kernel
theorem dX13_isName_45 : decode cX13_isName 45 = .ok (.ireturn, 1) := by decide +kernel
theorem dX13_isName_46 : decode cX13_isName 46 = .ok (.aload_n 0, 1) := by decide +kernel
theorem dX13_isName_47 : decode cX13_isName 47 = .ok (.ldc 141, 2) := by decide +kernel
theorem dX13_isName_49 : decode cX13_isName 49 = .ok (.invokevirtual 125, 3) := by decide +kernel
theorem dX13_isName_52 : decode cX13_isName 52 = .ok (.ifCond .ne 34, 3) := by decide +kernel
theorem dX13_isName_55 : decode cX13_isName 55 = .ok (.aload_n 0, 1) := by decide +kernel
theorem dX13_isName_56 : decode cX13_isName 56 = .ok (.ldc 143, 2) := by decide +kernel
theorem dX13_isName_58 : decode cX13_isName 58 = .ok (.invokevirtual 125, 3) := by decide +kernel
theorem dX13_isName_61 : decode cX13_isName 61 = .ok (.ifCond .ne 25, 3) := by decide +kernel
theorem dX13_isName_64 : decode cX13_isName 64 = .ok (.aload_n 0, 1) := by decide +kernel
theorem dX13_isName_65 : decode cX13_isName 65 = .ok (.ldc 145, 2) := by decide +kernel
theorem dX13_isName_67 : decode cX13_isName 67 = .ok (.invokevirtual 125, 3) := by decide +kernel
theorem dX13_isName_70 : decode cX13_isName 70 = .ok (.ifCond .ne 16, 3) := by decide +kernel
theorem dX13_isName_73 : decode cX13_isName 73 = .ok (.aload_n 0, 1) := by decide +kernel
theorem dX13_isName_74 : decode cX13_isName 74 = .ok (.ldc 147, 2) := by decide +kernel
theorem dX13_isName_76 : decode cX13_isName 76 = .ok (.invokevirtual 125, 3) := by decide +kernel
theorem dX13_isName_79 : decode cX13_isName 79 = .ok (.ifCond .ne 7, 3) := by decide +kernel
theorem dX13_isName_82 : decode cX13_isName 82 = .ok (.iconst 1, 1) := by decide +kernel
theorem dX13_isName_83 : decode cX13_isName 83 = .ok (.goto 4, 3) := by decide +kernel
theorem dX13_isName_86 : decode cX13_isName 86 = .ok (.iconst 0, 1) := by decide +kernel
theorem dX13_isName_87 : decode cX13_isName 87 = .ok (.ireturn, 1) := by decide +kernel
theorem dX13_lineBegins_0 : decode cX13_lineBegins 0 = .ok (.iload_n 1, 1) := by decide +kernel
theorem dX13_lineBegins_1 : decode cX13_lineBegins 1 = .ok (.iload_n 2, 1) := by decide +kernel
theorem dX13_lineBegins_2 : decode cX13_lineBegins 2 = .ok (.if_icmp .ne 8, 3) := by decide +kernel
theorem dX13_lineBegins_5 : decode cX13_lineBegins 5 = .ok (.aload_n 0, 1) := by decide +kernel
theorem dX13_lineBegins_6 : decode cX13_lineBegins 6 = .ok (.iconst 5, 1) := by decide +kernel
theorem dX13_lineBegins_7 : decode cX13_lineBegins 7 = .ok (.invokevirtual 117, 3) := by decide +kernel
theorem dX13_lineBegins_10 : decode cX13_lineBegins 10 = .ok (.aload_n 0, 1) := by decide +kernel
theorem dX13_lineBegins_11 : decode cX13_lineBegins 11 = .ok (.getfield 149, 3) := by decide +kernel
theorem dX13_lineBegins_14 : decode cX13_lineBegins 14 = .ok (.getfield 153, 3) := by decide +kernel
theorem dX13_lineBegins_17 : decode cX13_lineBegins 17 = .ok (.iconst (-1), 1) := by decide +kernel
theorem dX13_lineBegins_18 : decode cX13_lineBegins 18 = .ok (.if_icmp .ne 9, 3) := by decide +kernel
theorem dX13_lineBegins_21 : decode cX13_lineBegins 21 = .ok (.aload_n 0, 1) := by decide +kernel
theorem dX13_lineBegins_22 : decode cX13_lineBegins 22 = .ok (.bipush 6, 2) := by decide +kernel
theorem dX13_lineBegins_24 : decode cX13_lineBegins 24 = .ok (.invokevirtual 117, 3) := by decide +kernel
theorem dX13_lineBegins_27 : decode cX13_lineBegins 27 = .ok (.aload_n 0, 1) := by decide +kernel
theorem dX13_lineBegins_28 : decode cX13_lineBegins 28 = .ok (.invokevirtual 114, 3) := by decide +kernel
theorem dX13_lineBegins_31 : decode cX13_lineBegins 31 = .ok (.return_, 1) := by decide +kernel
theorem dX13_readFresh_0 : decode cX13_readFresh 0 = .ok (.aload_n 0, 1) := by decide +kernel
theorem dX13_readFresh_1 : decode cX13_readFresh 1 = .ok (.invokevirtual 158, 3) := by decide +kernel
theorem dX13_readFresh_4 : decode cX13_readFresh 4 = .ok (.ifCond .ne 8, 3) := by decide +kernel
theorem dX13_readFresh_7 : decode cX13_readFresh 7 = .ok (.aload_n 0, 1) := by decide +kernel
theorem dX13_readFresh_8 : decode cX13_readFresh 8 = .ok (.iconst 1, 1) := by decide +kernel
theorem dX13_readFresh_9 : decode cX13_readFresh 9 = .ok (.invokevirtual 117, 3) := by decide +kernel
theorem dX13_readFresh_12 : decode cX13_readFresh 12 = .ok (.aload_n 0, 1) := by decide +kernel
theorem dX13_readFresh_13 : decode cX13_readFresh 13 = .ok (.getfield 149, 3) := by decide +kernel
theorem dX13_readFresh_16 : decode cX13_readFresh 16 = .ok (.aload_n 0, 1) := by decide +kernel
theorem dX13_readFresh_17 : decode cX13_readFresh 17 = .ok (.getfield 94, 3) := by decide +kernel
theorem dX13_readFresh_20 : decode cX13_readFresh 20 = .ok (.invokevirtual 162, 3) := by decide +kernel
theorem dX13_readFresh_23 : decode cX13_readFresh 23 = .ok (.iconst (-1), 1) := by decide +kernel
theorem dX13_readFresh_24 : decode cX13_readFresh 24 = .ok (.if_icmp .eq 8, 3) := by decide +kernel
theorem dX13_readFresh_27 : decode cX13_readFresh 27 = .ok (.aload_n 0, 1) := by decide +kernel
theorem dX13_readFresh_28 : decode cX13_readFresh 28 = .ok (.iconst 3, 1) := by decide +kernel
theorem dX13_readFresh_29 : decode cX13_readFresh 29 = .ok (.invokevirtual 117, 3) := by decide +kernel
theorem dX13_readFresh_32 : decode cX13_readFresh 32 = .ok (.aload_n 0, 1) := by decide +kernel
theorem dX13_readFresh_33 : decode cX13_readFresh 33 = .ok (.getfield 94, 3) := by decide +kernel
theorem dX13_readFresh_36 : decode cX13_readFresh 36 = .ok (.lstore_n 1, 1) := by decide +kernel
theorem dX13_readFresh_37 : decode cX13_readFresh 37 = .ok (.aload_n 0, 1) := by decide +kernel
theorem dX13_readFresh_38 : decode cX13_readFresh 38 = .ok (.invokevirtual 114, 3) := by decide +kernel
theorem dX13_readFresh_41 : decode cX13_readFresh 41 = .ok (.lload_n 1, 1) := by decide +kernel
theorem dX13_readFresh_42 : decode cX13_readFresh 42 = .ok (.lreturn, 1) := by decide +kernel
theorem dX13_names_0 : decode cX13_names 0 = .ok (.aload_n 0, 1) := by decide +kernel
theorem dX13_names_1 : decode cX13_names 1 = .ok (.getfield 149, 3) := by decide +kernel
theorem dX13_names_4 : decode cX13_names 4 = .ok (.getfield 166, 3) := by decide +kernel
theorem dX13_names_7 : decode cX13_names 7 = .ok (.aload_n 0, 1) := by decide +kernel
theorem dX13_names_8 : decode cX13_names 8 = .ok (.getfield 149, 3) := by decide +kernel
theorem dX13_names_11 : decode cX13_names 11 = .ok (.getfield 170, 3) := by decide +kernel
theorem dX13_names_14 : decode cX13_names 14 = .ok (.lload_n 1, 1) := by decide +kernel
theorem dX13_names_15 : decode cX13_names 15 = .ok (.lastore, 1) := by decide +kernel
theorem dX13_names_16 : decode cX13_names 16 = .ok (.aload_n 0, 1) := by decide +kernel
theorem dX13_names_17 : decode cX13_names 17 = .ok (.getfield 149, 3) := by decide +kernel
theorem dX13_names_20 : decode cX13_names 20 = .ok (.getfield 173, 3) := by decide +kernel
theorem dX13_names_23 : decode cX13_names 23 = .ok (.aload_n 0, 1) := by decide +kernel
theorem dX13_names_24 : decode cX13_names 24 = .ok (.getfield 149, 3) := by decide +kernel
theorem dX13_names_27 : decode cX13_names 27 = .ok (.getfield 170, 3) := by decide +kernel
theorem dX13_names_30 : decode cX13_names 30 = .ok (.iload_n 3, 1) := by decide +kernel
theorem dX13_names_31 : decode cX13_names 31 = .ok (.iastore, 1) := by decide +kernel
theorem dX13_names_32 : decode cX13_names 32 = .ok (.aload_n 0, 1) := by decide +kernel
theorem dX13_names_33 : decode cX13_names 33 = .ok (.getfield 149, 3) := by decide +kernel
theorem dX13_names_36 : decode cX13_names 36 = .ok (.getfield 176, 3) := by decide +kernel
theorem dX13_names_39 : decode cX13_names 39 = .ok (.aload_n 0, 1) := by decide +kernel
theorem dX13_names_40 : decode cX13_names 40 = .ok (.getfield 149, 3) := by decide +kernel
theorem dX13_names_43 : decode cX13_names 43 = .ok (.getfield 170, 3) := by decide +kernel
theorem dX13_names_46 : decode cX13_names 46 = .ok (.iload 4, 2) := by decide +kernel
theorem dX13_names_48 : decode cX13_names 48 = .ok (.iastore, 1) := by decide +kernel
theorem dX13_names_49 : decode cX13_names 49 = .ok (.aload_n 0, 1) := by decide +kernel
theorem dX13_names_50 : decode cX13_names 50 = .ok (.getfield 149, 3) := by decide +kernel
theorem dX13_names_53 : decode cX13_names 53 = .ok (.dup, 1) := by decide +kernel
theorem dX13_names_54 : decode cX13_names 54 = .ok (.getfield 170, 3) := by decide +kernel
theorem dX13_names_57 : decode cX13_names 57 = .ok (.iconst 1, 1) := by decide +kernel
theorem dX13_names_58 : decode cX13_names 58 = .ok (.iadd, 1) := by decide +kernel
theorem dX13_names_59 : decode cX13_names 59 = .ok (.putfield 170, 3) := by decide +kernel
theorem dX13_names_62 : decode cX13_names 62 = .ok (.return_, 1) := by decide +kernel
theorem dX13_knownOne_0 : decode cX13_knownOne 0 = .ok (.aload_n 0, 1) := by decide +kernel
theorem dX13_knownOne_1 : decode cX13_knownOne 1 = .ok (.invokevirtual 158, 3) := by decide +kernel
theorem dX13_knownOne_4 : decode cX13_knownOne 4 = .ok (.ifCond .ne 8, 3) := by decide +kernel
theorem dX13_knownOne_7 : decode cX13_knownOne 7 = .ok (.aload_n 0, 1) := by decide +kernel
theorem dX13_knownOne_8 : decode cX13_knownOne 8 = .ok (.iconst 1, 1) := by decide +kernel
theorem dX13_knownOne_9 : decode cX13_knownOne 9 = .ok (.invokevirtual 117, 3) := by decide +kernel
theorem dX13_knownOne_12 : decode cX13_knownOne 12 = .ok (.aload_n 0, 1) := by decide +kernel
theorem dX13_knownOne_13 : decode cX13_knownOne 13 = .ok (.getfield 149, 3) := by decide +kernel
theorem dX13_knownOne_16 : decode cX13_knownOne 16 = .ok (.aload_n 0, 1) := by decide +kernel
theorem dX13_knownOne_17 : decode cX13_knownOne 17 = .ok (.getfield 94, 3) := by decide +kernel
theorem dX13_knownOne_20 : decode cX13_knownOne 20 = .ok (.invokevirtual 162, 3) := by decide +kernel
theorem dX13_knownOne_23 : decode cX13_knownOne 23 = .ok (.istore_n 2, 1) := by decide +kernel
theorem dX13_knownOne_24 : decode cX13_knownOne 24 = .ok (.iload_n 2, 1) := by decide +kernel
theorem dX13_knownOne_25 : decode cX13_knownOne 25 = .ok (.iconst (-1), 1) := by decide +kernel
theorem dX13_knownOne_26 : decode cX13_knownOne 26 = .ok (.if_icmp .eq 16, 3) := by decide +kernel
theorem dX13_knownOne_29 : decode cX13_knownOne 29 = .ok (.aload_n 0, 1) := by decide +kernel
theorem dX13_knownOne_30 : decode cX13_knownOne 30 = .ok (.getfield 149, 3) := by decide +kernel
theorem dX13_knownOne_33 : decode cX13_knownOne 33 = .ok (.getfield 173, 3) := by decide +kernel
theorem dX13_knownOne_36 : decode cX13_knownOne 36 = .ok (.iload_n 2, 1) := by decide +kernel
theorem dX13_knownOne_37 : decode cX13_knownOne 37 = .ok (.iaload, 1) := by decide +kernel
theorem dX13_knownOne_38 : decode cX13_knownOne 38 = .ok (.iload_n 1, 1) := by decide +kernel
theorem dX13_knownOne_39 : decode cX13_knownOne 39 = .ok (.if_icmp .eq 8, 3) := by decide +kernel
theorem dX13_knownOne_42 : decode cX13_knownOne 42 = .ok (.aload_n 0, 1) := by decide +kernel
theorem dX13_knownOne_43 : decode cX13_knownOne 43 = .ok (.iconst 2, 1) := by decide +kernel
theorem dX13_knownOne_44 : decode cX13_knownOne 44 = .ok (.invokevirtual 117, 3) := by decide +kernel
theorem dX13_knownOne_47 : decode cX13_knownOne 47 = .ok (.aload_n 0, 1) := by decide +kernel
theorem dX13_knownOne_48 : decode cX13_knownOne 48 = .ok (.getfield 78, 3) := by decide +kernel
theorem dX13_knownOne_51 : decode cX13_knownOne 51 = .ok (.iconst 5, 1) := by decide +kernel
theorem dX13_knownOne_52 : decode cX13_knownOne 52 = .ok (.if_icmp .ne 7, 3) := by decide +kernel
theorem dX13_knownOne_55 : decode cX13_knownOne 55 = .ok (.iconst 0, 1) := by decide +kernel
theorem dX13_knownOne_56 : decode cX13_knownOne 56 = .ok (.goto 12, 3) := by decide +kernel
theorem dX13_knownOne_59 : decode cX13_knownOne 59 = .ok (.aload_n 0, 1) := by decide +kernel
theorem dX13_knownOne_60 : decode cX13_knownOne 60 = .ok (.getfield 149, 3) := by decide +kernel
theorem dX13_knownOne_63 : decode cX13_knownOne 63 = .ok (.getfield 176, 3) := by decide +kernel
theorem dX13_knownOne_66 : decode cX13_knownOne 66 = .ok (.iload_n 2, 1) := by decide +kernel
theorem dX13_knownOne_67 : decode cX13_knownOne 67 = .ok (.iaload, 1) := by decide +kernel
theorem dX13_knownOne_68 : decode cX13_knownOne 68 = .ok (.ireturn, 1) := by decide +kernel
theorem dX13_readKnown_0 : decode cX13_readKnown 0 = .ok (.aload_n 0, 1) := by decide +kernel
theorem dX13_readKnown_1 : decode cX13_readKnown 1 = .ok (.iload_n 1, 1) := by decide +kernel
theorem dX13_readKnown_2 : decode cX13_readKnown 2 = .ok (.invokevirtual 179, 3) := by decide +kernel
theorem dX13_readKnown_5 : decode cX13_readKnown 5 = .ok (.istore_n 2, 1) := by decide +kernel
theorem dX13_readKnown_6 : decode cX13_readKnown 6 = .ok (.aload_n 0, 1) := by decide +kernel
theorem dX13_readKnown_7 : decode cX13_readKnown 7 = .ok (.invokevirtual 114, 3) := by decide +kernel
theorem dX13_readKnown_10 : decode cX13_readKnown 10 = .ok (.iload_n 2, 1) := by decide +kernel
theorem dX13_readKnown_11 : decode cX13_readKnown 11 = .ok (.ireturn, 1) := by decide +kernel
theorem dX13_readNails_0 : decode cX13_readNails 0 = .ok (.aload_n 0, 1) := by decide +kernel
theorem dX13_readNails_1 : decode cX13_readNails 1 = .ok (.iconst 0, 1) := by decide +kernel
theorem dX13_readNails_2 : decode cX13_readNails 2 = .ok (.invokevirtual 182, 3) := by decide +kernel
theorem dX13_readNails_5 : decode cX13_readNails 5 = .ok (.istore_n 1, 1) := by decide +kernel
theorem dX13_readNails_6 : decode cX13_readNails 6 = .ok (.aload_n 0, 1) := by decide +kernel
theorem dX13_readNails_7 : decode cX13_readNails 7 = .ok (.aload_n 0, 1) := by decide +kernel
theorem dX13_readNails_8 : decode cX13_readNails 8 = .ok (.iconst 0, 1) := by decide +kernel
theorem dX13_readNails_9 : decode cX13_readNails 9 = .ok (.invokevirtual 179, 3) := by decide +kernel
theorem dX13_readNails_12 : decode cX13_readNails 12 = .ok (.putfield 185, 3) := by decide +kernel
theorem dX13_readNails_15 : decode cX13_readNails 15 = .ok (.aload_n 0, 1) := by decide +kernel
theorem dX13_readNails_16 : decode cX13_readNails 16 = .ok (.getfield 78, 3) := by decide +kernel
theorem dX13_readNails_19 : decode cX13_readNails 19 = .ok (.iconst 5, 1) := by decide +kernel
theorem dX13_readNails_20 : decode cX13_readNails 20 = .ok (.if_icmp .eq 16, 3) := by decide +kernel
theorem dX13_readNails_23 : decode cX13_readNails 23 = .ok (.iload_n 1, 1) := by decide +kernel
theorem dX13_readNails_24 : decode cX13_readNails 24 = .ok (.aload_n 0, 1) := by decide +kernel
theorem dX13_readNails_25 : decode cX13_readNails 25 = .ok (.getfield 185, 3) := by decide +kernel
theorem dX13_readNails_28 : decode cX13_readNails 28 = .ok (.if_icmp .ne 8, 3) := by decide +kernel
theorem dX13_readNails_31 : decode cX13_readNails 31 = .ok (.aload_n 0, 1) := by decide +kernel
theorem dX13_readNails_32 : decode cX13_readNails 32 = .ok (.iconst 3, 1) := by decide +kernel
theorem dX13_readNails_33 : decode cX13_readNails 33 = .ok (.invokevirtual 117, 3) := by decide +kernel
theorem dX13_readNails_36 : decode cX13_readNails 36 = .ok (.aload_n 0, 1) := by decide +kernel
theorem dX13_readNails_37 : decode cX13_readNails 37 = .ok (.invokevirtual 114, 3) := by decide +kernel
theorem dX13_readNails_40 : decode cX13_readNails 40 = .ok (.iload_n 1, 1) := by decide +kernel
theorem dX13_readNails_41 : decode cX13_readNails 41 = .ok (.ireturn, 1) := by decide +kernel
theorem dX13_readAll_0 : decode cX13_readAll 0 = .ok (.iconst 1, 1) := by decide +kernel
theorem dX13_readAll_1 : decode cX13_readAll 1 = .ok (.istore_n 1, 1) := by decide +kernel
theorem dX13_readAll_2 : decode cX13_readAll 2 = .ok (.iload_n 1, 1) := by decide +kernel
theorem dX13_readAll_3 : decode cX13_readAll 3 = .ok (.ifCond .eq 15, 3) := by decide +kernel
theorem dX13_readAll_6 : decode cX13_readAll 6 = .ok (.aload_n 0, 1) := by decide +kernel
theorem dX13_readAll_7 : decode cX13_readAll 7 = .ok (.invokevirtual 188, 3) := by decide +kernel
theorem dX13_readAll_10 : decode cX13_readAll 10 = .ok (.aload_n 0, 1) := by decide +kernel
theorem dX13_readAll_11 : decode cX13_readAll 11 = .ok (.invokevirtual 191, 3) := by decide +kernel
theorem dX13_readAll_14 : decode cX13_readAll 14 = .ok (.istore_n 1, 1) := by decide +kernel
theorem dX13_readAll_15 : decode cX13_readAll 15 = .ok (.goto (-13), 3) := by decide +kernel
theorem dX13_readAll_18 : decode cX13_readAll 18 = .ok (.aload_n 0, 1) := by decide +kernel
theorem dX13_readAll_19 : decode cX13_readAll 19 = .ok (.getfield 78, 3) := by decide +kernel
theorem dX13_readAll_22 : decode cX13_readAll 22 = .ok (.iconst 1, 1) := by decide +kernel
theorem dX13_readAll_23 : decode cX13_readAll 23 = .ok (.if_icmp .eq 8, 3) := by decide +kernel
theorem dX13_readAll_26 : decode cX13_readAll 26 = .ok (.aload_n 0, 1) := by decide +kernel
theorem dX13_readAll_27 : decode cX13_readAll 27 = .ok (.iconst 1, 1) := by decide +kernel
theorem dX13_readAll_28 : decode cX13_readAll 28 = .ok (.invokevirtual 117, 3) := by decide +kernel
theorem dX13_readAll_31 : decode cX13_readAll 31 = .ok (.aload_n 0, 1) := by decide +kernel
theorem dX13_readAll_32 : decode cX13_readAll 32 = .ok (.getfield 149, 3) := by decide +kernel
theorem dX13_readAll_35 : decode cX13_readAll 35 = .ok (.getfield 194, 3) := by decide +kernel
theorem dX13_readAll_38 : decode cX13_readAll 38 = .ok (.ifCond .ne 9, 3) := by decide +kernel
theorem dX13_readAll_41 : decode cX13_readAll 41 = .ok (.aload_n 0, 1) := by decide +kernel
theorem dX13_readAll_42 : decode cX13_readAll 42 = .ok (.bipush 6, 2) := by decide +kernel
theorem dX13_readAll_44 : decode cX13_readAll 44 = .ok (.invokevirtual 117, 3) := by decide +kernel
theorem dX13_readAll_47 : decode cX13_readAll 47 = .ok (.return_, 1) := by decide +kernel
theorem dX13_readLine_0 : decode cX13_readLine 0 = .ok (.aload_n 0, 1) := by decide +kernel
theorem dX13_readLine_1 : decode cX13_readLine 1 = .ok (.ldc 133, 2) := by decide +kernel
theorem dX13_readLine_3 : decode cX13_readLine 3 = .ok (.invokevirtual 125, 3) := by decide +kernel
theorem dX13_readLine_6 : decode cX13_readLine 6 = .ok (.ifCond .eq 10, 3) := by decide +kernel
theorem dX13_readLine_9 : decode cX13_readLine 9 = .ok (.aload_n 0, 1) := by decide +kernel
theorem dX13_readLine_10 : decode cX13_readLine 10 = .ok (.invokevirtual 197, 3) := by decide +kernel
theorem dX13_readLine_13 : decode cX13_readLine 13 = .ok (.goto 120, 3) := by decide +kernel
theorem dX13_readLine_16 : decode cX13_readLine 16 = .ok (.aload_n 0, 1) := by decide +kernel
theorem dX13_readLine_17 : decode cX13_readLine 17 = .ok (.ldc 135, 2) := by decide +kernel
theorem dX13_readLine_19 : decode cX13_readLine 19 = .ok (.invokevirtual 125, 3) := by decide +kernel
theorem dX13_readLine_22 : decode cX13_readLine 22 = .ok (.ifCond .eq 10, 3) := by decide +kernel
theorem dX13_readLine_25 : decode cX13_readLine 25 = .ok (.aload_n 0, 1) := by decide +kernel
theorem dX13_readLine_26 : decode cX13_readLine 26 = .ok (.invokevirtual 200, 3) := by decide +kernel
theorem dX13_readLine_29 : decode cX13_readLine 29 = .ok (.goto 104, 3) := by decide +kernel
theorem dX13_readLine_32 : decode cX13_readLine 32 = .ok (.aload_n 0, 1) := by decide +kernel
theorem dX13_readLine_33 : decode cX13_readLine 33 = .ok (.ldc 137, 2) := by decide +kernel
theorem dX13_readLine_35 : decode cX13_readLine 35 = .ok (.invokevirtual 125, 3) := by decide +kernel
theorem dX13_readLine_38 : decode cX13_readLine 38 = .ok (.ifCond .eq 10, 3) := by decide +kernel
theorem dX13_readLine_41 : decode cX13_readLine 41 = .ok (.aload_n 0, 1) := by decide +kernel
theorem dX13_readLine_42 : decode cX13_readLine 42 = .ok (.invokevirtual 203, 3) := by decide +kernel
theorem dX13_readLine_45 : decode cX13_readLine 45 = .ok (.goto 88, 3) := by decide +kernel
theorem dX13_readLine_48 : decode cX13_readLine 48 = .ok (.aload_n 0, 1) := by decide +kernel
theorem dX13_readLine_49 : decode cX13_readLine 49 = .ok (.ldc 139, 2) := by decide +kernel
theorem dX13_readLine_51 : decode cX13_readLine 51 = .ok (.invokevirtual 125, 3) := by decide +kernel
theorem dX13_readLine_54 : decode cX13_readLine 54 = .ok (.ifCond .eq 10, 3) := by decide +kernel
theorem dX13_readLine_57 : decode cX13_readLine 57 = .ok (.aload_n 0, 1) := by decide +kernel
theorem dX13_readLine_58 : decode cX13_readLine 58 = .ok (.invokevirtual 206, 3) := by decide +kernel
theorem dX13_readLine_61 : decode cX13_readLine 61 = .ok (.goto 72, 3) := by decide +kernel
theorem dX13_readLine_64 : decode cX13_readLine 64 = .ok (.aload_n 0, 1) := by decide +kernel
theorem dX13_readLine_65 : decode cX13_readLine 65 = .ok (.ldc 141, 2) := by decide +kernel
theorem dX13_readLine_67 : decode cX13_readLine 67 = .ok (.invokevirtual 125, 3) := by decide +kernel
theorem dX13_readLine_70 : decode cX13_readLine 70 = .ok (.ifCond .eq 10, 3) := by decide +kernel
theorem dX13_readLine_73 : decode cX13_readLine 73 = .ok (.aload_n 0, 1) := by decide +kernel
theorem dX13_readLine_74 : decode cX13_readLine 74 = .ok (.invokevirtual 209, 3) := by decide +kernel
theorem dX13_readLine_77 : decode cX13_readLine 77 = .ok (.goto 56, 3) := by decide +kernel
theorem dX13_readLine_80 : decode cX13_readLine 80 = .ok (.aload_n 0, 1) := by decide +kernel
theorem dX13_readLine_81 : decode cX13_readLine 81 = .ok (.ldc 143, 2) := by decide +kernel
theorem dX13_readLine_83 : decode cX13_readLine 83 = .ok (.invokevirtual 125, 3) := by decide +kernel
theorem dX13_readLine_86 : decode cX13_readLine 86 = .ok (.ifCond .eq 10, 3) := by decide +kernel
theorem dX13_readLine_89 : decode cX13_readLine 89 = .ok (.aload_n 0, 1) := by decide +kernel
theorem dX13_readLine_90 : decode cX13_readLine 90 = .ok (.invokevirtual 212, 3) := by decide +kernel
theorem dX13_readLine_93 : decode cX13_readLine 93 = .ok (.goto 40, 3) := by decide +kernel
theorem dX13_readLine_96 : decode cX13_readLine 96 = .ok (.aload_n 0, 1) := by decide +kernel
theorem dX13_readLine_97 : decode cX13_readLine 97 = .ok (.ldc 145, 2) := by decide +kernel
theorem dX13_readLine_99 : decode cX13_readLine 99 = .ok (.invokevirtual 125, 3) := by decide +kernel
theorem dX13_readLine_102 : decode cX13_readLine 102 = .ok (.ifCond .eq 10, 3) := by decide +kernel
theorem dX13_readLine_105 : decode cX13_readLine 105 = .ok (.aload_n 0, 1) := by decide +kernel
theorem dX13_readLine_106 : decode cX13_readLine 106 = .ok (.invokevirtual 215, 3) := by decide +kernel
theorem dX13_readLine_109 : decode cX13_readLine 109 = .ok (.goto 24, 3) := by decide +kernel
theorem dX13_readLine_112 : decode cX13_readLine 112 = .ok (.aload_n 0, 1) := by decide +kernel
theorem dX13_readLine_113 : decode cX13_readLine 113 = .ok (.ldc 147, 2) := by decide +kernel
theorem dX13_readLine_115 : decode cX13_readLine 115 = .ok (.invokevirtual 125, 3) := by decide +kernel
theorem dX13_readLine_118 : decode cX13_readLine 118 = .ok (.ifCond .eq 10, 3) := by decide +kernel
theorem dX13_readLine_121 : decode cX13_readLine 121 = .ok (.aload_n 0, 1) := by decide +kernel
theorem dX13_readLine_122 : decode cX13_readLine 122 = .ok (.invokevirtual 218, 3) := by decide +kernel
theorem dX13_readLine_125 : decode cX13_readLine 125 = .ok (.goto 8, 3) := by decide +kernel
theorem dX13_readLine_128 : decode cX13_readLine 128 = .ok (.aload_n 0, 1) := by decide +kernel
theorem dX13_readLine_129 : decode cX13_readLine 129 = .ok (.iconst 1, 1) := by decide +kernel
theorem dX13_readLine_130 : decode cX13_readLine 130 = .ok (.invokevirtual 117, 3) := by decide +kernel
theorem dX13_readLine_133 : decode cX13_readLine 133 = .ok (.return_, 1) := by decide +kernel
theorem dX13_readWeb_0 : decode cX13_readWeb 0 = .ok (.aload_n 0, 1) := by decide +kernel
theorem dX13_readWeb_1 : decode cX13_readWeb 1 = .ok (.getfield 149, 3) := by decide +kernel
theorem dX13_readWeb_4 : decode cX13_readWeb 4 = .ok (.getfield 153, 3) := by decide +kernel
theorem dX13_readWeb_7 : decode cX13_readWeb 7 = .ok (.iconst (-1), 1) := by decide +kernel
theorem dX13_readWeb_8 : decode cX13_readWeb 8 = .ok (.if_icmp .eq 8, 3) := by decide +kernel
theorem dX13_readWeb_11 : decode cX13_readWeb 11 = .ok (.aload_n 0, 1) := by decide +kernel
theorem dX13_readWeb_12 : decode cX13_readWeb 12 = .ok (.iconst 3, 1) := by decide +kernel
theorem dX13_readWeb_13 : decode cX13_readWeb 13 = .ok (.invokevirtual 117, 3) := by decide +kernel
theorem dX13_readWeb_16 : decode cX13_readWeb 16 = .ok (.aload_n 0, 1) := by decide +kernel
theorem dX13_readWeb_17 : decode cX13_readWeb 17 = .ok (.invokevirtual 114, 3) := by decide +kernel
theorem dX13_readWeb_20 : decode cX13_readWeb 20 = .ok (.aload_n 0, 1) := by decide +kernel
theorem dX13_readWeb_21 : decode cX13_readWeb 21 = .ok (.ldc 221, 2) := by decide +kernel
theorem dX13_readWeb_23 : decode cX13_readWeb 23 = .ok (.iconst 0, 1) := by decide +kernel
theorem dX13_readWeb_24 : decode cX13_readWeb 24 = .ok (.bipush 100, 2) := by decide +kernel
theorem dX13_readWeb_26 : decode cX13_readWeb 26 = .ok (.invokevirtual 222, 3) := by decide +kernel
theorem dX13_readWeb_29 : decode cX13_readWeb 29 = .ok (.istore_n 1, 1) := by decide +kernel
theorem dX13_readWeb_30 : decode cX13_readWeb 30 = .ok (.aload_n 0, 1) := by decide +kernel
theorem dX13_readWeb_31 : decode cX13_readWeb 31 = .ok (.ldc 226, 2) := by decide +kernel
theorem dX13_readWeb_33 : decode cX13_readWeb 33 = .ok (.iconst 0, 1) := by decide +kernel
theorem dX13_readWeb_34 : decode cX13_readWeb 34 = .ok (.bipush 100, 2) := by decide +kernel
theorem dX13_readWeb_36 : decode cX13_readWeb 36 = .ok (.invokevirtual 222, 3) := by decide +kernel
theorem dX13_readWeb_39 : decode cX13_readWeb 39 = .ok (.istore_n 2, 1) := by decide +kernel
theorem dX13_readWeb_40 : decode cX13_readWeb 40 = .ok (.aload_n 0, 1) := by decide +kernel
theorem dX13_readWeb_41 : decode cX13_readWeb 41 = .ok (.getfield 78, 3) := by decide +kernel
theorem dX13_readWeb_44 : decode cX13_readWeb 44 = .ok (.iconst 5, 1) := by decide +kernel
theorem dX13_readWeb_45 : decode cX13_readWeb 45 = .ok (.if_icmp .ne 4, 3) := by decide +kernel
theorem dX13_readWeb_48 : decode cX13_readWeb 48 = .ok (.return_, 1) := by decide +kernel
theorem dX13_readWeb_49 : decode cX13_readWeb 49 = .ok (.aload_n 0, 1) := by decide +kernel
theorem dX13_readWeb_50 : decode cX13_readWeb 50 = .ok (.getfield 149, 3) := by decide +kernel
theorem dX13_readWeb_53 : decode cX13_readWeb 53 = .ok (.iload_n 1, 1) := by decide +kernel
theorem dX13_readWeb_54 : decode cX13_readWeb 54 = .ok (.putfield 153, 3) := by decide +kernel
theorem dX13_readWeb_57 : decode cX13_readWeb 57 = .ok (.aload_n 0, 1) := by decide +kernel
theorem dX13_readWeb_58 : decode cX13_readWeb 58 = .ok (.getfield 149, 3) := by decide +kernel
theorem dX13_readWeb_61 : decode cX13_readWeb 61 = .ok (.iload_n 2, 1) := by decide +kernel
theorem dX13_readWeb_62 : decode cX13_readWeb 62 = .ok (.putfield 228, 3) := by decide +kernel
theorem dX13_readWeb_65 : decode cX13_readWeb 65 = .ok (.return_, 1) := by decide +kernel
theorem dX13_readNail_0 : decode cX13_readNail 0 = .ok (.aload_n 0, 1) := by decide +kernel
theorem dX13_readNail_1 : decode cX13_readNail 1 = .ok (.aload_n 0, 1) := by decide +kernel
theorem dX13_readNail_2 : decode cX13_readNail 2 = .ok (.getfield 149, 3) := by decide +kernel
theorem dX13_readNail_5 : decode cX13_readNail 5 = .ok (.getfield 194, 3) := by decide +kernel
theorem dX13_readNail_8 : decode cX13_readNail 8 = .ok (.bipush 7, 2) := by decide +kernel
theorem dX13_readNail_10 : decode cX13_readNail 10 = .ok (.invokevirtual 230, 3) := by decide +kernel
theorem dX13_readNail_13 : decode cX13_readNail 13 = .ok (.aload_n 0, 1) := by decide +kernel
theorem dX13_readNail_14 : decode cX13_readNail 14 = .ok (.invokevirtual 234, 3) := by decide +kernel
theorem dX13_readNail_17 : decode cX13_readNail 17 = .ok (.lstore_n 1, 1) := by decide +kernel
theorem dX13_readNail_18 : decode cX13_readNail 18 = .ok (.aload_n 0, 1) := by decide +kernel
theorem dX13_readNail_19 : decode cX13_readNail 19 = .ok (.getfield 78, 3) := by decide +kernel
theorem dX13_readNail_22 : decode cX13_readNail 22 = .ok (.iconst 5, 1) := by decide +kernel
theorem dX13_readNail_23 : decode cX13_readNail 23 = .ok (.if_icmp .ne 4, 3) := by decide +kernel
theorem dX13_readNail_26 : decode cX13_readNail 26 = .ok (.return_, 1) := by decide +kernel
theorem dX13_readNail_27 : decode cX13_readNail 27 = .ok (.aload_n 0, 1) := by decide +kernel
theorem dX13_readNail_28 : decode cX13_readNail 28 = .ok (.lload_n 1, 1) := by decide +kernel
theorem dX13_readNail_29 : decode cX13_readNail 29 = .ok (.iconst 0, 1) := by decide +kernel
theorem dX13_readNail_30 : decode cX13_readNail 30 = .ok (.aload_n 0, 1) := by decide +kernel
theorem dX13_readNail_31 : decode cX13_readNail 31 = .ok (.getfield 149, 3) := by decide +kernel
theorem dX13_readNail_34 : decode cX13_readNail 34 = .ok (.getfield 194, 3) := by decide +kernel
theorem dX13_readNail_37 : decode cX13_readNail 37 = .ok (.invokevirtual 238, 3) := by decide +kernel
theorem dX13_readNail_40 : decode cX13_readNail 40 = .ok (.aload_n 0, 1) := by decide +kernel
theorem dX13_readNail_41 : decode cX13_readNail 41 = .ok (.getfield 149, 3) := by decide +kernel
theorem dX13_readNail_44 : decode cX13_readNail 44 = .ok (.dup, 1) := by decide +kernel
theorem dX13_readNail_45 : decode cX13_readNail 45 = .ok (.getfield 194, 3) := by decide +kernel
theorem dX13_readNail_48 : decode cX13_readNail 48 = .ok (.iconst 1, 1) := by decide +kernel
theorem dX13_readNail_49 : decode cX13_readNail 49 = .ok (.iadd, 1) := by decide +kernel
theorem dX13_readNail_50 : decode cX13_readNail 50 = .ok (.putfield 194, 3) := by decide +kernel
theorem dX13_readNail_53 : decode cX13_readNail 53 = .ok (.return_, 1) := by decide +kernel
theorem dX13_readThread_0 : decode cX13_readThread 0 = .ok (.aload_n 0, 1) := by decide +kernel
theorem dX13_readThread_1 : decode cX13_readThread 1 = .ok (.aload_n 0, 1) := by decide +kernel
theorem dX13_readThread_2 : decode cX13_readThread 2 = .ok (.getfield 149, 3) := by decide +kernel
theorem dX13_readThread_5 : decode cX13_readThread 5 = .ok (.getfield 241, 3) := by decide +kernel
theorem dX13_readThread_8 : decode cX13_readThread 8 = .ok (.bipush 7, 2) := by decide +kernel
theorem dX13_readThread_10 : decode cX13_readThread 10 = .ok (.invokevirtual 230, 3) := by decide +kernel
theorem dX13_readThread_13 : decode cX13_readThread 13 = .ok (.aload_n 0, 1) := by decide +kernel
theorem dX13_readThread_14 : decode cX13_readThread 14 = .ok (.invokevirtual 234, 3) := by decide +kernel
theorem dX13_readThread_17 : decode cX13_readThread 17 = .ok (.lstore_n 1, 1) := by decide +kernel
theorem dX13_readThread_18 : decode cX13_readThread 18 = .ok (.aload_n 0, 1) := by decide +kernel
theorem dX13_readThread_19 : decode cX13_readThread 19 = .ok (.ldc 244, 2) := by decide +kernel
theorem dX13_readThread_21 : decode cX13_readThread 21 = .ok (.invokevirtual 125, 3) := by decide +kernel
theorem dX13_readThread_24 : decode cX13_readThread 24 = .ok (.ifCond .eq 7, 3) := by decide +kernel
theorem dX13_readThread_27 : decode cX13_readThread 27 = .ok (.iconst 0, 1) := by decide +kernel
theorem dX13_readThread_28 : decode cX13_readThread 28 = .ok (.goto 43, 3) := by decide +kernel
theorem dX13_readThread_31 : decode cX13_readThread 31 = .ok (.aload_n 0, 1) := by decide +kernel
theorem dX13_readThread_32 : decode cX13_readThread 32 = .ok (.ldc 245, 2) := by decide +kernel
theorem dX13_readThread_34 : decode cX13_readThread 34 = .ok (.invokevirtual 125, 3) := by decide +kernel
theorem dX13_readThread_37 : decode cX13_readThread 37 = .ok (.ifCond .eq 7, 3) := by decide +kernel
theorem dX13_readThread_40 : decode cX13_readThread 40 = .ok (.iconst 1, 1) := by decide +kernel
theorem dX13_readThread_41 : decode cX13_readThread 41 = .ok (.goto 30, 3) := by decide +kernel
theorem dX13_readThread_44 : decode cX13_readThread 44 = .ok (.aload_n 0, 1) := by decide +kernel
theorem dX13_readThread_45 : decode cX13_readThread 45 = .ok (.ldc 247, 2) := by decide +kernel
theorem dX13_readThread_47 : decode cX13_readThread 47 = .ok (.invokevirtual 125, 3) := by decide +kernel
theorem dX13_readThread_50 : decode cX13_readThread 50 = .ok (.ifCond .eq 7, 3) := by decide +kernel
theorem dX13_readThread_53 : decode cX13_readThread 53 = .ok (.iconst 2, 1) := by decide +kernel
theorem dX13_readThread_54 : decode cX13_readThread 54 = .ok (.goto 17, 3) := by decide +kernel
theorem dX13_readThread_57 : decode cX13_readThread 57 = .ok (.aload_n 0, 1) := by decide +kernel
theorem dX13_readThread_58 : decode cX13_readThread 58 = .ok (.ldc 249, 2) := by decide +kernel
theorem dX13_readThread_60 : decode cX13_readThread 60 = .ok (.invokevirtual 125, 3) := by decide +kernel
theorem dX13_readThread_63 : decode cX13_readThread 63 = .ok (.ifCond .eq 7, 3) := by decide +kernel
theorem dX13_readThread_66 : decode cX13_readThread 66 = .ok (.iconst 3, 1) := by decide +kernel
theorem dX13_readThread_67 : decode cX13_readThread 67 = .ok (.goto 4, 3) := by decide +kernel
theorem dX13_readThread_70 : decode cX13_readThread 70 = .ok (.iconst (-1), 1) := by decide +kernel
theorem dX13_readThread_71 : decode cX13_readThread 71 = .ok (.istore_n 3, 1) := by decide +kernel
theorem dX13_readThread_72 : decode cX13_readThread 72 = .ok (.iload_n 3, 1) := by decide +kernel
theorem dX13_readThread_73 : decode cX13_readThread 73 = .ok (.iconst (-1), 1) := by decide +kernel
theorem dX13_readThread_74 : decode cX13_readThread 74 = .ok (.if_icmp .ne 8, 3) := by decide +kernel
theorem dX13_readThread_77 : decode cX13_readThread 77 = .ok (.aload_n 0, 1) := by decide +kernel
theorem dX13_readThread_78 : decode cX13_readThread 78 = .ok (.iconst 1, 1) := by decide +kernel
theorem dX13_readThread_79 : decode cX13_readThread 79 = .ok (.invokevirtual 117, 3) := by decide +kernel
theorem dX13_readThread_82 : decode cX13_readThread 82 = .ok (.aload_n 0, 1) := by decide +kernel
theorem dX13_readThread_83 : decode cX13_readThread 83 = .ok (.invokevirtual 114, 3) := by decide +kernel
theorem dX13_readThread_86 : decode cX13_readThread 86 = .ok (.aload_n 0, 1) := by decide +kernel
theorem dX13_readThread_87 : decode cX13_readThread 87 = .ok (.invokevirtual 251, 3) := by decide +kernel
theorem dX13_readThread_90 : decode cX13_readThread 90 = .ok (.istore 4, 2) := by decide +kernel
theorem dX13_readThread_92 : decode cX13_readThread 92 = .ok (.aload_n 0, 1) := by decide +kernel
theorem dX13_readThread_93 : decode cX13_readThread 93 = .ok (.getfield 185, 3) := by decide +kernel
theorem dX13_readThread_96 : decode cX13_readThread 96 = .ok (.istore 5, 2) := by decide +kernel
theorem dX13_readThread_98 : decode cX13_readThread 98 = .ok (.aload_n 0, 1) := by decide +kernel
theorem dX13_readThread_99 : decode cX13_readThread 99 = .ok (.ldc 254, 2) := by decide +kernel
theorem dX13_readThread_101 : decode cX13_readThread 101 = .ok (.iconst 1, 1) := by decide +kernel
theorem dX13_readThread_102 : decode cX13_readThread 102 = .ok (.bipush 99, 2) := by decide +kernel
theorem dX13_readThread_104 : decode cX13_readThread 104 = .ok (.invokevirtual 222, 3) := by decide +kernel
theorem dX13_readThread_107 : decode cX13_readThread 107 = .ok (.istore 6, 2) := by decide +kernel
theorem dX13_readThread_109 : decode cX13_readThread 109 = .ok (.aload_n 0, 1) := by decide +kernel
theorem dX13_readThread_110 : decode cX13_readThread 110 = .ok (.ldc_w 256, 3) := by decide +kernel
theorem dX13_readThread_113 : decode cX13_readThread 113 = .ok (.iconst 0, 1) := by decide +kernel
theorem dX13_readThread_114 : decode cX13_readThread 114 = .ok (.bipush 20, 2) := by decide +kernel
theorem dX13_readThread_116 : decode cX13_readThread 116 = .ok (.invokevirtual 222, 3) := by decide +kernel
theorem dX13_readThread_119 : decode cX13_readThread 119 = .ok (.istore 7, 2) := by decide +kernel
theorem dX13_readThread_121 : decode cX13_readThread 121 = .ok (.aload_n 0, 1) := by decide +kernel
theorem dX13_readThread_122 : decode cX13_readThread 122 = .ok (.getfield 78, 3) := by decide +kernel
theorem dX13_readThread_125 : decode cX13_readThread 125 = .ok (.iconst 5, 1) := by decide +kernel
theorem dX13_readThread_126 : decode cX13_readThread 126 = .ok (.if_icmp .ne 4, 3) := by decide +kernel
theorem dX13_readThread_129 : decode cX13_readThread 129 = .ok (.return_, 1) := by decide +kernel
theorem dX13_readThread_130 : decode cX13_readThread 130 = .ok (.aload_n 0, 1) := by decide +kernel
theorem dX13_readThread_131 : decode cX13_readThread 131 = .ok (.getfield 149, 3) := by decide +kernel
theorem dX13_readThread_134 : decode cX13_readThread 134 = .ok (.getfield 241, 3) := by decide +kernel
theorem dX13_readThread_137 : decode cX13_readThread 137 = .ok (.istore 8, 2) := by decide +kernel
theorem dX13_readThread_139 : decode cX13_readThread 139 = .ok (.aload_n 0, 1) := by decide +kernel
theorem dX13_readThread_140 : decode cX13_readThread 140 = .ok (.lload_n 1, 1) := by decide +kernel
theorem dX13_readThread_141 : decode cX13_readThread 141 = .ok (.iconst 1, 1) := by decide +kernel
theorem dX13_readThread_142 : decode cX13_readThread 142 = .ok (.iload 8, 2) := by decide +kernel
theorem dX13_readThread_144 : decode cX13_readThread 144 = .ok (.invokevirtual 238, 3) := by decide +kernel
theorem dX13_readThread_147 : decode cX13_readThread 147 = .ok (.aload_n 0, 1) := by decide +kernel
theorem dX13_readThread_148 : decode cX13_readThread 148 = .ok (.getfield 149, 3) := by decide +kernel
theorem dX13_readThread_151 : decode cX13_readThread 151 = .ok (.getfield 258, 3) := by decide +kernel
theorem dX13_readThread_154 : decode cX13_readThread 154 = .ok (.iload 8, 2) := by decide +kernel
theorem dX13_readThread_156 : decode cX13_readThread 156 = .ok (.iload_n 3, 1) := by decide +kernel
theorem dX13_readThread_157 : decode cX13_readThread 157 = .ok (.iastore, 1) := by decide +kernel
theorem dX13_readThread_158 : decode cX13_readThread 158 = .ok (.aload_n 0, 1) := by decide +kernel
theorem dX13_readThread_159 : decode cX13_readThread 159 = .ok (.getfield 149, 3) := by decide +kernel
theorem dX13_readThread_162 : decode cX13_readThread 162 = .ok (.getfield 261, 3) := by decide +kernel
theorem dX13_readThread_165 : decode cX13_readThread 165 = .ok (.iload 8, 2) := by decide +kernel
theorem dX13_readThread_167 : decode cX13_readThread 167 = .ok (.iload 4, 2) := by decide +kernel
theorem dX13_readThread_169 : decode cX13_readThread 169 = .ok (.iastore, 1) := by decide +kernel
theorem dX13_readThread_170 : decode cX13_readThread 170 = .ok (.aload_n 0, 1) := by decide +kernel
theorem dX13_readThread_171 : decode cX13_readThread 171 = .ok (.getfield 149, 3) := by decide +kernel
theorem dX13_readThread_174 : decode cX13_readThread 174 = .ok (.getfield 264, 3) := by decide +kernel
theorem dX13_readThread_177 : decode cX13_readThread 177 = .ok (.iload 8, 2) := by decide +kernel
theorem dX13_readThread_179 : decode cX13_readThread 179 = .ok (.iload 5, 2) := by decide +kernel
theorem dX13_readThread_181 : decode cX13_readThread 181 = .ok (.iastore, 1) := by decide +kernel
theorem dX13_readThread_182 : decode cX13_readThread 182 = .ok (.aload_n 0, 1) := by decide +kernel
theorem dX13_readThread_183 : decode cX13_readThread 183 = .ok (.getfield 149, 3) := by decide +kernel
theorem dX13_readThread_186 : decode cX13_readThread 186 = .ok (.getfield 267, 3) := by decide +kernel
theorem dX13_readThread_189 : decode cX13_readThread 189 = .ok (.iload 8, 2) := by decide +kernel
theorem dX13_readThread_191 : decode cX13_readThread 191 = .ok (.iload 6, 2) := by decide +kernel
theorem dX13_readThread_193 : decode cX13_readThread 193 = .ok (.iastore, 1) := by decide +kernel
theorem dX13_readThread_194 : decode cX13_readThread 194 = .ok (.aload_n 0, 1) := by decide +kernel
theorem dX13_readThread_195 : decode cX13_readThread 195 = .ok (.getfield 149, 3) := by decide +kernel
theorem dX13_readThread_198 : decode cX13_readThread 198 = .ok (.getfield 269, 3) := by decide +kernel
theorem dX13_readThread_201 : decode cX13_readThread 201 = .ok (.iload 8, 2) := by decide +kernel
theorem dX13_readThread_203 : decode cX13_readThread 203 = .ok (.iload 7, 2) := by decide +kernel
theorem dX13_readThread_205 : decode cX13_readThread 205 = .ok (.iastore, 1) := by decide +kernel
theorem dX13_readThread_206 : decode cX13_readThread 206 = .ok (.aload_n 0, 1) := by decide +kernel
theorem dX13_readThread_207 : decode cX13_readThread 207 = .ok (.getfield 149, 3) := by decide +kernel
theorem dX13_readThread_210 : decode cX13_readThread 210 = .ok (.dup, 1) := by decide +kernel
theorem dX13_readThread_211 : decode cX13_readThread 211 = .ok (.getfield 241, 3) := by decide +kernel
theorem dX13_readThread_214 : decode cX13_readThread 214 = .ok (.iconst 1, 1) := by decide +kernel
theorem dX13_readThread_215 : decode cX13_readThread 215 = .ok (.iadd, 1) := by decide +kernel
theorem dX13_readThread_216 : decode cX13_readThread 216 = .ok (.putfield 241, 3) := by decide +kernel
theorem dX13_readThread_219 : decode cX13_readThread 219 = .ok (.return_, 1) := by decide +kernel
theorem dX13_readClash_0 : decode cX13_readClash 0 = .ok (.aload_n 0, 1) := by decide +kernel
theorem dX13_readClash_1 : decode cX13_readClash 1 = .ok (.aload_n 0, 1) := by decide +kernel
theorem dX13_readClash_2 : decode cX13_readClash 2 = .ok (.getfield 149, 3) := by decide +kernel
theorem dX13_readClash_5 : decode cX13_readClash 5 = .ok (.getfield 271, 3) := by decide +kernel
theorem dX13_readClash_8 : decode cX13_readClash 8 = .ok (.bipush 8, 2) := by decide +kernel
theorem dX13_readClash_10 : decode cX13_readClash 10 = .ok (.invokevirtual 230, 3) := by decide +kernel
theorem dX13_readClash_13 : decode cX13_readClash 13 = .ok (.aload_n 0, 1) := by decide +kernel
theorem dX13_readClash_14 : decode cX13_readClash 14 = .ok (.iconst 1, 1) := by decide +kernel
theorem dX13_readClash_15 : decode cX13_readClash 15 = .ok (.invokevirtual 182, 3) := by decide +kernel
theorem dX13_readClash_18 : decode cX13_readClash 18 = .ok (.istore_n 1, 1) := by decide +kernel
theorem dX13_readClash_19 : decode cX13_readClash 19 = .ok (.aload_n 0, 1) := by decide +kernel
theorem dX13_readClash_20 : decode cX13_readClash 20 = .ok (.iconst 1, 1) := by decide +kernel
theorem dX13_readClash_21 : decode cX13_readClash 21 = .ok (.invokevirtual 179, 3) := by decide +kernel
theorem dX13_readClash_24 : decode cX13_readClash 24 = .ok (.istore_n 2, 1) := by decide +kernel
theorem dX13_readClash_25 : decode cX13_readClash 25 = .ok (.aload_n 0, 1) := by decide +kernel
theorem dX13_readClash_26 : decode cX13_readClash 26 = .ok (.getfield 78, 3) := by decide +kernel
theorem dX13_readClash_29 : decode cX13_readClash 29 = .ok (.iconst 5, 1) := by decide +kernel
theorem dX13_readClash_30 : decode cX13_readClash 30 = .ok (.if_icmp .eq 29, 3) := by decide +kernel
theorem dX13_readClash_33 : decode cX13_readClash 33 = .ok (.iload_n 1, 1) := by decide +kernel
theorem dX13_readClash_34 : decode cX13_readClash 34 = .ok (.iload_n 2, 1) := by decide +kernel
theorem dX13_readClash_35 : decode cX13_readClash 35 = .ok (.if_icmp .eq 19, 3) := by decide +kernel
theorem dX13_readClash_38 : decode cX13_readClash 38 = .ok (.aload_n 0, 1) := by decide +kernel
theorem dX13_readClash_39 : decode cX13_readClash 39 = .ok (.getfield 149, 3) := by decide +kernel
theorem dX13_readClash_42 : decode cX13_readClash 42 = .ok (.getfield 274, 3) := by decide +kernel
theorem dX13_readClash_45 : decode cX13_readClash 45 = .ok (.iload_n 1, 1) := by decide +kernel
theorem dX13_readClash_46 : decode cX13_readClash 46 = .ok (.iaload, 1) := by decide +kernel
theorem dX13_readClash_47 : decode cX13_readClash 47 = .ok (.iload_n 2, 1) := by decide +kernel
theorem dX13_readClash_48 : decode cX13_readClash 48 = .ok (.invokestatic 277, 3) := by decide +kernel
theorem dX13_readClash_51 : decode cX13_readClash 51 = .ok (.ifCond .eq 8, 3) := by decide +kernel
theorem dX13_readClash_54 : decode cX13_readClash 54 = .ok (.aload_n 0, 1) := by decide +kernel
theorem dX13_readClash_55 : decode cX13_readClash 55 = .ok (.iconst 3, 1) := by decide +kernel
theorem dX13_readClash_56 : decode cX13_readClash 56 = .ok (.invokevirtual 117, 3) := by decide +kernel
theorem dX13_readClash_59 : decode cX13_readClash 59 = .ok (.aload_n 0, 1) := by decide +kernel
theorem dX13_readClash_60 : decode cX13_readClash 60 = .ok (.invokevirtual 114, 3) := by decide +kernel
theorem dX13_readClash_63 : decode cX13_readClash 63 = .ok (.aload_n 0, 1) := by decide +kernel
theorem dX13_readClash_64 : decode cX13_readClash 64 = .ok (.getfield 78, 3) := by decide +kernel
theorem dX13_readClash_67 : decode cX13_readClash 67 = .ok (.iconst 5, 1) := by decide +kernel
theorem dX13_readClash_68 : decode cX13_readClash 68 = .ok (.if_icmp .ne 4, 3) := by decide +kernel
theorem dX13_readClash_71 : decode cX13_readClash 71 = .ok (.return_, 1) := by decide +kernel
theorem dX13_readClash_72 : decode cX13_readClash 72 = .ok (.aload_n 0, 1) := by decide +kernel
theorem dX13_readClash_73 : decode cX13_readClash 73 = .ok (.getfield 149, 3) := by decide +kernel
theorem dX13_readClash_76 : decode cX13_readClash 76 = .ok (.getfield 274, 3) := by decide +kernel
theorem dX13_readClash_79 : decode cX13_readClash 79 = .ok (.iload_n 1, 1) := by decide +kernel
theorem dX13_readClash_80 : decode cX13_readClash 80 = .ok (.dup2, 1) := by decide +kernel
theorem dX13_readClash_81 : decode cX13_readClash 81 = .ok (.iaload, 1) := by decide +kernel
theorem dX13_readClash_82 : decode cX13_readClash 82 = .ok (.iconst 1, 1) := by decide +kernel
theorem dX13_readClash_83 : decode cX13_readClash 83 = .ok (.iload_n 2, 1) := by decide +kernel
theorem dX13_readClash_84 : decode cX13_readClash 84 = .ok (.ishl, 1) := by decide +kernel
theorem dX13_readClash_85 : decode cX13_readClash 85 = .ok (.ior, 1) := by decide +kernel
theorem dX13_readClash_86 : decode cX13_readClash 86 = .ok (.iastore, 1) := by decide +kernel
theorem dX13_readClash_87 : decode cX13_readClash 87 = .ok (.aload_n 0, 1) := by decide +kernel
theorem dX13_readClash_88 : decode cX13_readClash 88 = .ok (.getfield 149, 3) := by decide +kernel
theorem dX13_readClash_91 : decode cX13_readClash 91 = .ok (.getfield 274, 3) := by decide +kernel
theorem dX13_readClash_94 : decode cX13_readClash 94 = .ok (.iload_n 2, 1) := by decide +kernel
theorem dX13_readClash_95 : decode cX13_readClash 95 = .ok (.dup2, 1) := by decide +kernel
theorem dX13_readClash_96 : decode cX13_readClash 96 = .ok (.iaload, 1) := by decide +kernel
theorem dX13_readClash_97 : decode cX13_readClash 97 = .ok (.iconst 1, 1) := by decide +kernel
theorem dX13_readClash_98 : decode cX13_readClash 98 = .ok (.iload_n 1, 1) := by decide +kernel
theorem dX13_readClash_99 : decode cX13_readClash 99 = .ok (.ishl, 1) := by decide +kernel
theorem dX13_readClash_100 : decode cX13_readClash 100 = .ok (.ior, 1) := by decide +kernel
theorem dX13_readClash_101 : decode cX13_readClash 101 = .ok (.iastore, 1) := by decide +kernel
theorem dX13_readClash_102 : decode cX13_readClash 102 = .ok (.aload_n 0, 1) := by decide +kernel
theorem dX13_readClash_103 : decode cX13_readClash 103 = .ok (.getfield 149, 3) := by decide +kernel
theorem dX13_readClash_106 : decode cX13_readClash 106 = .ok (.getfield 281, 3) := by decide +kernel
theorem dX13_readClash_109 : decode cX13_readClash 109 = .ok (.aload_n 0, 1) := by decide +kernel
theorem dX13_readClash_110 : decode cX13_readClash 110 = .ok (.getfield 149, 3) := by decide +kernel
theorem dX13_readClash_113 : decode cX13_readClash 113 = .ok (.getfield 271, 3) := by decide +kernel
theorem dX13_readClash_116 : decode cX13_readClash 116 = .ok (.iload_n 1, 1) := by decide +kernel
theorem dX13_readClash_117 : decode cX13_readClash 117 = .ok (.iastore, 1) := by decide +kernel
theorem dX13_readClash_118 : decode cX13_readClash 118 = .ok (.aload_n 0, 1) := by decide +kernel
theorem dX13_readClash_119 : decode cX13_readClash 119 = .ok (.getfield 149, 3) := by decide +kernel
theorem dX13_readClash_122 : decode cX13_readClash 122 = .ok (.getfield 284, 3) := by decide +kernel
theorem dX13_readClash_125 : decode cX13_readClash 125 = .ok (.aload_n 0, 1) := by decide +kernel
theorem dX13_readClash_126 : decode cX13_readClash 126 = .ok (.getfield 149, 3) := by decide +kernel
theorem dX13_readClash_129 : decode cX13_readClash 129 = .ok (.getfield 271, 3) := by decide +kernel
theorem dX13_readClash_132 : decode cX13_readClash 132 = .ok (.iload_n 2, 1) := by decide +kernel
theorem dX13_readClash_133 : decode cX13_readClash 133 = .ok (.iastore, 1) := by decide +kernel
theorem dX13_readClash_134 : decode cX13_readClash 134 = .ok (.aload_n 0, 1) := by decide +kernel
theorem dX13_readClash_135 : decode cX13_readClash 135 = .ok (.getfield 149, 3) := by decide +kernel
theorem dX13_readClash_138 : decode cX13_readClash 138 = .ok (.dup, 1) := by decide +kernel
theorem dX13_readClash_139 : decode cX13_readClash 139 = .ok (.getfield 271, 3) := by decide +kernel
theorem dX13_readClash_142 : decode cX13_readClash 142 = .ok (.iconst 1, 1) := by decide +kernel
theorem dX13_readClash_143 : decode cX13_readClash 143 = .ok (.iadd, 1) := by decide +kernel
theorem dX13_readClash_144 : decode cX13_readClash 144 = .ok (.putfield 271, 3) := by decide +kernel
theorem dX13_readClash_147 : decode cX13_readClash 147 = .ok (.return_, 1) := by decide +kernel
theorem dX13_readLoad_0 : decode cX13_readLoad 0 = .ok (.aload_n 0, 1) := by decide +kernel
theorem dX13_readLoad_1 : decode cX13_readLoad 1 = .ok (.aload_n 0, 1) := by decide +kernel
theorem dX13_readLoad_2 : decode cX13_readLoad 2 = .ok (.getfield 149, 3) := by decide +kernel
theorem dX13_readLoad_5 : decode cX13_readLoad 5 = .ok (.getfield 287, 3) := by decide +kernel
theorem dX13_readLoad_8 : decode cX13_readLoad 8 = .ok (.iconst 4, 1) := by decide +kernel
theorem dX13_readLoad_9 : decode cX13_readLoad 9 = .ok (.invokevirtual 230, 3) := by decide +kernel
theorem dX13_readLoad_12 : decode cX13_readLoad 12 = .ok (.aload_n 0, 1) := by decide +kernel
theorem dX13_readLoad_13 : decode cX13_readLoad 13 = .ok (.invokevirtual 251, 3) := by decide +kernel
theorem dX13_readLoad_16 : decode cX13_readLoad 16 = .ok (.istore_n 1, 1) := by decide +kernel
theorem dX13_readLoad_17 : decode cX13_readLoad 17 = .ok (.aload_n 0, 1) := by decide +kernel
theorem dX13_readLoad_18 : decode cX13_readLoad 18 = .ok (.getfield 185, 3) := by decide +kernel
theorem dX13_readLoad_21 : decode cX13_readLoad 21 = .ok (.istore_n 2, 1) := by decide +kernel
theorem dX13_readLoad_22 : decode cX13_readLoad 22 = .ok (.aload_n 0, 1) := by decide +kernel
theorem dX13_readLoad_23 : decode cX13_readLoad 23 = .ok (.iconst 1, 1) := by decide +kernel
theorem dX13_readLoad_24 : decode cX13_readLoad 24 = .ok (.sipush 300, 3) := by decide +kernel
theorem dX13_readLoad_27 : decode cX13_readLoad 27 = .ok (.invokevirtual 129, 3) := by decide +kernel
theorem dX13_readLoad_30 : decode cX13_readLoad 30 = .ok (.istore_n 3, 1) := by decide +kernel
theorem dX13_readLoad_31 : decode cX13_readLoad 31 = .ok (.aload_n 0, 1) := by decide +kernel
theorem dX13_readLoad_32 : decode cX13_readLoad 32 = .ok (.getfield 78, 3) := by decide +kernel
theorem dX13_readLoad_35 : decode cX13_readLoad 35 = .ok (.iconst 5, 1) := by decide +kernel
theorem dX13_readLoad_36 : decode cX13_readLoad 36 = .ok (.if_icmp .ne 4, 3) := by decide +kernel
theorem dX13_readLoad_39 : decode cX13_readLoad 39 = .ok (.return_, 1) := by decide +kernel
theorem dX13_readLoad_40 : decode cX13_readLoad 40 = .ok (.aload_n 0, 1) := by decide +kernel
theorem dX13_readLoad_41 : decode cX13_readLoad 41 = .ok (.getfield 149, 3) := by decide +kernel
theorem dX13_readLoad_44 : decode cX13_readLoad 44 = .ok (.getfield 290, 3) := by decide +kernel
theorem dX13_readLoad_47 : decode cX13_readLoad 47 = .ok (.aload_n 0, 1) := by decide +kernel
theorem dX13_readLoad_48 : decode cX13_readLoad 48 = .ok (.getfield 149, 3) := by decide +kernel
theorem dX13_readLoad_51 : decode cX13_readLoad 51 = .ok (.getfield 287, 3) := by decide +kernel
theorem dX13_readLoad_54 : decode cX13_readLoad 54 = .ok (.iload_n 1, 1) := by decide +kernel
theorem dX13_readLoad_55 : decode cX13_readLoad 55 = .ok (.iastore, 1) := by decide +kernel
theorem dX13_readLoad_56 : decode cX13_readLoad 56 = .ok (.aload_n 0, 1) := by decide +kernel
theorem dX13_readLoad_57 : decode cX13_readLoad 57 = .ok (.getfield 149, 3) := by decide +kernel
theorem dX13_readLoad_60 : decode cX13_readLoad 60 = .ok (.getfield 293, 3) := by decide +kernel
theorem dX13_readLoad_63 : decode cX13_readLoad 63 = .ok (.aload_n 0, 1) := by decide +kernel
theorem dX13_readLoad_64 : decode cX13_readLoad 64 = .ok (.getfield 149, 3) := by decide +kernel
theorem dX13_readLoad_67 : decode cX13_readLoad 67 = .ok (.getfield 287, 3) := by decide +kernel
theorem dX13_readLoad_70 : decode cX13_readLoad 70 = .ok (.iload_n 2, 1) := by decide +kernel
theorem dX13_readLoad_71 : decode cX13_readLoad 71 = .ok (.iastore, 1) := by decide +kernel
theorem dX13_readLoad_72 : decode cX13_readLoad 72 = .ok (.aload_n 0, 1) := by decide +kernel
theorem dX13_readLoad_73 : decode cX13_readLoad 73 = .ok (.getfield 149, 3) := by decide +kernel
theorem dX13_readLoad_76 : decode cX13_readLoad 76 = .ok (.getfield 296, 3) := by decide +kernel
theorem dX13_readLoad_79 : decode cX13_readLoad 79 = .ok (.aload_n 0, 1) := by decide +kernel
theorem dX13_readLoad_80 : decode cX13_readLoad 80 = .ok (.getfield 149, 3) := by decide +kernel
theorem dX13_readLoad_83 : decode cX13_readLoad 83 = .ok (.getfield 287, 3) := by decide +kernel
theorem dX13_readLoad_86 : decode cX13_readLoad 86 = .ok (.iload_n 3, 1) := by decide +kernel
theorem dX13_readLoad_87 : decode cX13_readLoad 87 = .ok (.iastore, 1) := by decide +kernel
theorem dX13_readLoad_88 : decode cX13_readLoad 88 = .ok (.aload_n 0, 1) := by decide +kernel
theorem dX13_readLoad_89 : decode cX13_readLoad 89 = .ok (.getfield 149, 3) := by decide +kernel
theorem dX13_readLoad_92 : decode cX13_readLoad 92 = .ok (.dup, 1) := by decide +kernel
theorem dX13_readLoad_93 : decode cX13_readLoad 93 = .ok (.getfield 287, 3) := by decide +kernel
theorem dX13_readLoad_96 : decode cX13_readLoad 96 = .ok (.iconst 1, 1) := by decide +kernel
theorem dX13_readLoad_97 : decode cX13_readLoad 97 = .ok (.iadd, 1) := by decide +kernel
theorem dX13_readLoad_98 : decode cX13_readLoad 98 = .ok (.putfield 287, 3) := by decide +kernel
theorem dX13_readLoad_101 : decode cX13_readLoad 101 = .ok (.return_, 1) := by decide +kernel
theorem dX13_readOffer_0 : decode cX13_readOffer 0 = .ok (.aload_n 0, 1) := by decide +kernel
theorem dX13_readOffer_1 : decode cX13_readOffer 1 = .ok (.aload_n 0, 1) := by decide +kernel
theorem dX13_readOffer_2 : decode cX13_readOffer 2 = .ok (.getfield 149, 3) := by decide +kernel
theorem dX13_readOffer_5 : decode cX13_readOffer 5 = .ok (.getfield 298, 3) := by decide +kernel
theorem dX13_readOffer_8 : decode cX13_readOffer 8 = .ok (.iconst 5, 1) := by decide +kernel
theorem dX13_readOffer_9 : decode cX13_readOffer 9 = .ok (.invokevirtual 230, 3) := by decide +kernel
theorem dX13_readOffer_12 : decode cX13_readOffer 12 = .ok (.aload_n 0, 1) := by decide +kernel
theorem dX13_readOffer_13 : decode cX13_readOffer 13 = .ok (.invokevirtual 251, 3) := by decide +kernel
theorem dX13_readOffer_16 : decode cX13_readOffer 16 = .ok (.istore_n 1, 1) := by decide +kernel
theorem dX13_readOffer_17 : decode cX13_readOffer 17 = .ok (.aload_n 0, 1) := by decide +kernel
theorem dX13_readOffer_18 : decode cX13_readOffer 18 = .ok (.getfield 185, 3) := by decide +kernel
theorem dX13_readOffer_21 : decode cX13_readOffer 21 = .ok (.istore_n 2, 1) := by decide +kernel
theorem dX13_readOffer_22 : decode cX13_readOffer 22 = .ok (.aload_n 0, 1) := by decide +kernel
theorem dX13_readOffer_23 : decode cX13_readOffer 23 = .ok (.ldc 254, 2) := by decide +kernel
theorem dX13_readOffer_25 : decode cX13_readOffer 25 = .ok (.iconst 1, 1) := by decide +kernel
theorem dX13_readOffer_26 : decode cX13_readOffer 26 = .ok (.bipush 99, 2) := by decide +kernel
theorem dX13_readOffer_28 : decode cX13_readOffer 28 = .ok (.invokevirtual 222, 3) := by decide +kernel
theorem dX13_readOffer_31 : decode cX13_readOffer 31 = .ok (.istore_n 3, 1) := by decide +kernel
theorem dX13_readOffer_32 : decode cX13_readOffer 32 = .ok (.aload_n 0, 1) := by decide +kernel
theorem dX13_readOffer_33 : decode cX13_readOffer 33 = .ok (.ldc_w 301, 3) := by decide +kernel
theorem dX13_readOffer_36 : decode cX13_readOffer 36 = .ok (.iconst 0, 1) := by decide +kernel
theorem dX13_readOffer_37 : decode cX13_readOffer 37 = .ok (.bipush 99, 2) := by decide +kernel
theorem dX13_readOffer_39 : decode cX13_readOffer 39 = .ok (.invokevirtual 222, 3) := by decide +kernel
theorem dX13_readOffer_42 : decode cX13_readOffer 42 = .ok (.istore 4, 2) := by decide +kernel
theorem dX13_readOffer_44 : decode cX13_readOffer 44 = .ok (.aload_n 0, 1) := by decide +kernel
theorem dX13_readOffer_45 : decode cX13_readOffer 45 = .ok (.getfield 78, 3) := by decide +kernel
theorem dX13_readOffer_48 : decode cX13_readOffer 48 = .ok (.iconst 5, 1) := by decide +kernel
theorem dX13_readOffer_49 : decode cX13_readOffer 49 = .ok (.if_icmp .ne 4, 3) := by decide +kernel
theorem dX13_readOffer_52 : decode cX13_readOffer 52 = .ok (.return_, 1) := by decide +kernel
theorem dX13_readOffer_53 : decode cX13_readOffer 53 = .ok (.aload_n 0, 1) := by decide +kernel
theorem dX13_readOffer_54 : decode cX13_readOffer 54 = .ok (.getfield 149, 3) := by decide +kernel
theorem dX13_readOffer_57 : decode cX13_readOffer 57 = .ok (.getfield 303, 3) := by decide +kernel
theorem dX13_readOffer_60 : decode cX13_readOffer 60 = .ok (.aload_n 0, 1) := by decide +kernel
theorem dX13_readOffer_61 : decode cX13_readOffer 61 = .ok (.getfield 149, 3) := by decide +kernel
theorem dX13_readOffer_64 : decode cX13_readOffer 64 = .ok (.getfield 298, 3) := by decide +kernel
theorem dX13_readOffer_67 : decode cX13_readOffer 67 = .ok (.iload_n 1, 1) := by decide +kernel
theorem dX13_readOffer_68 : decode cX13_readOffer 68 = .ok (.iastore, 1) := by decide +kernel
theorem dX13_readOffer_69 : decode cX13_readOffer 69 = .ok (.aload_n 0, 1) := by decide +kernel
theorem dX13_readOffer_70 : decode cX13_readOffer 70 = .ok (.getfield 149, 3) := by decide +kernel
theorem dX13_readOffer_73 : decode cX13_readOffer 73 = .ok (.getfield 306, 3) := by decide +kernel
theorem dX13_readOffer_76 : decode cX13_readOffer 76 = .ok (.aload_n 0, 1) := by decide +kernel
theorem dX13_readOffer_77 : decode cX13_readOffer 77 = .ok (.getfield 149, 3) := by decide +kernel
theorem dX13_readOffer_80 : decode cX13_readOffer 80 = .ok (.getfield 298, 3) := by decide +kernel
theorem dX13_readOffer_83 : decode cX13_readOffer 83 = .ok (.iload_n 2, 1) := by decide +kernel
theorem dX13_readOffer_84 : decode cX13_readOffer 84 = .ok (.iastore, 1) := by decide +kernel
theorem dX13_readOffer_85 : decode cX13_readOffer 85 = .ok (.aload_n 0, 1) := by decide +kernel
theorem dX13_readOffer_86 : decode cX13_readOffer 86 = .ok (.getfield 149, 3) := by decide +kernel
theorem dX13_readOffer_89 : decode cX13_readOffer 89 = .ok (.getfield 309, 3) := by decide +kernel
theorem dX13_readOffer_92 : decode cX13_readOffer 92 = .ok (.aload_n 0, 1) := by decide +kernel
theorem dX13_readOffer_93 : decode cX13_readOffer 93 = .ok (.getfield 149, 3) := by decide +kernel
theorem dX13_readOffer_96 : decode cX13_readOffer 96 = .ok (.getfield 298, 3) := by decide +kernel
theorem dX13_readOffer_99 : decode cX13_readOffer 99 = .ok (.iload_n 3, 1) := by decide +kernel
theorem dX13_readOffer_100 : decode cX13_readOffer 100 = .ok (.iastore, 1) := by decide +kernel
theorem dX13_readOffer_101 : decode cX13_readOffer 101 = .ok (.aload_n 0, 1) := by decide +kernel
theorem dX13_readOffer_102 : decode cX13_readOffer 102 = .ok (.getfield 149, 3) := by decide +kernel
theorem dX13_readOffer_105 : decode cX13_readOffer 105 = .ok (.getfield 311, 3) := by decide +kernel
theorem dX13_readOffer_108 : decode cX13_readOffer 108 = .ok (.aload_n 0, 1) := by decide +kernel
theorem dX13_readOffer_109 : decode cX13_readOffer 109 = .ok (.getfield 149, 3) := by decide +kernel
theorem dX13_readOffer_112 : decode cX13_readOffer 112 = .ok (.getfield 298, 3) := by decide +kernel
theorem dX13_readOffer_115 : decode cX13_readOffer 115 = .ok (.iload 4, 2) := by decide +kernel
theorem dX13_readOffer_117 : decode cX13_readOffer 117 = .ok (.iastore, 1) := by decide +kernel
theorem dX13_readOffer_118 : decode cX13_readOffer 118 = .ok (.aload_n 0, 1) := by decide +kernel
theorem dX13_readOffer_119 : decode cX13_readOffer 119 = .ok (.getfield 149, 3) := by decide +kernel
theorem dX13_readOffer_122 : decode cX13_readOffer 122 = .ok (.dup, 1) := by decide +kernel
theorem dX13_readOffer_123 : decode cX13_readOffer 123 = .ok (.getfield 298, 3) := by decide +kernel
theorem dX13_readOffer_126 : decode cX13_readOffer 126 = .ok (.iconst 1, 1) := by decide +kernel
theorem dX13_readOffer_127 : decode cX13_readOffer 127 = .ok (.iadd, 1) := by decide +kernel
theorem dX13_readOffer_128 : decode cX13_readOffer 128 = .ok (.putfield 298, 3) := by decide +kernel
theorem dX13_readOffer_131 : decode cX13_readOffer 131 = .ok (.return_, 1) := by decide +kernel
theorem dX13_readUnsure_0 : decode cX13_readUnsure 0 = .ok (.aload_n 0, 1) := by decide +kernel
theorem dX13_readUnsure_1 : decode cX13_readUnsure 1 = .ok (.aload_n 0, 1) := by decide +kernel
theorem dX13_readUnsure_2 : decode cX13_readUnsure 2 = .ok (.getfield 149, 3) := by decide +kernel
theorem dX13_readUnsure_5 : decode cX13_readUnsure 5 = .ok (.getfield 313, 3) := by decide +kernel
theorem dX13_readUnsure_8 : decode cX13_readUnsure 8 = .ok (.iconst 5, 1) := by decide +kernel
theorem dX13_readUnsure_9 : decode cX13_readUnsure 9 = .ok (.invokevirtual 230, 3) := by decide +kernel
theorem dX13_readUnsure_12 : decode cX13_readUnsure 12 = .ok (.aload_n 0, 1) := by decide +kernel
theorem dX13_readUnsure_13 : decode cX13_readUnsure 13 = .ok (.iconst 1, 1) := by decide +kernel
theorem dX13_readUnsure_14 : decode cX13_readUnsure 14 = .ok (.invokevirtual 179, 3) := by decide +kernel
theorem dX13_readUnsure_17 : decode cX13_readUnsure 17 = .ok (.istore_n 1, 1) := by decide +kernel
theorem dX13_readUnsure_18 : decode cX13_readUnsure 18 = .ok (.aload_n 0, 1) := by decide +kernel
theorem dX13_readUnsure_19 : decode cX13_readUnsure 19 = .ok (.getfield 78, 3) := by decide +kernel
theorem dX13_readUnsure_22 : decode cX13_readUnsure 22 = .ok (.iconst 5, 1) := by decide +kernel
theorem dX13_readUnsure_23 : decode cX13_readUnsure 23 = .ok (.if_icmp .eq 20, 3) := by decide +kernel
theorem dX13_readUnsure_26 : decode cX13_readUnsure 26 = .ok (.aload_n 0, 1) := by decide +kernel
theorem dX13_readUnsure_27 : decode cX13_readUnsure 27 = .ok (.getfield 149, 3) := by decide +kernel
theorem dX13_readUnsure_30 : decode cX13_readUnsure 30 = .ok (.iload_n 1, 1) := by decide +kernel
theorem dX13_readUnsure_31 : decode cX13_readUnsure 31 = .ok (.invokevirtual 316, 3) := by decide +kernel
theorem dX13_readUnsure_34 : decode cX13_readUnsure 34 = .ok (.iconst (-1), 1) := by decide +kernel
theorem dX13_readUnsure_35 : decode cX13_readUnsure 35 = .ok (.if_icmp .eq 8, 3) := by decide +kernel
theorem dX13_readUnsure_38 : decode cX13_readUnsure 38 = .ok (.aload_n 0, 1) := by decide +kernel
theorem dX13_readUnsure_39 : decode cX13_readUnsure 39 = .ok (.iconst 3, 1) := by decide +kernel
theorem dX13_readUnsure_40 : decode cX13_readUnsure 40 = .ok (.invokevirtual 117, 3) := by decide +kernel
theorem dX13_readUnsure_43 : decode cX13_readUnsure 43 = .ok (.aload_n 0, 1) := by decide +kernel
theorem dX13_readUnsure_44 : decode cX13_readUnsure 44 = .ok (.invokevirtual 114, 3) := by decide +kernel
theorem dX13_readUnsure_47 : decode cX13_readUnsure 47 = .ok (.aload_n 0, 1) := by decide +kernel
theorem dX13_readUnsure_48 : decode cX13_readUnsure 48 = .ok (.getfield 78, 3) := by decide +kernel
theorem dX13_readUnsure_51 : decode cX13_readUnsure 51 = .ok (.iconst 5, 1) := by decide +kernel
theorem dX13_readUnsure_52 : decode cX13_readUnsure 52 = .ok (.if_icmp .ne 4, 3) := by decide +kernel
theorem dX13_readUnsure_55 : decode cX13_readUnsure 55 = .ok (.return_, 1) := by decide +kernel
theorem dX13_readUnsure_56 : decode cX13_readUnsure 56 = .ok (.aload_n 0, 1) := by decide +kernel
theorem dX13_readUnsure_57 : decode cX13_readUnsure 57 = .ok (.getfield 149, 3) := by decide +kernel
theorem dX13_readUnsure_60 : decode cX13_readUnsure 60 = .ok (.getfield 319, 3) := by decide +kernel
theorem dX13_readUnsure_63 : decode cX13_readUnsure 63 = .ok (.aload_n 0, 1) := by decide +kernel
theorem dX13_readUnsure_64 : decode cX13_readUnsure 64 = .ok (.getfield 149, 3) := by decide +kernel
theorem dX13_readUnsure_67 : decode cX13_readUnsure 67 = .ok (.getfield 313, 3) := by decide +kernel
theorem dX13_readUnsure_70 : decode cX13_readUnsure 70 = .ok (.iload_n 1, 1) := by decide +kernel
theorem dX13_readUnsure_71 : decode cX13_readUnsure 71 = .ok (.iastore, 1) := by decide +kernel
theorem dX13_readUnsure_72 : decode cX13_readUnsure 72 = .ok (.aload_n 0, 1) := by decide +kernel
theorem dX13_readUnsure_73 : decode cX13_readUnsure 73 = .ok (.getfield 149, 3) := by decide +kernel
theorem dX13_readUnsure_76 : decode cX13_readUnsure 76 = .ok (.dup, 1) := by decide +kernel
theorem dX13_readUnsure_77 : decode cX13_readUnsure 77 = .ok (.getfield 313, 3) := by decide +kernel
theorem dX13_readUnsure_80 : decode cX13_readUnsure 80 = .ok (.iconst 1, 1) := by decide +kernel
theorem dX13_readUnsure_81 : decode cX13_readUnsure 81 = .ok (.iadd, 1) := by decide +kernel
theorem dX13_readUnsure_82 : decode cX13_readUnsure 82 = .ok (.putfield 313, 3) := by decide +kernel
theorem dX13_readUnsure_85 : decode cX13_readUnsure 85 = .ok (.return_, 1) := by decide +kernel
theorem dX13_readHair_0 : decode cX13_readHair 0 = .ok (.aload_n 0, 1) := by decide +kernel
theorem dX13_readHair_1 : decode cX13_readHair 1 = .ok (.aload_n 0, 1) := by decide +kernel
theorem dX13_readHair_2 : decode cX13_readHair 2 = .ok (.getfield 149, 3) := by decide +kernel
theorem dX13_readHair_5 : decode cX13_readHair 5 = .ok (.getfield 321, 3) := by decide +kernel
theorem dX13_readHair_8 : decode cX13_readHair 8 = .ok (.bipush 6, 2) := by decide +kernel
theorem dX13_readHair_10 : decode cX13_readHair 10 = .ok (.invokevirtual 230, 3) := by decide +kernel
theorem dX13_readHair_13 : decode cX13_readHair 13 = .ok (.aload_n 0, 1) := by decide +kernel
theorem dX13_readHair_14 : decode cX13_readHair 14 = .ok (.iconst 1, 1) := by decide +kernel
theorem dX13_readHair_15 : decode cX13_readHair 15 = .ok (.invokevirtual 182, 3) := by decide +kernel
theorem dX13_readHair_18 : decode cX13_readHair 18 = .ok (.istore_n 1, 1) := by decide +kernel
theorem dX13_readHair_19 : decode cX13_readHair 19 = .ok (.aload_n 0, 1) := by decide +kernel
theorem dX13_readHair_20 : decode cX13_readHair 20 = .ok (.iconst 1, 1) := by decide +kernel
theorem dX13_readHair_21 : decode cX13_readHair 21 = .ok (.invokevirtual 182, 3) := by decide +kernel
theorem dX13_readHair_24 : decode cX13_readHair 24 = .ok (.istore_n 2, 1) := by decide +kernel
theorem dX13_readHair_25 : decode cX13_readHair 25 = .ok (.aload_n 0, 1) := by decide +kernel
theorem dX13_readHair_26 : decode cX13_readHair 26 = .ok (.ldc_w 324, 3) := by decide +kernel
theorem dX13_readHair_29 : decode cX13_readHair 29 = .ok (.invokevirtual 125, 3) := by decide +kernel
theorem dX13_readHair_32 : decode cX13_readHair 32 = .ok (.istore_n 3, 1) := by decide +kernel
theorem dX13_readHair_33 : decode cX13_readHair 33 = .ok (.iload_n 3, 1) := by decide +kernel
theorem dX13_readHair_34 : decode cX13_readHair 34 = .ok (.ifCond .ne 18, 3) := by decide +kernel
theorem dX13_readHair_37 : decode cX13_readHair 37 = .ok (.aload_n 0, 1) := by decide +kernel
theorem dX13_readHair_38 : decode cX13_readHair 38 = .ok (.ldc_w 326, 3) := by decide +kernel
theorem dX13_readHair_41 : decode cX13_readHair 41 = .ok (.invokevirtual 125, 3) := by decide +kernel
theorem dX13_readHair_44 : decode cX13_readHair 44 = .ok (.ifCond .ne 8, 3) := by decide +kernel
theorem dX13_readHair_47 : decode cX13_readHair 47 = .ok (.aload_n 0, 1) := by decide +kernel
theorem dX13_readHair_48 : decode cX13_readHair 48 = .ok (.iconst 1, 1) := by decide +kernel
theorem dX13_readHair_49 : decode cX13_readHair 49 = .ok (.invokevirtual 117, 3) := by decide +kernel
theorem dX13_readHair_52 : decode cX13_readHair 52 = .ok (.aload_n 0, 1) := by decide +kernel
theorem dX13_readHair_53 : decode cX13_readHair 53 = .ok (.invokevirtual 114, 3) := by decide +kernel
theorem dX13_readHair_56 : decode cX13_readHair 56 = .ok (.aload_n 0, 1) := by decide +kernel
theorem dX13_readHair_57 : decode cX13_readHair 57 = .ok (.getfield 78, 3) := by decide +kernel
theorem dX13_readHair_60 : decode cX13_readHair 60 = .ok (.iconst 5, 1) := by decide +kernel
theorem dX13_readHair_61 : decode cX13_readHair 61 = .ok (.if_icmp .ne 4, 3) := by decide +kernel
theorem dX13_readHair_64 : decode cX13_readHair 64 = .ok (.return_, 1) := by decide +kernel
theorem dX13_readHair_65 : decode cX13_readHair 65 = .ok (.aload_n 0, 1) := by decide +kernel
theorem dX13_readHair_66 : decode cX13_readHair 66 = .ok (.getfield 149, 3) := by decide +kernel
theorem dX13_readHair_69 : decode cX13_readHair 69 = .ok (.getfield 328, 3) := by decide +kernel
theorem dX13_readHair_72 : decode cX13_readHair 72 = .ok (.aload_n 0, 1) := by decide +kernel
theorem dX13_readHair_73 : decode cX13_readHair 73 = .ok (.getfield 149, 3) := by decide +kernel
theorem dX13_readHair_76 : decode cX13_readHair 76 = .ok (.getfield 321, 3) := by decide +kernel
theorem dX13_readHair_79 : decode cX13_readHair 79 = .ok (.iload_n 1, 1) := by decide +kernel
theorem dX13_readHair_80 : decode cX13_readHair 80 = .ok (.iastore, 1) := by decide +kernel
theorem dX13_readHair_81 : decode cX13_readHair 81 = .ok (.aload_n 0, 1) := by decide +kernel
theorem dX13_readHair_82 : decode cX13_readHair 82 = .ok (.getfield 149, 3) := by decide +kernel
theorem dX13_readHair_85 : decode cX13_readHair 85 = .ok (.getfield 331, 3) := by decide +kernel
theorem dX13_readHair_88 : decode cX13_readHair 88 = .ok (.aload_n 0, 1) := by decide +kernel
theorem dX13_readHair_89 : decode cX13_readHair 89 = .ok (.getfield 149, 3) := by decide +kernel
theorem dX13_readHair_92 : decode cX13_readHair 92 = .ok (.getfield 321, 3) := by decide +kernel
theorem dX13_readHair_95 : decode cX13_readHair 95 = .ok (.iload_n 2, 1) := by decide +kernel
theorem dX13_readHair_96 : decode cX13_readHair 96 = .ok (.iastore, 1) := by decide +kernel
theorem dX13_readHair_97 : decode cX13_readHair 97 = .ok (.aload_n 0, 1) := by decide +kernel
theorem dX13_readHair_98 : decode cX13_readHair 98 = .ok (.getfield 149, 3) := by decide +kernel
theorem dX13_readHair_101 : decode cX13_readHair 101 = .ok (.dup, 1) := by decide +kernel
theorem dX13_readHair_102 : decode cX13_readHair 102 = .ok (.getfield 334, 3) := by decide +kernel
theorem dX13_readHair_105 : decode cX13_readHair 105 = .ok (.iload_n 3, 1) := by decide +kernel
theorem dX13_readHair_106 : decode cX13_readHair 106 = .ok (.ifCond .eq 15, 3) := by decide +kernel
theorem dX13_readHair_109 : decode cX13_readHair 109 = .ok (.iconst 1, 1) := by decide +kernel
theorem dX13_readHair_110 : decode cX13_readHair 110 = .ok (.aload_n 0, 1) := by decide +kernel
theorem dX13_readHair_111 : decode cX13_readHair 111 = .ok (.getfield 149, 3) := by decide +kernel
theorem dX13_readHair_114 : decode cX13_readHair 114 = .ok (.getfield 321, 3) := by decide +kernel
theorem dX13_readHair_117 : decode cX13_readHair 117 = .ok (.ishl, 1) := by decide +kernel
theorem dX13_readHair_118 : decode cX13_readHair 118 = .ok (.goto 4, 3) := by decide +kernel
theorem dX13_readHair_121 : decode cX13_readHair 121 = .ok (.iconst 0, 1) := by decide +kernel
theorem dX13_readHair_122 : decode cX13_readHair 122 = .ok (.ior, 1) := by decide +kernel
theorem dX13_readHair_123 : decode cX13_readHair 123 = .ok (.putfield 334, 3) := by decide +kernel
theorem dX13_readHair_126 : decode cX13_readHair 126 = .ok (.aload_n 0, 1) := by decide +kernel
theorem dX13_readHair_127 : decode cX13_readHair 127 = .ok (.getfield 149, 3) := by decide +kernel
theorem dX13_readHair_130 : decode cX13_readHair 130 = .ok (.dup, 1) := by decide +kernel
theorem dX13_readHair_131 : decode cX13_readHair 131 = .ok (.getfield 321, 3) := by decide +kernel
theorem dX13_readHair_134 : decode cX13_readHair 134 = .ok (.iconst 1, 1) := by decide +kernel
theorem dX13_readHair_135 : decode cX13_readHair 135 = .ok (.iadd, 1) := by decide +kernel
theorem dX13_readHair_136 : decode cX13_readHair 136 = .ok (.putfield 321, 3) := by decide +kernel
theorem dX13_readHair_139 : decode cX13_readHair 139 = .ok (.return_, 1) := by decide +kernel
theorem dX13_feed_0 : decode cX13_feed 0 = .ok (.aload_n 0, 1) := by decide +kernel
theorem dX13_feed_1 : decode cX13_feed 1 = .ok (.iconst 0, 1) := by decide +kernel
theorem dX13_feed_2 : decode cX13_feed 2 = .ok (.putfield 46, 3) := by decide +kernel
theorem dX13_feed_5 : decode cX13_feed 5 = .ok (.aload_n 0, 1) := by decide +kernel
theorem dX13_feed_6 : decode cX13_feed 6 = .ok (.getfield 336, 3) := by decide +kernel
theorem dX13_feed_9 : decode cX13_feed 9 = .ok (.bipush 20, 2) := by decide +kernel
theorem dX13_feed_11 : decode cX13_feed 11 = .ok (.iadd, 1) := by decide +kernel
theorem dX13_feed_12 : decode cX13_feed 12 = .ok (.sipush 900, 3) := by decide +kernel
theorem dX13_feed_15 : decode cX13_feed 15 = .ok (.if_icmp .le 5, 3) := by decide +kernel
theorem dX13_feed_18 : decode cX13_feed 18 = .ok (.iconst (-1), 1) := by decide +kernel
theorem dX13_feed_19 : decode cX13_feed 19 = .ok (.ireturn, 1) := by decide +kernel
theorem dX13_feed_20 : decode cX13_feed 20 = .ok (.iconst 0, 1) := by decide +kernel
theorem dX13_feed_21 : decode cX13_feed 21 = .ok (.istore 6, 2) := by decide +kernel
theorem dX13_feed_23 : decode cX13_feed 23 = .ok (.iload 6, 2) := by decide +kernel
theorem dX13_feed_25 : decode cX13_feed 25 = .ok (.bipush 20, 2) := by decide +kernel
theorem dX13_feed_27 : decode cX13_feed 27 = .ok (.if_icmp .ge 90, 3) := by decide +kernel
theorem dX13_feed_30 : decode cX13_feed 30 = .ok (.iload 6, 2) := by decide +kernel
theorem dX13_feed_32 : decode cX13_feed 32 = .ok (.iconst 4, 1) := by decide +kernel
theorem dX13_feed_33 : decode cX13_feed 33 = .ok (.if_icmp .ge 7, 3) := by decide +kernel
theorem dX13_feed_36 : decode cX13_feed 36 = .ok (.iload_n 1, 1) := by decide +kernel
theorem dX13_feed_37 : decode cX13_feed 37 = .ok (.goto 39, 3) := by decide +kernel
theorem dX13_feed_40 : decode cX13_feed 40 = .ok (.iload 6, 2) := by decide +kernel
theorem dX13_feed_42 : decode cX13_feed 42 = .ok (.bipush 8, 2) := by decide +kernel
theorem dX13_feed_44 : decode cX13_feed 44 = .ok (.if_icmp .ge 7, 3) := by decide +kernel
theorem dX13_feed_47 : decode cX13_feed 47 = .ok (.iload_n 2, 1) := by decide +kernel
theorem dX13_feed_48 : decode cX13_feed 48 = .ok (.goto 28, 3) := by decide +kernel
theorem dX13_feed_51 : decode cX13_feed 51 = .ok (.iload 6, 2) := by decide +kernel
theorem dX13_feed_53 : decode cX13_feed 53 = .ok (.bipush 12, 2) := by decide +kernel
theorem dX13_feed_55 : decode cX13_feed 55 = .ok (.if_icmp .ge 7, 3) := by decide +kernel
theorem dX13_feed_58 : decode cX13_feed 58 = .ok (.iload_n 3, 1) := by decide +kernel
theorem dX13_feed_59 : decode cX13_feed 59 = .ok (.goto 17, 3) := by decide +kernel
theorem dX13_feed_62 : decode cX13_feed 62 = .ok (.iload 6, 2) := by decide +kernel
theorem dX13_feed_64 : decode cX13_feed 64 = .ok (.bipush 16, 2) := by decide +kernel
theorem dX13_feed_66 : decode cX13_feed 66 = .ok (.if_icmp .ge 8, 3) := by decide +kernel
theorem dX13_feed_69 : decode cX13_feed 69 = .ok (.iload 4, 2) := by decide +kernel
theorem dX13_feed_71 : decode cX13_feed 71 = .ok (.goto 5, 3) := by decide +kernel
theorem dX13_feed_74 : decode cX13_feed 74 = .ok (.iload 5, 2) := by decide +kernel
theorem dX13_feed_76 : decode cX13_feed 76 = .ok (.istore 7, 2) := by decide +kernel
theorem dX13_feed_78 : decode cX13_feed 78 = .ok (.aload_n 0, 1) := by decide +kernel
theorem dX13_feed_79 : decode cX13_feed 79 = .ok (.getfield 13, 3) := by decide +kernel
theorem dX13_feed_82 : decode cX13_feed 82 = .ok (.aload_n 0, 1) := by decide +kernel
theorem dX13_feed_83 : decode cX13_feed 83 = .ok (.getfield 336, 3) := by decide +kernel
theorem dX13_feed_86 : decode cX13_feed 86 = .ok (.iload 7, 2) := by decide +kernel
theorem dX13_feed_88 : decode cX13_feed 88 = .ok (.bipush 24, 2) := by decide +kernel
theorem dX13_feed_90 : decode cX13_feed 90 = .ok (.bipush 8, 2) := by decide +kernel
theorem dX13_feed_92 : decode cX13_feed 92 = .ok (.iload 6, 2) := by decide +kernel
theorem dX13_feed_94 : decode cX13_feed 94 = .ok (.iconst 4, 1) := by decide +kernel
theorem dX13_feed_95 : decode cX13_feed 95 = .ok (.irem, 1) := by decide +kernel
theorem dX13_feed_96 : decode cX13_feed 96 = .ok (.imul, 1) := by decide +kernel
theorem dX13_feed_97 : decode cX13_feed 97 = .ok (.isub, 1) := by decide +kernel
theorem dX13_feed_98 : decode cX13_feed 98 = .ok (.ishr, 1) := by decide +kernel
theorem dX13_feed_99 : decode cX13_feed 99 = .ok (.i2b, 1) := by decide +kernel
theorem dX13_feed_100 : decode cX13_feed 100 = .ok (.bastore, 1) := by decide +kernel
theorem dX13_feed_101 : decode cX13_feed 101 = .ok (.aload_n 0, 1) := by decide +kernel
theorem dX13_feed_102 : decode cX13_feed 102 = .ok (.dup, 1) := by decide +kernel
theorem dX13_feed_103 : decode cX13_feed 103 = .ok (.getfield 336, 3) := by decide +kernel
theorem dX13_feed_106 : decode cX13_feed 106 = .ok (.iconst 1, 1) := by decide +kernel
theorem dX13_feed_107 : decode cX13_feed 107 = .ok (.iadd, 1) := by decide +kernel
theorem dX13_feed_108 : decode cX13_feed 108 = .ok (.putfield 336, 3) := by decide +kernel
theorem dX13_feed_111 : decode cX13_feed 111 = .ok (.iinc 6 1, 3) := by decide +kernel
theorem dX13_feed_114 : decode cX13_feed 114 = .ok (.goto (-91), 3) := by decide +kernel
theorem dX13_feed_117 : decode cX13_feed 117 = .ok (.aload_n 0, 1) := by decide +kernel
theorem dX13_feed_118 : decode cX13_feed 118 = .ok (.getfield 336, 3) := by decide +kernel
theorem dX13_feed_121 : decode cX13_feed 121 = .ok (.ireturn, 1) := by decide +kernel
theorem dX13_web_0 : decode cX13_web 0 = .ok (.aload_n 0, 1) := by decide +kernel
theorem dX13_web_1 : decode cX13_web 1 = .ok (.iconst 0, 1) := by decide +kernel
theorem dX13_web_2 : decode cX13_web 2 = .ok (.putfield 46, 3) := by decide +kernel
theorem dX13_web_5 : decode cX13_web 5 = .ok (.iload_n 1, 1) := by decide +kernel
theorem dX13_web_6 : decode cX13_web 6 = .ok (.ifCond .lt 11, 3) := by decide +kernel
theorem dX13_web_9 : decode cX13_web 9 = .ok (.iload_n 1, 1) := by decide +kernel
theorem dX13_web_10 : decode cX13_web 10 = .ok (.aload_n 0, 1) := by decide +kernel
theorem dX13_web_11 : decode cX13_web 11 = .ok (.getfield 336, 3) := by decide +kernel
theorem dX13_web_14 : decode cX13_web 14 = .ok (.if_icmp .le 9, 3) := by decide +kernel
theorem dX13_web_17 : decode cX13_web 17 = .ok (.aload_n 0, 1) := by decide +kernel
theorem dX13_web_18 : decode cX13_web 18 = .ok (.iconst 2, 1) := by decide +kernel
theorem dX13_web_19 : decode cX13_web 19 = .ok (.invokevirtual 52, 3) := by decide +kernel
theorem dX13_web_22 : decode cX13_web 22 = .ok (.ireturn, 1) := by decide +kernel
theorem dX13_web_23 : decode cX13_web 23 = .ok (.aload_n 0, 1) := by decide +kernel
theorem dX13_web_24 : decode cX13_web 24 = .ok (.iload_n 1, 1) := by decide +kernel
theorem dX13_web_25 : decode cX13_web 25 = .ok (.putfield 63, 3) := by decide +kernel
theorem dX13_web_28 : decode cX13_web 28 = .ok (.aload_n 0, 1) := by decide +kernel
theorem dX13_web_29 : decode cX13_web 29 = .ok (.iconst 0, 1) := by decide +kernel
theorem dX13_web_30 : decode cX13_web 30 = .ok (.putfield 336, 3) := by decide +kernel
theorem dX13_web_33 : decode cX13_web 33 = .ok (.aload_n 0, 1) := by decide +kernel
theorem dX13_web_34 : decode cX13_web 34 = .ok (.iconst 0, 1) := by decide +kernel
theorem dX13_web_35 : decode cX13_web 35 = .ok (.putfield 81, 3) := by decide +kernel
theorem dX13_web_38 : decode cX13_web 38 = .ok (.aload_n 0, 1) := by decide +kernel
theorem dX13_web_39 : decode cX13_web 39 = .ok (.iconst 0, 1) := by decide +kernel
theorem dX13_web_40 : decode cX13_web 40 = .ok (.putfield 104, 3) := by decide +kernel
theorem dX13_web_43 : decode cX13_web 43 = .ok (.aload_n 0, 1) := by decide +kernel
theorem dX13_web_44 : decode cX13_web 44 = .ok (.new 154, 3) := by decide +kernel
theorem dX13_web_47 : decode cX13_web 47 = .ok (.dup, 1) := by decide +kernel
theorem dX13_web_48 : decode cX13_web 48 = .ok (.invokespecial 339, 3) := by decide +kernel
theorem dX13_web_51 : decode cX13_web 51 = .ok (.putfield 149, 3) := by decide +kernel
theorem dX13_web_54 : decode cX13_web 54 = .ok (.aload_n 0, 1) := by decide +kernel
theorem dX13_web_55 : decode cX13_web 55 = .ok (.iconst 0, 1) := by decide +kernel
theorem dX13_web_56 : decode cX13_web 56 = .ok (.putfield 78, 3) := by decide +kernel
theorem dX13_web_59 : decode cX13_web 59 = .ok (.aload_n 0, 1) := by decide +kernel
theorem dX13_web_60 : decode cX13_web 60 = .ok (.invokevirtual 114, 3) := by decide +kernel
theorem dX13_web_63 : decode cX13_web 63 = .ok (.aload_n 0, 1) := by decide +kernel
theorem dX13_web_64 : decode cX13_web 64 = .ok (.invokevirtual 340, 3) := by decide +kernel
theorem dX13_web_67 : decode cX13_web 67 = .ok (.aload_n 0, 1) := by decide +kernel
theorem dX13_web_68 : decode cX13_web 68 = .ok (.getfield 104, 3) := by decide +kernel
theorem dX13_web_71 : decode cX13_web 71 = .ok (.ifCond .le 18, 3) := by decide +kernel
theorem dX13_web_74 : decode cX13_web 74 = .ok (.aload_n 0, 1) := by decide +kernel
theorem dX13_web_75 : decode cX13_web 75 = .ok (.iconst 4, 1) := by decide +kernel
theorem dX13_web_76 : decode cX13_web 76 = .ok (.putfield 49, 3) := by decide +kernel
theorem dX13_web_79 : decode cX13_web 79 = .ok (.aload_n 0, 1) := by decide +kernel
theorem dX13_web_80 : decode cX13_web 80 = .ok (.aload_n 0, 1) := by decide +kernel
theorem dX13_web_81 : decode cX13_web 81 = .ok (.getfield 107, 3) := by decide +kernel
theorem dX13_web_84 : decode cX13_web 84 = .ok (.putfield 9, 3) := by decide +kernel
theorem dX13_web_87 : decode cX13_web 87 = .ok (.iconst (-1), 1) := by decide +kernel
theorem dX13_web_88 : decode cX13_web 88 = .ok (.ireturn, 1) := by decide +kernel
theorem dX13_web_89 : decode cX13_web 89 = .ok (.aload_n 0, 1) := by decide +kernel
theorem dX13_web_90 : decode cX13_web 90 = .ok (.aload_n 0, 1) := by decide +kernel
theorem dX13_web_91 : decode cX13_web 91 = .ok (.getfield 149, 3) := by decide +kernel
theorem dX13_web_94 : decode cX13_web 94 = .ok (.putfield 343, 3) := by decide +kernel
theorem dX13_web_97 : decode cX13_web 97 = .ok (.iconst 0, 1) := by decide +kernel
theorem dX13_web_98 : decode cX13_web 98 = .ok (.istore_n 2, 1) := by decide +kernel
theorem dX13_web_99 : decode cX13_web 99 = .ok (.iload_n 2, 1) := by decide +kernel
theorem dX13_web_100 : decode cX13_web 100 = .ok (.bipush 26, 2) := by decide +kernel
theorem dX13_web_102 : decode cX13_web 102 = .ok (.if_icmp .ge 16, 3) := by decide +kernel
theorem dX13_web_105 : decode cX13_web 105 = .ok (.aload_n 0, 1) := by decide +kernel
theorem dX13_web_106 : decode cX13_web 106 = .ok (.getfield 17, 3) := by decide +kernel
theorem dX13_web_109 : decode cX13_web 109 = .ok (.iload_n 2, 1) := by decide +kernel
theorem dX13_web_110 : decode cX13_web 110 = .ok (.iconst 0, 1) := by decide +kernel
theorem dX13_web_111 : decode cX13_web 111 = .ok (.iastore, 1) := by decide +kernel
theorem dX13_web_112 : decode cX13_web 112 = .ok (.iinc 2 1, 3) := by decide +kernel
theorem dX13_web_115 : decode cX13_web 115 = .ok (.goto (-16), 3) := by decide +kernel
theorem dX13_web_118 : decode cX13_web 118 = .ok (.iconst 0, 1) := by decide +kernel
theorem dX13_web_119 : decode cX13_web 119 = .ok (.istore_n 2, 1) := by decide +kernel
theorem dX13_web_120 : decode cX13_web 120 = .ok (.iload_n 2, 1) := by decide +kernel
theorem dX13_web_121 : decode cX13_web 121 = .ok (.bipush 8, 2) := by decide +kernel
theorem dX13_web_123 : decode cX13_web 123 = .ok (.if_icmp .ge 18, 3) := by decide +kernel
theorem dX13_web_126 : decode cX13_web 126 = .ok (.aload_n 0, 1) := by decide +kernel
theorem dX13_web_127 : decode cX13_web 127 = .ok (.getfield 17, 3) := by decide +kernel
theorem dX13_web_130 : decode cX13_web 130 = .ok (.iconst 0, 1) := by decide +kernel
theorem dX13_web_131 : decode cX13_web 131 = .ok (.iload_n 2, 1) := by decide +kernel
theorem dX13_web_132 : decode cX13_web 132 = .ok (.iadd, 1) := by decide +kernel
theorem dX13_web_133 : decode cX13_web 133 = .ok (.iconst (-1), 1) := by decide +kernel
theorem dX13_web_134 : decode cX13_web 134 = .ok (.iastore, 1) := by decide +kernel
theorem dX13_web_135 : decode cX13_web 135 = .ok (.iinc 2 1, 3) := by decide +kernel
theorem dX13_web_138 : decode cX13_web 138 = .ok (.goto (-18), 3) := by decide +kernel
theorem dX13_web_141 : decode cX13_web 141 = .ok (.aload_n 0, 1) := by decide +kernel
theorem dX13_web_142 : decode cX13_web 142 = .ok (.getfield 17, 3) := by decide +kernel
theorem dX13_web_145 : decode cX13_web 145 = .ok (.bipush 24, 2) := by decide +kernel
theorem dX13_web_147 : decode cX13_web 147 = .ok (.aload_n 0, 1) := by decide +kernel
theorem dX13_web_148 : decode cX13_web 148 = .ok (.getfield 343, 3) := by decide +kernel
theorem dX13_web_151 : decode cX13_web 151 = .ok (.getfield 241, 3) := by decide +kernel
theorem dX13_web_154 : decode cX13_web 154 = .ok (.iastore, 1) := by decide +kernel
theorem dX13_web_155 : decode cX13_web 155 = .ok (.aload_n 0, 1) := by decide +kernel
theorem dX13_web_156 : decode cX13_web 156 = .ok (.iconst 0, 1) := by decide +kernel
theorem dX13_web_157 : decode cX13_web 157 = .ok (.putfield 345, 3) := by decide +kernel
theorem dX13_web_160 : decode cX13_web 160 = .ok (.aload_n 0, 1) := by decide +kernel
theorem dX13_web_161 : decode cX13_web 161 = .ok (.iconst 0, 1) := by decide +kernel
theorem dX13_web_162 : decode cX13_web 162 = .ok (.putfield 348, 3) := by decide +kernel
theorem dX13_web_165 : decode cX13_web 165 = .ok (.aload_n 0, 1) := by decide +kernel
theorem dX13_web_166 : decode cX13_web 166 = .ok (.aload_n 0, 1) := by decide +kernel
theorem dX13_web_167 : decode cX13_web 167 = .ok (.getfield 343, 3) := by decide +kernel
theorem dX13_web_170 : decode cX13_web 170 = .ok (.getfield 194, 3) := by decide +kernel
theorem dX13_web_173 : decode cX13_web 173 = .ok (.invokevirtual 56, 3) := by decide +kernel
theorem dX13_web_176 : decode cX13_web 176 = .ok (.ireturn, 1) := by decide +kernel
theorem dX13_fault_0 : decode cX13_fault 0 = .ok (.aload_n 0, 1) := by decide +kernel
theorem dX13_fault_1 : decode cX13_fault 1 = .ok (.iconst 0, 1) := by decide +kernel
theorem dX13_fault_2 : decode cX13_fault 2 = .ok (.putfield 46, 3) := by decide +kernel
theorem dX13_fault_5 : decode cX13_fault 5 = .ok (.aload_n 0, 1) := by decide +kernel
theorem dX13_fault_6 : decode cX13_fault 6 = .ok (.getfield 104, 3) := by decide +kernel
theorem dX13_fault_9 : decode cX13_fault 9 = .ok (.ireturn, 1) := by decide +kernel
theorem dX13_where_0 : decode cX13_where 0 = .ok (.aload_n 0, 1) := by decide +kernel
theorem dX13_where_1 : decode cX13_where 1 = .ok (.iconst 0, 1) := by decide +kernel
theorem dX13_where_2 : decode cX13_where 2 = .ok (.putfield 46, 3) := by decide +kernel
theorem dX13_where_5 : decode cX13_where 5 = .ok (.aload_n 0, 1) := by decide +kernel
theorem dX13_where_6 : decode cX13_where 6 = .ok (.getfield 9, 3) := by decide +kernel
theorem dX13_where_9 : decode cX13_where 9 = .ok (.ireturn, 1) := by decide +kernel
theorem dX13_isNail_0 : decode cX13_isNail 0 = .ok (.aload_n 0, 1) := by decide +kernel
theorem dX13_isNail_1 : decode cX13_isNail 1 = .ok (.getfield 343, 3) := by decide +kernel
theorem dX13_isNail_4 : decode cX13_isNail 4 = .ok (.ifnull 22, 3) := by decide +kernel
theorem dX13_isNail_7 : decode cX13_isNail 7 = .ok (.iload_n 1, 1) := by decide +kernel
theorem dX13_isNail_8 : decode cX13_isNail 8 = .ok (.ifCond .lt 18, 3) := by decide +kernel
theorem dX13_isNail_11 : decode cX13_isNail 11 = .ok (.iload_n 1, 1) := by decide +kernel
theorem dX13_isNail_12 : decode cX13_isNail 12 = .ok (.aload_n 0, 1) := by decide +kernel
theorem dX13_isNail_13 : decode cX13_isNail 13 = .ok (.getfield 343, 3) := by decide +kernel
theorem dX13_isNail_16 : decode cX13_isNail 16 = .ok (.getfield 194, 3) := by decide +kernel
theorem dX13_isNail_19 : decode cX13_isNail 19 = .ok (.if_icmp .ge 7, 3) := by decide +kernel
theorem dX13_isNail_22 : decode cX13_isNail 22 = .ok (.iconst 1, 1) := by decide +kernel
theorem dX13_isNail_23 : decode cX13_isNail 23 = .ok (.goto 4, 3) := by decide +kernel
theorem dX13_isNail_26 : decode cX13_isNail 26 = .ok (.iconst 0, 1) := by decide +kernel
theorem dX13_isNail_27 : decode cX13_isNail 27 = .ok (.ireturn, 1) := by decide +kernel
theorem dX13_isThread_0 : decode cX13_isThread 0 = .ok (.aload_n 0, 1) := by decide +kernel
theorem dX13_isThread_1 : decode cX13_isThread 1 = .ok (.getfield 343, 3) := by decide +kernel
theorem dX13_isThread_4 : decode cX13_isThread 4 = .ok (.ifnull 22, 3) := by decide +kernel
theorem dX13_isThread_7 : decode cX13_isThread 7 = .ok (.iload_n 1, 1) := by decide +kernel
theorem dX13_isThread_8 : decode cX13_isThread 8 = .ok (.ifCond .lt 18, 3) := by decide +kernel
theorem dX13_isThread_11 : decode cX13_isThread 11 = .ok (.iload_n 1, 1) := by decide +kernel
theorem dX13_isThread_12 : decode cX13_isThread 12 = .ok (.aload_n 0, 1) := by decide +kernel
theorem dX13_isThread_13 : decode cX13_isThread 13 = .ok (.getfield 17, 3) := by decide +kernel
theorem dX13_isThread_16 : decode cX13_isThread 16 = .ok (.bipush 24, 2) := by decide +kernel
theorem dX13_isThread_18 : decode cX13_isThread 18 = .ok (.iaload, 1) := by decide +kernel
theorem dX13_isThread_19 : decode cX13_isThread 19 = .ok (.if_icmp .ge 7, 3) := by decide +kernel
theorem dX13_isThread_22 : decode cX13_isThread 22 = .ok (.iconst 1, 1) := by decide +kernel
theorem dX13_isThread_23 : decode cX13_isThread 23 = .ok (.goto 4, 3) := by decide +kernel
theorem dX13_isThread_26 : decode cX13_isThread 26 = .ok (.iconst 0, 1) := by decide +kernel
theorem dX13_isThread_27 : decode cX13_isThread 27 = .ok (.ireturn, 1) := by decide +kernel
theorem dX13_areTwo_0 : decode cX13_areTwo 0 = .ok (.aload_n 0, 1) := by decide +kernel
theorem dX13_areTwo_1 : decode cX13_areTwo 1 = .ok (.iload_n 1, 1) := by decide +kernel
theorem dX13_areTwo_2 : decode cX13_areTwo 2 = .ok (.invokevirtual 351, 3) := by decide +kernel
theorem dX13_areTwo_5 : decode cX13_areTwo 5 = .ok (.ifCond .eq 20, 3) := by decide +kernel
theorem dX13_areTwo_8 : decode cX13_areTwo 8 = .ok (.aload_n 0, 1) := by decide +kernel
theorem dX13_areTwo_9 : decode cX13_areTwo 9 = .ok (.iload_n 2, 1) := by decide +kernel
theorem dX13_areTwo_10 : decode cX13_areTwo 10 = .ok (.invokevirtual 351, 3) := by decide +kernel
theorem dX13_areTwo_13 : decode cX13_areTwo 13 = .ok (.ifCond .eq 12, 3) := by decide +kernel
theorem dX13_areTwo_16 : decode cX13_areTwo 16 = .ok (.iload_n 1, 1) := by decide +kernel
theorem dX13_areTwo_17 : decode cX13_areTwo 17 = .ok (.iload_n 2, 1) := by decide +kernel
theorem dX13_areTwo_18 : decode cX13_areTwo 18 = .ok (.if_icmp .eq 7, 3) := by decide +kernel
theorem dX13_areTwo_21 : decode cX13_areTwo 21 = .ok (.iconst 1, 1) := by decide +kernel
theorem dX13_areTwo_22 : decode cX13_areTwo 22 = .ok (.goto 4, 3) := by decide +kernel
theorem dX13_areTwo_25 : decode cX13_areTwo 25 = .ok (.iconst 0, 1) := by decide +kernel
theorem dX13_areTwo_26 : decode cX13_areTwo 26 = .ok (.ireturn, 1) := by decide +kernel
theorem dX13_works_0 : decode cX13_works 0 = .ok (.iconst 0, 1) := by decide +kernel
theorem dX13_works_1 : decode cX13_works 1 = .ok (.istore_n 1, 1) := by decide +kernel
theorem dX13_works_2 : decode cX13_works 2 = .ok (.iload_n 1, 1) := by decide +kernel
theorem dX13_works_3 : decode cX13_works 3 = .ok (.bipush 26, 2) := by decide +kernel
theorem dX13_works_5 : decode cX13_works 5 = .ok (.if_icmp .ge 21, 3) := by decide +kernel
theorem dX13_works_8 : decode cX13_works 8 = .ok (.aload_n 0, 1) := by decide +kernel
theorem dX13_works_9 : decode cX13_works 9 = .ok (.getfield 21, 3) := by decide +kernel
theorem dX13_works_12 : decode cX13_works 12 = .ok (.iload_n 1, 1) := by decide +kernel
theorem dX13_works_13 : decode cX13_works 13 = .ok (.aload_n 0, 1) := by decide +kernel
theorem dX13_works_14 : decode cX13_works 14 = .ok (.getfield 17, 3) := by decide +kernel
theorem dX13_works_17 : decode cX13_works 17 = .ok (.iload_n 1, 1) := by decide +kernel
theorem dX13_works_18 : decode cX13_works 18 = .ok (.iaload, 1) := by decide +kernel
theorem dX13_works_19 : decode cX13_works 19 = .ok (.iastore, 1) := by decide +kernel
theorem dX13_works_20 : decode cX13_works 20 = .ok (.iinc 1 1, 3) := by decide +kernel
theorem dX13_works_23 : decode cX13_works 23 = .ok (.goto (-21), 3) := by decide +kernel
theorem dX13_works_26 : decode cX13_works 26 = .ok (.return_, 1) := by decide +kernel
theorem dX13_kindOf_0 : decode cX13_kindOf 0 = .ok (.aload_n 0, 1) := by decide +kernel
theorem dX13_kindOf_1 : decode cX13_kindOf 1 = .ok (.getfield 21, 3) := by decide +kernel
theorem dX13_kindOf_4 : decode cX13_kindOf 4 = .ok (.iconst 0, 1) := by decide +kernel
theorem dX13_kindOf_5 : decode cX13_kindOf 5 = .ok (.iload_n 1, 1) := by decide +kernel
theorem dX13_kindOf_6 : decode cX13_kindOf 6 = .ok (.iadd, 1) := by decide +kernel
theorem dX13_kindOf_7 : decode cX13_kindOf 7 = .ok (.iaload, 1) := by decide +kernel
theorem dX13_kindOf_8 : decode cX13_kindOf 8 = .ok (.iconst (-1), 1) := by decide +kernel
theorem dX13_kindOf_9 : decode cX13_kindOf 9 = .ok (.if_icmp .ne 15, 3) := by decide +kernel
theorem dX13_kindOf_12 : decode cX13_kindOf 12 = .ok (.aload_n 0, 1) := by decide +kernel
theorem dX13_kindOf_13 : decode cX13_kindOf 13 = .ok (.getfield 343, 3) := by decide +kernel
theorem dX13_kindOf_16 : decode cX13_kindOf 16 = .ok (.getfield 258, 3) := by decide +kernel
theorem dX13_kindOf_19 : decode cX13_kindOf 19 = .ok (.iload_n 1, 1) := by decide +kernel
theorem dX13_kindOf_20 : decode cX13_kindOf 20 = .ok (.iaload, 1) := by decide +kernel
theorem dX13_kindOf_21 : decode cX13_kindOf 21 = .ok (.goto 4, 3) := by decide +kernel
theorem dX13_kindOf_24 : decode cX13_kindOf 24 = .ok (.iconst 0, 1) := by decide +kernel
theorem dX13_kindOf_25 : decode cX13_kindOf 25 = .ok (.ireturn, 1) := by decide +kernel
theorem dX13_stepOf_0 : decode cX13_stepOf 0 = .ok (.aload_n 0, 1) := by decide +kernel
theorem dX13_stepOf_1 : decode cX13_stepOf 1 = .ok (.getfield 21, 3) := by decide +kernel
theorem dX13_stepOf_4 : decode cX13_stepOf 4 = .ok (.iconst 0, 1) := by decide +kernel
theorem dX13_stepOf_5 : decode cX13_stepOf 5 = .ok (.iload_n 1, 1) := by decide +kernel
theorem dX13_stepOf_6 : decode cX13_stepOf 6 = .ok (.iadd, 1) := by decide +kernel
theorem dX13_stepOf_7 : decode cX13_stepOf 7 = .ok (.iaload, 1) := by decide +kernel
theorem dX13_stepOf_8 : decode cX13_stepOf 8 = .ok (.iconst (-1), 1) := by decide +kernel
theorem dX13_stepOf_9 : decode cX13_stepOf 9 = .ok (.if_icmp .ne 15, 3) := by decide +kernel
theorem dX13_stepOf_12 : decode cX13_stepOf 12 = .ok (.aload_n 0, 1) := by decide +kernel
theorem dX13_stepOf_13 : decode cX13_stepOf 13 = .ok (.getfield 343, 3) := by decide +kernel
theorem dX13_stepOf_16 : decode cX13_stepOf 16 = .ok (.getfield 269, 3) := by decide +kernel
theorem dX13_stepOf_19 : decode cX13_stepOf 19 = .ok (.iload_n 1, 1) := by decide +kernel
theorem dX13_stepOf_20 : decode cX13_stepOf 20 = .ok (.iaload, 1) := by decide +kernel
theorem dX13_stepOf_21 : decode cX13_stepOf 21 = .ok (.goto 4, 3) := by decide +kernel
theorem dX13_stepOf_24 : decode cX13_stepOf 24 = .ok (.iconst 0, 1) := by decide +kernel
theorem dX13_stepOf_25 : decode cX13_stepOf 25 = .ok (.ireturn, 1) := by decide +kernel
theorem dX13_foesOf_0 : decode cX13_foesOf 0 = .ok (.aload_n 0, 1) := by decide +kernel
theorem dX13_foesOf_1 : decode cX13_foesOf 1 = .ok (.getfield 21, 3) := by decide +kernel
theorem dX13_foesOf_4 : decode cX13_foesOf 4 = .ok (.iconst 0, 1) := by decide +kernel
theorem dX13_foesOf_5 : decode cX13_foesOf 5 = .ok (.iload_n 1, 1) := by decide +kernel
theorem dX13_foesOf_6 : decode cX13_foesOf 6 = .ok (.iadd, 1) := by decide +kernel
theorem dX13_foesOf_7 : decode cX13_foesOf 7 = .ok (.iaload, 1) := by decide +kernel
theorem dX13_foesOf_8 : decode cX13_foesOf 8 = .ok (.iconst (-1), 1) := by decide +kernel
theorem dX13_foesOf_9 : decode cX13_foesOf 9 = .ok (.if_icmp .ne 15, 3) := by decide +kernel
theorem dX13_foesOf_12 : decode cX13_foesOf 12 = .ok (.aload_n 0, 1) := by decide +kernel
theorem dX13_foesOf_13 : decode cX13_foesOf 13 = .ok (.getfield 343, 3) := by decide +kernel
theorem dX13_foesOf_16 : decode cX13_foesOf 16 = .ok (.getfield 274, 3) := by decide +kernel
theorem dX13_foesOf_19 : decode cX13_foesOf 19 = .ok (.iload_n 1, 1) := by decide +kernel
theorem dX13_foesOf_20 : decode cX13_foesOf 20 = .ok (.iaload, 1) := by decide +kernel
theorem dX13_foesOf_21 : decode cX13_foesOf 21 = .ok (.goto 4, 3) := by decide +kernel
theorem dX13_foesOf_24 : decode cX13_foesOf 24 = .ok (.iconst 0, 1) := by decide +kernel
theorem dX13_foesOf_25 : decode cX13_foesOf 25 = .ok (.ireturn, 1) := by decide +kernel
theorem dX13_oneOf_0 : decode cX13_oneOf 0 = .ok (.aload_n 0, 1) := by decide +kernel
theorem dX13_oneOf_1 : decode cX13_oneOf 1 = .ok (.getfield 21, 3) := by decide +kernel
theorem dX13_oneOf_4 : decode cX13_oneOf 4 = .ok (.iconst 0, 1) := by decide +kernel
theorem dX13_oneOf_5 : decode cX13_oneOf 5 = .ok (.iload_n 1, 1) := by decide +kernel
theorem dX13_oneOf_6 : decode cX13_oneOf 6 = .ok (.iadd, 1) := by decide +kernel
theorem dX13_oneOf_7 : decode cX13_oneOf 7 = .ok (.iaload, 1) := by decide +kernel
theorem dX13_oneOf_8 : decode cX13_oneOf 8 = .ok (.iconst (-1), 1) := by decide +kernel
theorem dX13_oneOf_9 : decode cX13_oneOf 9 = .ok (.if_icmp .ne 15, 3) := by decide +kernel
theorem dX13_oneOf_12 : decode cX13_oneOf 12 = .ok (.aload_n 0, 1) := by decide +kernel
theorem dX13_oneOf_13 : decode cX13_oneOf 13 = .ok (.getfield 343, 3) := by decide +kernel
theorem dX13_oneOf_16 : decode cX13_oneOf 16 = .ok (.getfield 261, 3) := by decide +kernel
theorem dX13_oneOf_19 : decode cX13_oneOf 19 = .ok (.iload_n 1, 1) := by decide +kernel
theorem dX13_oneOf_20 : decode cX13_oneOf 20 = .ok (.iaload, 1) := by decide +kernel
theorem dX13_oneOf_21 : decode cX13_oneOf 21 = .ok (.goto 19, 3) := by decide +kernel
theorem dX13_oneOf_24 : decode cX13_oneOf 24 = .ok (.aload_n 0, 1) := by decide +kernel
theorem dX13_oneOf_25 : decode cX13_oneOf 25 = .ok (.getfield 343, 3) := by decide +kernel
theorem dX13_oneOf_28 : decode cX13_oneOf 28 = .ok (.getfield 303, 3) := by decide +kernel
theorem dX13_oneOf_31 : decode cX13_oneOf 31 = .ok (.aload_n 0, 1) := by decide +kernel
theorem dX13_oneOf_32 : decode cX13_oneOf 32 = .ok (.getfield 21, 3) := by decide +kernel
theorem dX13_oneOf_35 : decode cX13_oneOf 35 = .ok (.iconst 0, 1) := by decide +kernel
theorem dX13_oneOf_36 : decode cX13_oneOf 36 = .ok (.iload_n 1, 1) := by decide +kernel
theorem dX13_oneOf_37 : decode cX13_oneOf 37 = .ok (.iadd, 1) := by decide +kernel
theorem dX13_oneOf_38 : decode cX13_oneOf 38 = .ok (.iaload, 1) := by decide +kernel
theorem dX13_oneOf_39 : decode cX13_oneOf 39 = .ok (.iaload, 1) := by decide +kernel
theorem dX13_oneOf_40 : decode cX13_oneOf 40 = .ok (.ireturn, 1) := by decide +kernel
theorem dX13_twoOf_0 : decode cX13_twoOf 0 = .ok (.aload_n 0, 1) := by decide +kernel
theorem dX13_twoOf_1 : decode cX13_twoOf 1 = .ok (.getfield 21, 3) := by decide +kernel
theorem dX13_twoOf_4 : decode cX13_twoOf 4 = .ok (.iconst 0, 1) := by decide +kernel
theorem dX13_twoOf_5 : decode cX13_twoOf 5 = .ok (.iload_n 1, 1) := by decide +kernel
theorem dX13_twoOf_6 : decode cX13_twoOf 6 = .ok (.iadd, 1) := by decide +kernel
theorem dX13_twoOf_7 : decode cX13_twoOf 7 = .ok (.iaload, 1) := by decide +kernel
theorem dX13_twoOf_8 : decode cX13_twoOf 8 = .ok (.iconst (-1), 1) := by decide +kernel
theorem dX13_twoOf_9 : decode cX13_twoOf 9 = .ok (.if_icmp .ne 15, 3) := by decide +kernel
theorem dX13_twoOf_12 : decode cX13_twoOf 12 = .ok (.aload_n 0, 1) := by decide +kernel
theorem dX13_twoOf_13 : decode cX13_twoOf 13 = .ok (.getfield 343, 3) := by decide +kernel
theorem dX13_twoOf_16 : decode cX13_twoOf 16 = .ok (.getfield 264, 3) := by decide +kernel
theorem dX13_twoOf_19 : decode cX13_twoOf 19 = .ok (.iload_n 1, 1) := by decide +kernel
theorem dX13_twoOf_20 : decode cX13_twoOf 20 = .ok (.iaload, 1) := by decide +kernel
theorem dX13_twoOf_21 : decode cX13_twoOf 21 = .ok (.goto 19, 3) := by decide +kernel
theorem dX13_twoOf_24 : decode cX13_twoOf 24 = .ok (.aload_n 0, 1) := by decide +kernel
theorem dX13_twoOf_25 : decode cX13_twoOf 25 = .ok (.getfield 343, 3) := by decide +kernel
theorem dX13_twoOf_28 : decode cX13_twoOf 28 = .ok (.getfield 306, 3) := by decide +kernel
theorem dX13_twoOf_31 : decode cX13_twoOf 31 = .ok (.aload_n 0, 1) := by decide +kernel
theorem dX13_twoOf_32 : decode cX13_twoOf 32 = .ok (.getfield 21, 3) := by decide +kernel
theorem dX13_twoOf_35 : decode cX13_twoOf 35 = .ok (.iconst 0, 1) := by decide +kernel
theorem dX13_twoOf_36 : decode cX13_twoOf 36 = .ok (.iload_n 1, 1) := by decide +kernel
theorem dX13_twoOf_37 : decode cX13_twoOf 37 = .ok (.iadd, 1) := by decide +kernel
theorem dX13_twoOf_38 : decode cX13_twoOf 38 = .ok (.iaload, 1) := by decide +kernel
theorem dX13_twoOf_39 : decode cX13_twoOf 39 = .ok (.iaload, 1) := by decide +kernel
theorem dX13_twoOf_40 : decode cX13_twoOf 40 = .ok (.ireturn, 1) := by decide +kernel
theorem dX13_strongOf_0 : decode cX13_strongOf 0 = .ok (.aload_n 0, 1) := by decide +kernel
theorem dX13_strongOf_1 : decode cX13_strongOf 1 = .ok (.getfield 21, 3) := by decide +kernel
theorem dX13_strongOf_4 : decode cX13_strongOf 4 = .ok (.iconst 0, 1) := by decide +kernel
theorem dX13_strongOf_5 : decode cX13_strongOf 5 = .ok (.iload_n 1, 1) := by decide +kernel
theorem dX13_strongOf_6 : decode cX13_strongOf 6 = .ok (.iadd, 1) := by decide +kernel
theorem dX13_strongOf_7 : decode cX13_strongOf 7 = .ok (.iaload, 1) := by decide +kernel
theorem dX13_strongOf_8 : decode cX13_strongOf 8 = .ok (.iconst (-1), 1) := by decide +kernel
theorem dX13_strongOf_9 : decode cX13_strongOf 9 = .ok (.if_icmp .ne 15, 3) := by decide +kernel
theorem dX13_strongOf_12 : decode cX13_strongOf 12 = .ok (.aload_n 0, 1) := by decide +kernel
theorem dX13_strongOf_13 : decode cX13_strongOf 13 = .ok (.getfield 343, 3) := by decide +kernel
theorem dX13_strongOf_16 : decode cX13_strongOf 16 = .ok (.getfield 267, 3) := by decide +kernel
theorem dX13_strongOf_19 : decode cX13_strongOf 19 = .ok (.iload_n 1, 1) := by decide +kernel
theorem dX13_strongOf_20 : decode cX13_strongOf 20 = .ok (.iaload, 1) := by decide +kernel
theorem dX13_strongOf_21 : decode cX13_strongOf 21 = .ok (.goto 19, 3) := by decide +kernel
theorem dX13_strongOf_24 : decode cX13_strongOf 24 = .ok (.aload_n 0, 1) := by decide +kernel
theorem dX13_strongOf_25 : decode cX13_strongOf 25 = .ok (.getfield 343, 3) := by decide +kernel
theorem dX13_strongOf_28 : decode cX13_strongOf 28 = .ok (.getfield 309, 3) := by decide +kernel
theorem dX13_strongOf_31 : decode cX13_strongOf 31 = .ok (.aload_n 0, 1) := by decide +kernel
theorem dX13_strongOf_32 : decode cX13_strongOf 32 = .ok (.getfield 21, 3) := by decide +kernel
theorem dX13_strongOf_35 : decode cX13_strongOf 35 = .ok (.iconst 0, 1) := by decide +kernel
theorem dX13_strongOf_36 : decode cX13_strongOf 36 = .ok (.iload_n 1, 1) := by decide +kernel
theorem dX13_strongOf_37 : decode cX13_strongOf 37 = .ok (.iadd, 1) := by decide +kernel
theorem dX13_strongOf_38 : decode cX13_strongOf 38 = .ok (.iaload, 1) := by decide +kernel
theorem dX13_strongOf_39 : decode cX13_strongOf 39 = .ok (.iaload, 1) := by decide +kernel
theorem dX13_strongOf_40 : decode cX13_strongOf 40 = .ok (.istore_n 3, 1) := by decide +kernel
theorem dX13_strongOf_41 : decode cX13_strongOf 41 = .ok (.aload_n 0, 1) := by decide +kernel
theorem dX13_strongOf_42 : decode cX13_strongOf 42 = .ok (.getfield 21, 3) := by decide +kernel
theorem dX13_strongOf_45 : decode cX13_strongOf 45 = .ok (.bipush 25, 2) := by decide +kernel
theorem dX13_strongOf_47 : decode cX13_strongOf 47 = .ok (.iaload, 1) := by decide +kernel
theorem dX13_strongOf_48 : decode cX13_strongOf 48 = .ok (.iload_n 2, 1) := by decide +kernel
theorem dX13_strongOf_49 : decode cX13_strongOf 49 = .ok (.iadd, 1) := by decide +kernel
theorem dX13_strongOf_50 : decode cX13_strongOf 50 = .ok (.aload_n 0, 1) := by decide +kernel
theorem dX13_strongOf_51 : decode cX13_strongOf 51 = .ok (.getfield 21, 3) := by decide +kernel
theorem dX13_strongOf_54 : decode cX13_strongOf 54 = .ok (.bipush 8, 2) := by decide +kernel
theorem dX13_strongOf_56 : decode cX13_strongOf 56 = .ok (.iload_n 1, 1) := by decide +kernel
theorem dX13_strongOf_57 : decode cX13_strongOf 57 = .ok (.iadd, 1) := by decide +kernel
theorem dX13_strongOf_58 : decode cX13_strongOf 58 = .ok (.iaload, 1) := by decide +kernel
theorem dX13_strongOf_59 : decode cX13_strongOf 59 = .ok (.isub, 1) := by decide +kernel
theorem dX13_strongOf_60 : decode cX13_strongOf 60 = .ok (.istore 4, 2) := by decide +kernel
theorem dX13_strongOf_62 : decode cX13_strongOf 62 = .ok (.aload_n 0, 1) := by decide +kernel
theorem dX13_strongOf_63 : decode cX13_strongOf 63 = .ok (.iload_n 1, 1) := by decide +kernel
theorem dX13_strongOf_64 : decode cX13_strongOf 64 = .ok (.invokevirtual 354, 3) := by decide +kernel
theorem dX13_strongOf_67 : decode cX13_strongOf 67 = .ok (.istore 5, 2) := by decide +kernel
theorem dX13_strongOf_69 : decode cX13_strongOf 69 = .ok (.aload_n 0, 1) := by decide +kernel
theorem dX13_strongOf_70 : decode cX13_strongOf 70 = .ok (.getfield 21, 3) := by decide +kernel
theorem dX13_strongOf_73 : decode cX13_strongOf 73 = .ok (.bipush 16, 2) := by decide +kernel
theorem dX13_strongOf_75 : decode cX13_strongOf 75 = .ok (.iload_n 1, 1) := by decide +kernel
theorem dX13_strongOf_76 : decode cX13_strongOf 76 = .ok (.iadd, 1) := by decide +kernel
theorem dX13_strongOf_77 : decode cX13_strongOf 77 = .ok (.iaload, 1) := by decide +kernel
theorem dX13_strongOf_78 : decode cX13_strongOf 78 = .ok (.iconst 1, 1) := by decide +kernel
theorem dX13_strongOf_79 : decode cX13_strongOf 79 = .ok (.if_icmp .ne 5, 3) := by decide +kernel
theorem dX13_strongOf_82 : decode cX13_strongOf 82 = .ok (.iconst 0, 1) := by decide +kernel
theorem dX13_strongOf_83 : decode cX13_strongOf 83 = .ok (.ireturn, 1) := by decide +kernel
theorem dX13_strongOf_84 : decode cX13_strongOf 84 = .ok (.aload_n 0, 1) := by decide +kernel
theorem dX13_strongOf_85 : decode cX13_strongOf 85 = .ok (.iload_n 1, 1) := by decide +kernel
theorem dX13_strongOf_86 : decode cX13_strongOf 86 = .ok (.invokevirtual 357, 3) := by decide +kernel
theorem dX13_strongOf_89 : decode cX13_strongOf 89 = .ok (.iconst 1, 1) := by decide +kernel
theorem dX13_strongOf_90 : decode cX13_strongOf 90 = .ok (.if_icmp .ne 24, 3) := by decide +kernel
theorem dX13_strongOf_93 : decode cX13_strongOf 93 = .ok (.iload_n 3, 1) := by decide +kernel
theorem dX13_strongOf_94 : decode cX13_strongOf 94 = .ok (.iload 5, 2) := by decide +kernel
theorem dX13_strongOf_96 : decode cX13_strongOf 96 = .ok (.iload 4, 2) := by decide +kernel
theorem dX13_strongOf_98 : decode cX13_strongOf 98 = .ok (.imul, 1) := by decide +kernel
theorem dX13_strongOf_99 : decode cX13_strongOf 99 = .ok (.if_icmp .le 13, 3) := by decide +kernel
theorem dX13_strongOf_102 : decode cX13_strongOf 102 = .ok (.iload_n 3, 1) := by decide +kernel
theorem dX13_strongOf_103 : decode cX13_strongOf 103 = .ok (.iload 5, 2) := by decide +kernel
theorem dX13_strongOf_105 : decode cX13_strongOf 105 = .ok (.iload 4, 2) := by decide +kernel
theorem dX13_strongOf_107 : decode cX13_strongOf 107 = .ok (.imul, 1) := by decide +kernel
theorem dX13_strongOf_108 : decode cX13_strongOf 108 = .ok (.isub, 1) := by decide +kernel
theorem dX13_strongOf_109 : decode cX13_strongOf 109 = .ok (.goto 4, 3) := by decide +kernel
theorem dX13_strongOf_112 : decode cX13_strongOf 112 = .ok (.iconst 0, 1) := by decide +kernel
theorem dX13_strongOf_113 : decode cX13_strongOf 113 = .ok (.ireturn, 1) := by decide +kernel
theorem dX13_strongOf_114 : decode cX13_strongOf 114 = .ok (.aload_n 0, 1) := by decide +kernel
theorem dX13_strongOf_115 : decode cX13_strongOf 115 = .ok (.iload_n 1, 1) := by decide +kernel
theorem dX13_strongOf_116 : decode cX13_strongOf 116 = .ok (.invokevirtual 357, 3) := by decide +kernel
theorem dX13_strongOf_119 : decode cX13_strongOf 119 = .ok (.iconst 2, 1) := by decide +kernel
theorem dX13_strongOf_120 : decode cX13_strongOf 120 = .ok (.if_icmp .ne 28, 3) := by decide +kernel
theorem dX13_strongOf_123 : decode cX13_strongOf 123 = .ok (.iload_n 3, 1) := by decide +kernel
theorem dX13_strongOf_124 : decode cX13_strongOf 124 = .ok (.iload 5, 2) := by decide +kernel
theorem dX13_strongOf_126 : decode cX13_strongOf 126 = .ok (.iload 4, 2) := by decide +kernel
theorem dX13_strongOf_128 : decode cX13_strongOf 128 = .ok (.imul, 1) := by decide +kernel
theorem dX13_strongOf_129 : decode cX13_strongOf 129 = .ok (.iadd, 1) := by decide +kernel
theorem dX13_strongOf_130 : decode cX13_strongOf 130 = .ok (.bipush 99, 2) := by decide +kernel
theorem dX13_strongOf_132 : decode cX13_strongOf 132 = .ok (.if_icmp .ge 13, 3) := by decide +kernel
theorem dX13_strongOf_135 : decode cX13_strongOf 135 = .ok (.iload_n 3, 1) := by decide +kernel
theorem dX13_strongOf_136 : decode cX13_strongOf 136 = .ok (.iload 5, 2) := by decide +kernel
theorem dX13_strongOf_138 : decode cX13_strongOf 138 = .ok (.iload 4, 2) := by decide +kernel
theorem dX13_strongOf_140 : decode cX13_strongOf 140 = .ok (.imul, 1) := by decide +kernel
theorem dX13_strongOf_141 : decode cX13_strongOf 141 = .ok (.iadd, 1) := by decide +kernel
theorem dX13_strongOf_142 : decode cX13_strongOf 142 = .ok (.goto 5, 3) := by decide +kernel
theorem dX13_strongOf_145 : decode cX13_strongOf 145 = .ok (.bipush 99, 2) := by decide +kernel
theorem dX13_strongOf_147 : decode cX13_strongOf 147 = .ok (.ireturn, 1) := by decide +kernel
theorem dX13_strongOf_148 : decode cX13_strongOf 148 = .ok (.aload_n 0, 1) := by decide +kernel
theorem dX13_strongOf_149 : decode cX13_strongOf 149 = .ok (.iload_n 1, 1) := by decide +kernel
theorem dX13_strongOf_150 : decode cX13_strongOf 150 = .ok (.invokevirtual 357, 3) := by decide +kernel
theorem dX13_strongOf_153 : decode cX13_strongOf 153 = .ok (.iconst 3, 1) := by decide +kernel
theorem dX13_strongOf_154 : decode cX13_strongOf 154 = .ok (.if_icmp .ne 14, 3) := by decide +kernel
theorem dX13_strongOf_157 : decode cX13_strongOf 157 = .ok (.iload 4, 2) := by decide +kernel
theorem dX13_strongOf_159 : decode cX13_strongOf 159 = .ok (.iload 5, 2) := by decide +kernel
theorem dX13_strongOf_161 : decode cX13_strongOf 161 = .ok (.if_icmp .lt 7, 3) := by decide +kernel
theorem dX13_strongOf_164 : decode cX13_strongOf 164 = .ok (.iconst 0, 1) := by decide +kernel
theorem dX13_strongOf_165 : decode cX13_strongOf 165 = .ok (.goto 4, 3) := by decide +kernel
theorem dX13_strongOf_168 : decode cX13_strongOf 168 = .ok (.iload_n 3, 1) := by decide +kernel
theorem dX13_strongOf_169 : decode cX13_strongOf 169 = .ok (.ireturn, 1) := by decide +kernel
theorem dX13_edge_0 : decode cX13_edge 0 = .ok (.aload_n 0, 1) := by decide +kernel
theorem dX13_edge_1 : decode cX13_edge 1 = .ok (.getfield 30, 3) := by decide +kernel
theorem dX13_edge_4 : decode cX13_edge 4 = .ok (.aload_n 0, 1) := by decide +kernel
theorem dX13_edge_5 : decode cX13_edge 5 = .ok (.getfield 360, 3) := by decide +kernel
theorem dX13_edge_8 : decode cX13_edge 8 = .ok (.iload_n 1, 1) := by decide +kernel
theorem dX13_edge_9 : decode cX13_edge 9 = .ok (.iastore, 1) := by decide +kernel
theorem dX13_edge_10 : decode cX13_edge 10 = .ok (.aload_n 0, 1) := by decide +kernel
theorem dX13_edge_11 : decode cX13_edge 11 = .ok (.getfield 33, 3) := by decide +kernel
theorem dX13_edge_14 : decode cX13_edge 14 = .ok (.aload_n 0, 1) := by decide +kernel
theorem dX13_edge_15 : decode cX13_edge 15 = .ok (.getfield 360, 3) := by decide +kernel
theorem dX13_edge_18 : decode cX13_edge 18 = .ok (.iload_n 2, 1) := by decide +kernel
theorem dX13_edge_19 : decode cX13_edge 19 = .ok (.iastore, 1) := by decide +kernel
theorem dX13_edge_20 : decode cX13_edge 20 = .ok (.aload_n 0, 1) := by decide +kernel
theorem dX13_edge_21 : decode cX13_edge 21 = .ok (.getfield 36, 3) := by decide +kernel
theorem dX13_edge_24 : decode cX13_edge 24 = .ok (.aload_n 0, 1) := by decide +kernel
theorem dX13_edge_25 : decode cX13_edge 25 = .ok (.getfield 360, 3) := by decide +kernel
theorem dX13_edge_28 : decode cX13_edge 28 = .ok (.iload_n 3, 1) := by decide +kernel
theorem dX13_edge_29 : decode cX13_edge 29 = .ok (.iastore, 1) := by decide +kernel
theorem dX13_edge_30 : decode cX13_edge 30 = .ok (.aload_n 0, 1) := by decide +kernel
theorem dX13_edge_31 : decode cX13_edge 31 = .ok (.dup, 1) := by decide +kernel
theorem dX13_edge_32 : decode cX13_edge 32 = .ok (.getfield 360, 3) := by decide +kernel
theorem dX13_edge_35 : decode cX13_edge 35 = .ok (.iconst 1, 1) := by decide +kernel
theorem dX13_edge_36 : decode cX13_edge 36 = .ok (.iadd, 1) := by decide +kernel
theorem dX13_edge_37 : decode cX13_edge 37 = .ok (.putfield 360, 3) := by decide +kernel
theorem dX13_edge_40 : decode cX13_edge 40 = .ok (.return_, 1) := by decide +kernel
theorem dX13_laysWorked_0 : decode cX13_laysWorked 0 = .ok (.aload_n 0, 1) := by decide +kernel
theorem dX13_laysWorked_1 : decode cX13_laysWorked 1 = .ok (.iconst 0, 1) := by decide +kernel
theorem dX13_laysWorked_2 : decode cX13_laysWorked 2 = .ok (.putfield 360, 3) := by decide +kernel
theorem dX13_laysWorked_5 : decode cX13_laysWorked 5 = .ok (.iconst 0, 1) := by decide +kernel
theorem dX13_laysWorked_6 : decode cX13_laysWorked 6 = .ok (.istore_n 2, 1) := by decide +kernel
theorem dX13_laysWorked_7 : decode cX13_laysWorked 7 = .ok (.iload_n 2, 1) := by decide +kernel
theorem dX13_laysWorked_8 : decode cX13_laysWorked 8 = .ok (.aload_n 0, 1) := by decide +kernel
theorem dX13_laysWorked_9 : decode cX13_laysWorked 9 = .ok (.getfield 21, 3) := by decide +kernel
theorem dX13_laysWorked_12 : decode cX13_laysWorked 12 = .ok (.bipush 24, 2) := by decide +kernel
theorem dX13_laysWorked_14 : decode cX13_laysWorked 14 = .ok (.iaload, 1) := by decide +kernel
theorem dX13_laysWorked_15 : decode cX13_laysWorked 15 = .ok (.if_icmp .ge 29, 3) := by decide +kernel
theorem dX13_laysWorked_18 : decode cX13_laysWorked 18 = .ok (.aload_n 0, 1) := by decide +kernel
theorem dX13_laysWorked_19 : decode cX13_laysWorked 19 = .ok (.aload_n 0, 1) := by decide +kernel
theorem dX13_laysWorked_20 : decode cX13_laysWorked 20 = .ok (.iload_n 2, 1) := by decide +kernel
theorem dX13_laysWorked_21 : decode cX13_laysWorked 21 = .ok (.invokevirtual 363, 3) := by decide +kernel
theorem dX13_laysWorked_24 : decode cX13_laysWorked 24 = .ok (.aload_n 0, 1) := by decide +kernel
theorem dX13_laysWorked_25 : decode cX13_laysWorked 25 = .ok (.iload_n 2, 1) := by decide +kernel
theorem dX13_laysWorked_26 : decode cX13_laysWorked 26 = .ok (.invokevirtual 366, 3) := by decide +kernel
theorem dX13_laysWorked_29 : decode cX13_laysWorked 29 = .ok (.aload_n 0, 1) := by decide +kernel
theorem dX13_laysWorked_30 : decode cX13_laysWorked 30 = .ok (.iload_n 2, 1) := by decide +kernel
theorem dX13_laysWorked_31 : decode cX13_laysWorked 31 = .ok (.iload_n 1, 1) := by decide +kernel
theorem dX13_laysWorked_32 : decode cX13_laysWorked 32 = .ok (.invokevirtual 369, 3) := by decide +kernel
theorem dX13_laysWorked_35 : decode cX13_laysWorked 35 = .ok (.invokevirtual 372, 3) := by decide +kernel
theorem dX13_laysWorked_38 : decode cX13_laysWorked 38 = .ok (.iinc 2 1, 3) := by decide +kernel
theorem dX13_laysWorked_41 : decode cX13_laysWorked 41 = .ok (.goto (-34), 3) := by decide +kernel
theorem dX13_laysWorked_44 : decode cX13_laysWorked 44 = .ok (.return_, 1) := by decide +kernel
theorem dX13_lays_0 : decode cX13_lays 0 = .ok (.aload_n 0, 1) := by decide +kernel
theorem dX13_lays_1 : decode cX13_lays 1 = .ok (.invokevirtual 376, 3) := by decide +kernel
theorem dX13_lays_4 : decode cX13_lays 4 = .ok (.aload_n 0, 1) := by decide +kernel
theorem dX13_lays_5 : decode cX13_lays 5 = .ok (.iload_n 1, 1) := by decide +kernel
theorem dX13_lays_6 : decode cX13_lays 6 = .ok (.invokevirtual 379, 3) := by decide +kernel
theorem dX13_lays_9 : decode cX13_lays 9 = .ok (.return_, 1) := by decide +kernel
theorem dX13_laysOffers_0 : decode cX13_laysOffers 0 = .ok (.iconst 0, 1) := by decide +kernel
theorem dX13_laysOffers_1 : decode cX13_laysOffers 1 = .ok (.istore_n 2, 1) := by decide +kernel
theorem dX13_laysOffers_2 : decode cX13_laysOffers 2 = .ok (.iload_n 2, 1) := by decide +kernel
theorem dX13_laysOffers_3 : decode cX13_laysOffers 3 = .ok (.aload_n 0, 1) := by decide +kernel
theorem dX13_laysOffers_4 : decode cX13_laysOffers 4 = .ok (.getfield 343, 3) := by decide +kernel
theorem dX13_laysOffers_7 : decode cX13_laysOffers 7 = .ok (.getfield 298, 3) := by decide +kernel
theorem dX13_laysOffers_10 : decode cX13_laysOffers 10 = .ok (.if_icmp .ge 48, 3) := by decide +kernel
theorem dX13_laysOffers_13 : decode cX13_laysOffers 13 = .ok (.iload_n 1, 1) := by decide +kernel
theorem dX13_laysOffers_14 : decode cX13_laysOffers 14 = .ok (.iload_n 2, 1) := by decide +kernel
theorem dX13_laysOffers_15 : decode cX13_laysOffers 15 = .ok (.invokestatic 277, 3) := by decide +kernel
theorem dX13_laysOffers_18 : decode cX13_laysOffers 18 = .ok (.ifCond .eq 34, 3) := by decide +kernel
theorem dX13_laysOffers_21 : decode cX13_laysOffers 21 = .ok (.aload_n 0, 1) := by decide +kernel
theorem dX13_laysOffers_22 : decode cX13_laysOffers 22 = .ok (.aload_n 0, 1) := by decide +kernel
theorem dX13_laysOffers_23 : decode cX13_laysOffers 23 = .ok (.getfield 343, 3) := by decide +kernel
theorem dX13_laysOffers_26 : decode cX13_laysOffers 26 = .ok (.getfield 303, 3) := by decide +kernel
theorem dX13_laysOffers_29 : decode cX13_laysOffers 29 = .ok (.iload_n 2, 1) := by decide +kernel
theorem dX13_laysOffers_30 : decode cX13_laysOffers 30 = .ok (.iaload, 1) := by decide +kernel
theorem dX13_laysOffers_31 : decode cX13_laysOffers 31 = .ok (.aload_n 0, 1) := by decide +kernel
theorem dX13_laysOffers_32 : decode cX13_laysOffers 32 = .ok (.getfield 343, 3) := by decide +kernel
theorem dX13_laysOffers_35 : decode cX13_laysOffers 35 = .ok (.getfield 306, 3) := by decide +kernel
theorem dX13_laysOffers_38 : decode cX13_laysOffers 38 = .ok (.iload_n 2, 1) := by decide +kernel
theorem dX13_laysOffers_39 : decode cX13_laysOffers 39 = .ok (.iaload, 1) := by decide +kernel
theorem dX13_laysOffers_40 : decode cX13_laysOffers 40 = .ok (.aload_n 0, 1) := by decide +kernel
theorem dX13_laysOffers_41 : decode cX13_laysOffers 41 = .ok (.getfield 343, 3) := by decide +kernel
theorem dX13_laysOffers_44 : decode cX13_laysOffers 44 = .ok (.getfield 309, 3) := by decide +kernel
theorem dX13_laysOffers_47 : decode cX13_laysOffers 47 = .ok (.iload_n 2, 1) := by decide +kernel
theorem dX13_laysOffers_48 : decode cX13_laysOffers 48 = .ok (.iaload, 1) := by decide +kernel
theorem dX13_laysOffers_49 : decode cX13_laysOffers 49 = .ok (.invokevirtual 372, 3) := by decide +kernel
theorem dX13_laysOffers_52 : decode cX13_laysOffers 52 = .ok (.iinc 2 1, 3) := by decide +kernel
theorem dX13_laysOffers_55 : decode cX13_laysOffers 55 = .ok (.goto (-53), 3) := by decide +kernel
theorem dX13_laysOffers_58 : decode cX13_laysOffers 58 = .ok (.return_, 1) := by decide +kernel
theorem dX13_isCrossing_0 : decode cX13_isCrossing 0 = .ok (.iload_n 1, 1) := by decide +kernel
theorem dX13_isCrossing_1 : decode cX13_isCrossing 1 = .ok (.aload_n 0, 1) := by decide +kernel
theorem dX13_isCrossing_2 : decode cX13_isCrossing 2 = .ok (.getfield 30, 3) := by decide +kernel
theorem dX13_isCrossing_5 : decode cX13_isCrossing 5 = .ok (.iload_n 2, 1) := by decide +kernel
theorem dX13_isCrossing_6 : decode cX13_isCrossing 6 = .ok (.iaload, 1) := by decide +kernel
theorem dX13_isCrossing_7 : decode cX13_isCrossing 7 = .ok (.invokestatic 277, 3) := by decide +kernel
theorem dX13_isCrossing_10 : decode cX13_isCrossing 10 = .ok (.iload_n 1, 1) := by decide +kernel
theorem dX13_isCrossing_11 : decode cX13_isCrossing 11 = .ok (.aload_n 0, 1) := by decide +kernel
theorem dX13_isCrossing_12 : decode cX13_isCrossing 12 = .ok (.getfield 33, 3) := by decide +kernel
theorem dX13_isCrossing_15 : decode cX13_isCrossing 15 = .ok (.iload_n 2, 1) := by decide +kernel
theorem dX13_isCrossing_16 : decode cX13_isCrossing 16 = .ok (.iaload, 1) := by decide +kernel
theorem dX13_isCrossing_17 : decode cX13_isCrossing 17 = .ok (.invokestatic 277, 3) := by decide +kernel
theorem dX13_isCrossing_20 : decode cX13_isCrossing 20 = .ok (.if_icmp .eq 7, 3) := by decide +kernel
theorem dX13_isCrossing_23 : decode cX13_isCrossing 23 = .ok (.iconst 1, 1) := by decide +kernel
theorem dX13_isCrossing_24 : decode cX13_isCrossing 24 = .ok (.goto 4, 3) := by decide +kernel
theorem dX13_isCrossing_27 : decode cX13_isCrossing 27 = .ok (.iconst 0, 1) := by decide +kernel
theorem dX13_isCrossing_28 : decode cX13_isCrossing 28 = .ok (.ireturn, 1) := by decide +kernel
theorem dX13_crossing_0 : decode cX13_crossing 0 = .ok (.iconst 0, 1) := by decide +kernel
theorem dX13_crossing_1 : decode cX13_crossing 1 = .ok (.istore_n 3, 1) := by decide +kernel
theorem dX13_crossing_2 : decode cX13_crossing 2 = .ok (.iconst 0, 1) := by decide +kernel
theorem dX13_crossing_3 : decode cX13_crossing 3 = .ok (.istore 4, 2) := by decide +kernel
theorem dX13_crossing_5 : decode cX13_crossing 5 = .ok (.iload 4, 2) := by decide +kernel
theorem dX13_crossing_7 : decode cX13_crossing 7 = .ok (.aload_n 0, 1) := by decide +kernel
theorem dX13_crossing_8 : decode cX13_crossing 8 = .ok (.getfield 360, 3) := by decide +kernel
theorem dX13_crossing_11 : decode cX13_crossing 11 = .ok (.if_icmp .ge 42, 3) := by decide +kernel
theorem dX13_crossing_14 : decode cX13_crossing 14 = .ok (.iload_n 3, 1) := by decide +kernel
theorem dX13_crossing_15 : decode cX13_crossing 15 = .ok (.aload_n 0, 1) := by decide +kernel
theorem dX13_crossing_16 : decode cX13_crossing 16 = .ok (.iload_n 1, 1) := by decide +kernel
theorem dX13_crossing_17 : decode cX13_crossing 17 = .ok (.iload 4, 2) := by decide +kernel
theorem dX13_crossing_19 : decode cX13_crossing 19 = .ok (.invokevirtual 382, 3) := by decide +kernel
theorem dX13_crossing_22 : decode cX13_crossing 22 = .ok (.ifCond .eq 22, 3) := by decide +kernel
theorem dX13_crossing_25 : decode cX13_crossing 25 = .ok (.iload_n 2, 1) := by decide +kernel
theorem dX13_crossing_26 : decode cX13_crossing 26 = .ok (.iload 4, 2) := by decide +kernel
theorem dX13_crossing_28 : decode cX13_crossing 28 = .ok (.invokestatic 277, 3) := by decide +kernel
theorem dX13_crossing_31 : decode cX13_crossing 31 = .ok (.ifCond .ne 13, 3) := by decide +kernel
theorem dX13_crossing_34 : decode cX13_crossing 34 = .ok (.aload_n 0, 1) := by decide +kernel
theorem dX13_crossing_35 : decode cX13_crossing 35 = .ok (.getfield 36, 3) := by decide +kernel
theorem dX13_crossing_38 : decode cX13_crossing 38 = .ok (.iload 4, 2) := by decide +kernel
theorem dX13_crossing_40 : decode cX13_crossing 40 = .ok (.iaload, 1) := by decide +kernel
theorem dX13_crossing_41 : decode cX13_crossing 41 = .ok (.goto 4, 3) := by decide +kernel
theorem dX13_crossing_44 : decode cX13_crossing 44 = .ok (.iconst 0, 1) := by decide +kernel
theorem dX13_crossing_45 : decode cX13_crossing 45 = .ok (.iadd, 1) := by decide +kernel
theorem dX13_crossing_46 : decode cX13_crossing 46 = .ok (.istore_n 3, 1) := by decide +kernel
theorem dX13_crossing_47 : decode cX13_crossing 47 = .ok (.iinc 4 1, 3) := by decide +kernel
theorem dX13_crossing_50 : decode cX13_crossing 50 = .ok (.goto (-45), 3) := by decide +kernel
theorem dX13_crossing_53 : decode cX13_crossing 53 = .ok (.iload_n 3, 1) := by decide +kernel
theorem dX13_crossing_54 : decode cX13_crossing 54 = .ok (.ireturn, 1) := by decide +kernel
theorem dX13_borneBetween_0 : decode cX13_borneBetween 0 = .ok (.ldc_w 385, 3) := by decide +kernel
theorem dX13_borneBetween_3 : decode cX13_borneBetween 3 = .ok (.istore 4, 2) := by decide +kernel
theorem dX13_borneBetween_5 : decode cX13_borneBetween 5 = .ok (.iconst 0, 1) := by decide +kernel
theorem dX13_borneBetween_6 : decode cX13_borneBetween 6 = .ok (.istore 5, 2) := by decide +kernel
theorem dX13_borneBetween_8 : decode cX13_borneBetween 8 = .ok (.iload 5, 2) := by decide +kernel
theorem dX13_borneBetween_10 : decode cX13_borneBetween 10 = .ok (.iconst 1, 1) := by decide +kernel
theorem dX13_borneBetween_11 : decode cX13_borneBetween 11 = .ok (.aload_n 0, 1) := by decide +kernel
theorem dX13_borneBetween_12 : decode cX13_borneBetween 12 = .ok (.getfield 343, 3) := by decide +kernel
theorem dX13_borneBetween_15 : decode cX13_borneBetween 15 = .ok (.getfield 194, 3) := by decide +kernel
theorem dX13_borneBetween_18 : decode cX13_borneBetween 18 = .ok (.ishl, 1) := by decide +kernel
theorem dX13_borneBetween_19 : decode cX13_borneBetween 19 = .ok (.if_icmp .ge 48, 3) := by decide +kernel
theorem dX13_borneBetween_22 : decode cX13_borneBetween 22 = .ok (.iload 5, 2) := by decide +kernel
theorem dX13_borneBetween_24 : decode cX13_borneBetween 24 = .ok (.iload_n 1, 1) := by decide +kernel
theorem dX13_borneBetween_25 : decode cX13_borneBetween 25 = .ok (.invokestatic 277, 3) := by decide +kernel
theorem dX13_borneBetween_28 : decode cX13_borneBetween 28 = .ok (.ifCond .eq 33, 3) := by decide +kernel
theorem dX13_borneBetween_31 : decode cX13_borneBetween 31 = .ok (.iload 5, 2) := by decide +kernel
theorem dX13_borneBetween_33 : decode cX13_borneBetween 33 = .ok (.iload_n 2, 1) := by decide +kernel
theorem dX13_borneBetween_34 : decode cX13_borneBetween 34 = .ok (.invokestatic 277, 3) := by decide +kernel
theorem dX13_borneBetween_37 : decode cX13_borneBetween 37 = .ok (.ifCond .ne 24, 3) := by decide +kernel
theorem dX13_borneBetween_40 : decode cX13_borneBetween 40 = .ok (.aload_n 0, 1) := by decide +kernel
theorem dX13_borneBetween_41 : decode cX13_borneBetween 41 = .ok (.iload 5, 2) := by decide +kernel
theorem dX13_borneBetween_43 : decode cX13_borneBetween 43 = .ok (.iload_n 3, 1) := by decide +kernel
theorem dX13_borneBetween_44 : decode cX13_borneBetween 44 = .ok (.invokevirtual 386, 3) := by decide +kernel
theorem dX13_borneBetween_47 : decode cX13_borneBetween 47 = .ok (.iload 4, 2) := by decide +kernel
theorem dX13_borneBetween_49 : decode cX13_borneBetween 49 = .ok (.if_icmp .ge 12, 3) := by decide +kernel
theorem dX13_borneBetween_52 : decode cX13_borneBetween 52 = .ok (.aload_n 0, 1) := by decide +kernel
theorem dX13_borneBetween_53 : decode cX13_borneBetween 53 = .ok (.iload 5, 2) := by decide +kernel
theorem dX13_borneBetween_55 : decode cX13_borneBetween 55 = .ok (.iload_n 3, 1) := by decide +kernel
theorem dX13_borneBetween_56 : decode cX13_borneBetween 56 = .ok (.invokevirtual 386, 3) := by decide +kernel
theorem dX13_borneBetween_59 : decode cX13_borneBetween 59 = .ok (.istore 4, 2) := by decide +kernel
theorem dX13_borneBetween_61 : decode cX13_borneBetween 61 = .ok (.iinc 5 1, 3) := by decide +kernel
theorem dX13_borneBetween_64 : decode cX13_borneBetween 64 = .ok (.goto (-56), 3) := by decide +kernel
theorem dX13_borneBetween_67 : decode cX13_borneBetween 67 = .ok (.iload 4, 2) := by decide +kernel
theorem dX13_borneBetween_69 : decode cX13_borneBetween 69 = .ok (.ireturn, 1) := by decide +kernel
theorem dX13_held_0 : decode cX13_held 0 = .ok (.iconst 0, 1) := by decide +kernel
theorem dX13_held_1 : decode cX13_held 1 = .ok (.istore_n 1, 1) := by decide +kernel
theorem dX13_held_2 : decode cX13_held 2 = .ok (.iconst 0, 1) := by decide +kernel
theorem dX13_held_3 : decode cX13_held 3 = .ok (.istore_n 2, 1) := by decide +kernel
theorem dX13_held_4 : decode cX13_held 4 = .ok (.iload_n 2, 1) := by decide +kernel
theorem dX13_held_5 : decode cX13_held 5 = .ok (.aload_n 0, 1) := by decide +kernel
theorem dX13_held_6 : decode cX13_held 6 = .ok (.getfield 360, 3) := by decide +kernel
theorem dX13_held_9 : decode cX13_held 9 = .ok (.if_icmp .ge 28, 3) := by decide +kernel
theorem dX13_held_12 : decode cX13_held 12 = .ok (.iload_n 1, 1) := by decide +kernel
theorem dX13_held_13 : decode cX13_held 13 = .ok (.aload_n 0, 1) := by decide +kernel
theorem dX13_held_14 : decode cX13_held 14 = .ok (.getfield 36, 3) := by decide +kernel
theorem dX13_held_17 : decode cX13_held 17 = .ok (.iload_n 2, 1) := by decide +kernel
theorem dX13_held_18 : decode cX13_held 18 = .ok (.iaload, 1) := by decide +kernel
theorem dX13_held_19 : decode cX13_held 19 = .ok (.ifCond .le 9, 3) := by decide +kernel
theorem dX13_held_22 : decode cX13_held 22 = .ok (.iconst 1, 1) := by decide +kernel
theorem dX13_held_23 : decode cX13_held 23 = .ok (.iload_n 2, 1) := by decide +kernel
theorem dX13_held_24 : decode cX13_held 24 = .ok (.ishl, 1) := by decide +kernel
theorem dX13_held_25 : decode cX13_held 25 = .ok (.goto 4, 3) := by decide +kernel
theorem dX13_held_28 : decode cX13_held 28 = .ok (.iconst 0, 1) := by decide +kernel
theorem dX13_held_29 : decode cX13_held 29 = .ok (.ior, 1) := by decide +kernel
theorem dX13_held_30 : decode cX13_held 30 = .ok (.istore_n 1, 1) := by decide +kernel
theorem dX13_held_31 : decode cX13_held 31 = .ok (.iinc 2 1, 3) := by decide +kernel
theorem dX13_held_34 : decode cX13_held 34 = .ok (.goto (-30), 3) := by decide +kernel
theorem dX13_held_37 : decode cX13_held 37 = .ok (.iload_n 1, 1) := by decide +kernel
theorem dX13_held_38 : decode cX13_held 38 = .ok (.ireturn, 1) := by decide +kernel
theorem dX13_together_0 : decode cX13_together 0 = .ok (.iconst 1, 1) := by decide +kernel
theorem dX13_together_1 : decode cX13_together 1 = .ok (.iload_n 1, 1) := by decide +kernel
theorem dX13_together_2 : decode cX13_together 2 = .ok (.ishl, 1) := by decide +kernel
theorem dX13_together_3 : decode cX13_together 3 = .ok (.istore_n 3, 1) := by decide +kernel
theorem dX13_together_4 : decode cX13_together 4 = .ok (.iconst 0, 1) := by decide +kernel
theorem dX13_together_5 : decode cX13_together 5 = .ok (.istore 4, 2) := by decide +kernel
theorem dX13_together_7 : decode cX13_together 7 = .ok (.iload 4, 2) := by decide +kernel
theorem dX13_together_9 : decode cX13_together 9 = .ok (.bipush 7, 2) := by decide +kernel
theorem dX13_together_11 : decode cX13_together 11 = .ok (.if_icmp .ge 78, 3) := by decide +kernel
theorem dX13_together_14 : decode cX13_together 14 = .ok (.iconst 0, 1) := by decide +kernel
theorem dX13_together_15 : decode cX13_together 15 = .ok (.istore 5, 2) := by decide +kernel
theorem dX13_together_17 : decode cX13_together 17 = .ok (.iload 5, 2) := by decide +kernel
theorem dX13_together_19 : decode cX13_together 19 = .ok (.aload_n 0, 1) := by decide +kernel
theorem dX13_together_20 : decode cX13_together 20 = .ok (.getfield 360, 3) := by decide +kernel
theorem dX13_together_23 : decode cX13_together 23 = .ok (.if_icmp .ge 60, 3) := by decide +kernel
theorem dX13_together_26 : decode cX13_together 26 = .ok (.aload_n 0, 1) := by decide +kernel
theorem dX13_together_27 : decode cX13_together 27 = .ok (.getfield 36, 3) := by decide +kernel
theorem dX13_together_30 : decode cX13_together 30 = .ok (.iload 5, 2) := by decide +kernel
theorem dX13_together_32 : decode cX13_together 32 = .ok (.iaload, 1) := by decide +kernel
theorem dX13_together_33 : decode cX13_together 33 = .ok (.ifCond .le 44, 3) := by decide +kernel
theorem dX13_together_36 : decode cX13_together 36 = .ok (.iload_n 2, 1) := by decide +kernel
theorem dX13_together_37 : decode cX13_together 37 = .ok (.iload 5, 2) := by decide +kernel
theorem dX13_together_39 : decode cX13_together 39 = .ok (.invokestatic 277, 3) := by decide +kernel
theorem dX13_together_42 : decode cX13_together 42 = .ok (.ifCond .ne 35, 3) := by decide +kernel
theorem dX13_together_45 : decode cX13_together 45 = .ok (.aload_n 0, 1) := by decide +kernel
theorem dX13_together_46 : decode cX13_together 46 = .ok (.iload_n 3, 1) := by decide +kernel
theorem dX13_together_47 : decode cX13_together 47 = .ok (.iload 5, 2) := by decide +kernel
theorem dX13_together_49 : decode cX13_together 49 = .ok (.invokevirtual 382, 3) := by decide +kernel
theorem dX13_together_52 : decode cX13_together 52 = .ok (.ifCond .eq 25, 3) := by decide +kernel
theorem dX13_together_55 : decode cX13_together 55 = .ok (.iload_n 3, 1) := by decide +kernel
theorem dX13_together_56 : decode cX13_together 56 = .ok (.iconst 1, 1) := by decide +kernel
theorem dX13_together_57 : decode cX13_together 57 = .ok (.aload_n 0, 1) := by decide +kernel
theorem dX13_together_58 : decode cX13_together 58 = .ok (.getfield 30, 3) := by decide +kernel
theorem dX13_together_61 : decode cX13_together 61 = .ok (.iload 5, 2) := by decide +kernel
theorem dX13_together_63 : decode cX13_together 63 = .ok (.iaload, 1) := by decide +kernel
theorem dX13_together_64 : decode cX13_together 64 = .ok (.ishl, 1) := by decide +kernel
theorem dX13_together_65 : decode cX13_together 65 = .ok (.iconst 1, 1) := by decide +kernel
theorem dX13_together_66 : decode cX13_together 66 = .ok (.aload_n 0, 1) := by decide +kernel
theorem dX13_together_67 : decode cX13_together 67 = .ok (.getfield 33, 3) := by decide +kernel
theorem dX13_together_70 : decode cX13_together 70 = .ok (.iload 5, 2) := by decide +kernel
theorem dX13_together_72 : decode cX13_together 72 = .ok (.iaload, 1) := by decide +kernel
theorem dX13_together_73 : decode cX13_together 73 = .ok (.ishl, 1) := by decide +kernel
theorem dX13_together_74 : decode cX13_together 74 = .ok (.ior, 1) := by decide +kernel
theorem dX13_together_75 : decode cX13_together 75 = .ok (.ior, 1) := by decide +kernel
theorem dX13_together_76 : decode cX13_together 76 = .ok (.istore_n 3, 1) := by decide +kernel
theorem dX13_together_77 : decode cX13_together 77 = .ok (.iinc 5 1, 3) := by decide +kernel
theorem dX13_together_80 : decode cX13_together 80 = .ok (.goto (-63), 3) := by decide +kernel
theorem dX13_together_83 : decode cX13_together 83 = .ok (.iinc 4 1, 3) := by decide +kernel
theorem dX13_together_86 : decode cX13_together 86 = .ok (.goto (-79), 3) := by decide +kernel
theorem dX13_together_89 : decode cX13_together 89 = .ok (.iload_n 3, 1) := by decide +kernel
theorem dX13_together_90 : decode cX13_together 90 = .ok (.ireturn, 1) := by decide +kernel
theorem dX13_partsBut_0 : decode cX13_partsBut 0 = .ok (.iconst 0, 1) := by decide +kernel
theorem dX13_partsBut_1 : decode cX13_partsBut 1 = .ok (.istore_n 2, 1) := by decide +kernel
theorem dX13_partsBut_2 : decode cX13_partsBut 2 = .ok (.iconst 0, 1) := by decide +kernel
theorem dX13_partsBut_3 : decode cX13_partsBut 3 = .ok (.istore_n 3, 1) := by decide +kernel
theorem dX13_partsBut_4 : decode cX13_partsBut 4 = .ok (.iconst 0, 1) := by decide +kernel
theorem dX13_partsBut_5 : decode cX13_partsBut 5 = .ok (.istore 4, 2) := by decide +kernel
theorem dX13_partsBut_7 : decode cX13_partsBut 7 = .ok (.iload 4, 2) := by decide +kernel
theorem dX13_partsBut_9 : decode cX13_partsBut 9 = .ok (.aload_n 0, 1) := by decide +kernel
theorem dX13_partsBut_10 : decode cX13_partsBut 10 = .ok (.getfield 343, 3) := by decide +kernel
theorem dX13_partsBut_13 : decode cX13_partsBut 13 = .ok (.getfield 194, 3) := by decide +kernel
theorem dX13_partsBut_16 : decode cX13_partsBut 16 = .ok (.if_icmp .ge 36, 3) := by decide +kernel
theorem dX13_partsBut_19 : decode cX13_partsBut 19 = .ok (.iload_n 2, 1) := by decide +kernel
theorem dX13_partsBut_20 : decode cX13_partsBut 20 = .ok (.iload_n 3, 1) := by decide +kernel
theorem dX13_partsBut_21 : decode cX13_partsBut 21 = .ok (.iload 4, 2) := by decide +kernel
theorem dX13_partsBut_23 : decode cX13_partsBut 23 = .ok (.invokestatic 277, 3) := by decide +kernel
theorem dX13_partsBut_26 : decode cX13_partsBut 26 = .ok (.ifCond .eq 7, 3) := by decide +kernel
theorem dX13_partsBut_29 : decode cX13_partsBut 29 = .ok (.iconst 0, 1) := by decide +kernel
theorem dX13_partsBut_30 : decode cX13_partsBut 30 = .ok (.goto 4, 3) := by decide +kernel
theorem dX13_partsBut_33 : decode cX13_partsBut 33 = .ok (.iconst 1, 1) := by decide +kernel
theorem dX13_partsBut_34 : decode cX13_partsBut 34 = .ok (.iadd, 1) := by decide +kernel
theorem dX13_partsBut_35 : decode cX13_partsBut 35 = .ok (.istore_n 2, 1) := by decide +kernel
theorem dX13_partsBut_36 : decode cX13_partsBut 36 = .ok (.iload_n 3, 1) := by decide +kernel
theorem dX13_partsBut_37 : decode cX13_partsBut 37 = .ok (.aload_n 0, 1) := by decide +kernel
theorem dX13_partsBut_38 : decode cX13_partsBut 38 = .ok (.iload 4, 2) := by decide +kernel
theorem dX13_partsBut_40 : decode cX13_partsBut 40 = .ok (.iload_n 1, 1) := by decide +kernel
theorem dX13_partsBut_41 : decode cX13_partsBut 41 = .ok (.invokevirtual 389, 3) := by decide +kernel
theorem dX13_partsBut_44 : decode cX13_partsBut 44 = .ok (.ior, 1) := by decide +kernel
theorem dX13_partsBut_45 : decode cX13_partsBut 45 = .ok (.istore_n 3, 1) := by decide +kernel
theorem dX13_partsBut_46 : decode cX13_partsBut 46 = .ok (.iinc 4 1, 3) := by decide +kernel
theorem dX13_partsBut_49 : decode cX13_partsBut 49 = .ok (.goto (-42), 3) := by decide +kernel
theorem dX13_partsBut_52 : decode cX13_partsBut 52 = .ok (.iload_n 2, 1) := by decide +kernel
theorem dX13_partsBut_53 : decode cX13_partsBut 53 = .ok (.ireturn, 1) := by decide +kernel
theorem dX13_refusesYears_0 : decode cX13_refusesYears 0 = .ok (.iload_n 1, 1) := by decide +kernel
theorem dX13_refusesYears_1 : decode cX13_refusesYears 1 = .ok (.ifCond .ne 7, 3) := by decide +kernel
theorem dX13_refusesYears_4 : decode cX13_refusesYears 4 = .ok (.iconst 1, 1) := by decide +kernel
theorem dX13_refusesYears_5 : decode cX13_refusesYears 5 = .ok (.goto 18, 3) := by decide +kernel
theorem dX13_refusesYears_8 : decode cX13_refusesYears 8 = .ok (.iload_n 2, 1) := by decide +kernel
theorem dX13_refusesYears_9 : decode cX13_refusesYears 9 = .ok (.iconst 0, 1) := by decide +kernel
theorem dX13_refusesYears_10 : decode cX13_refusesYears 10 = .ok (.bipush 60, 2) := by decide +kernel
theorem dX13_refusesYears_12 : decode cX13_refusesYears 12 = .ok (.invokestatic 121, 3) := by decide +kernel
theorem dX13_refusesYears_15 : decode cX13_refusesYears 15 = .ok (.ifCond .eq 7, 3) := by decide +kernel
theorem dX13_refusesYears_18 : decode cX13_refusesYears 18 = .ok (.iconst 0, 1) := by decide +kernel
theorem dX13_refusesYears_19 : decode cX13_refusesYears 19 = .ok (.goto 4, 3) := by decide +kernel
theorem dX13_refusesYears_22 : decode cX13_refusesYears 22 = .ok (.iconst 2, 1) := by decide +kernel
theorem dX13_refusesYears_23 : decode cX13_refusesYears 23 = .ok (.ireturn, 1) := by decide +kernel
theorem dX13_thread_0 : decode cX13_thread 0 = .ok (.aload_n 0, 1) := by decide +kernel
theorem dX13_thread_1 : decode cX13_thread 1 = .ok (.iconst 0, 1) := by decide +kernel
theorem dX13_thread_2 : decode cX13_thread 2 = .ok (.putfield 46, 3) := by decide +kernel
theorem dX13_thread_5 : decode cX13_thread 5 = .ok (.aload_n 0, 1) := by decide +kernel
theorem dX13_thread_6 : decode cX13_thread 6 = .ok (.iload_n 1, 1) := by decide +kernel
theorem dX13_thread_7 : decode cX13_thread 7 = .ok (.invokevirtual 392, 3) := by decide +kernel
theorem dX13_thread_10 : decode cX13_thread 10 = .ok (.ifCond .eq 13, 3) := by decide +kernel
theorem dX13_thread_13 : decode cX13_thread 13 = .ok (.iload_n 2, 1) := by decide +kernel
theorem dX13_thread_14 : decode cX13_thread 14 = .ok (.iconst 0, 1) := by decide +kernel
theorem dX13_thread_15 : decode cX13_thread 15 = .ok (.bipush 6, 2) := by decide +kernel
theorem dX13_thread_17 : decode cX13_thread 17 = .ok (.invokestatic 121, 3) := by decide +kernel
theorem dX13_thread_20 : decode cX13_thread 20 = .ok (.ifCond .ne 9, 3) := by decide +kernel
theorem dX13_thread_23 : decode cX13_thread 23 = .ok (.aload_n 0, 1) := by decide +kernel
theorem dX13_thread_24 : decode cX13_thread 24 = .ok (.iconst 1, 1) := by decide +kernel
theorem dX13_thread_25 : decode cX13_thread 25 = .ok (.invokevirtual 52, 3) := by decide +kernel
theorem dX13_thread_28 : decode cX13_thread 28 = .ok (.ireturn, 1) := by decide +kernel
theorem dX13_thread_29 : decode cX13_thread 29 = .ok (.aload_n 0, 1) := by decide +kernel
theorem dX13_thread_30 : decode cX13_thread 30 = .ok (.invokevirtual 376, 3) := by decide +kernel
theorem dX13_thread_33 : decode cX13_thread 33 = .ok (.iload_n 2, 1) := by decide +kernel
theorem dX13_thread_34 : decode cX13_thread 34 = .ok (.tableswitch 103 0 5 #[38, 48, 58, 68, 79, 89], 38) := by decide +kernel
theorem dX13_thread_72 : decode cX13_thread 72 = .ok (.aload_n 0, 1) := by decide +kernel
theorem dX13_thread_73 : decode cX13_thread 73 = .ok (.aload_n 0, 1) := by decide +kernel
theorem dX13_thread_74 : decode cX13_thread 74 = .ok (.iload_n 1, 1) := by decide +kernel
theorem dX13_thread_75 : decode cX13_thread 75 = .ok (.invokevirtual 357, 3) := by decide +kernel
theorem dX13_thread_78 : decode cX13_thread 78 = .ok (.invokevirtual 56, 3) := by decide +kernel
theorem dX13_thread_81 : decode cX13_thread 81 = .ok (.ireturn, 1) := by decide +kernel
theorem dX13_thread_82 : decode cX13_thread 82 = .ok (.aload_n 0, 1) := by decide +kernel
theorem dX13_thread_83 : decode cX13_thread 83 = .ok (.aload_n 0, 1) := by decide +kernel
theorem dX13_thread_84 : decode cX13_thread 84 = .ok (.iload_n 1, 1) := by decide +kernel
theorem dX13_thread_85 : decode cX13_thread 85 = .ok (.invokevirtual 363, 3) := by decide +kernel
theorem dX13_thread_88 : decode cX13_thread 88 = .ok (.invokevirtual 56, 3) := by decide +kernel
theorem dX13_thread_91 : decode cX13_thread 91 = .ok (.ireturn, 1) := by decide +kernel
theorem dX13_thread_92 : decode cX13_thread 92 = .ok (.aload_n 0, 1) := by decide +kernel
theorem dX13_thread_93 : decode cX13_thread 93 = .ok (.aload_n 0, 1) := by decide +kernel
theorem dX13_thread_94 : decode cX13_thread 94 = .ok (.iload_n 1, 1) := by decide +kernel
theorem dX13_thread_95 : decode cX13_thread 95 = .ok (.invokevirtual 366, 3) := by decide +kernel
theorem dX13_thread_98 : decode cX13_thread 98 = .ok (.invokevirtual 56, 3) := by decide +kernel
theorem dX13_thread_101 : decode cX13_thread 101 = .ok (.ireturn, 1) := by decide +kernel
theorem dX13_thread_102 : decode cX13_thread 102 = .ok (.aload_n 0, 1) := by decide +kernel
theorem dX13_thread_103 : decode cX13_thread 103 = .ok (.aload_n 0, 1) := by decide +kernel
theorem dX13_thread_104 : decode cX13_thread 104 = .ok (.iload_n 1, 1) := by decide +kernel
theorem dX13_thread_105 : decode cX13_thread 105 = .ok (.iconst 0, 1) := by decide +kernel
theorem dX13_thread_106 : decode cX13_thread 106 = .ok (.invokevirtual 369, 3) := by decide +kernel
theorem dX13_thread_109 : decode cX13_thread 109 = .ok (.invokevirtual 56, 3) := by decide +kernel
theorem dX13_thread_112 : decode cX13_thread 112 = .ok (.ireturn, 1) := by decide +kernel
theorem dX13_thread_113 : decode cX13_thread 113 = .ok (.aload_n 0, 1) := by decide +kernel
theorem dX13_thread_114 : decode cX13_thread 114 = .ok (.aload_n 0, 1) := by decide +kernel
theorem dX13_thread_115 : decode cX13_thread 115 = .ok (.iload_n 1, 1) := by decide +kernel
theorem dX13_thread_116 : decode cX13_thread 116 = .ok (.invokevirtual 354, 3) := by decide +kernel
theorem dX13_thread_119 : decode cX13_thread 119 = .ok (.invokevirtual 56, 3) := by decide +kernel
theorem dX13_thread_122 : decode cX13_thread 122 = .ok (.ireturn, 1) := by decide +kernel
theorem dX13_thread_123 : decode cX13_thread 123 = .ok (.aload_n 0, 1) := by decide +kernel
theorem dX13_thread_124 : decode cX13_thread 124 = .ok (.aload_n 0, 1) := by decide +kernel
theorem dX13_thread_125 : decode cX13_thread 125 = .ok (.getfield 17, 3) := by decide +kernel
theorem dX13_thread_128 : decode cX13_thread 128 = .ok (.bipush 16, 2) := by decide +kernel
theorem dX13_thread_130 : decode cX13_thread 130 = .ok (.iload_n 1, 1) := by decide +kernel
theorem dX13_thread_131 : decode cX13_thread 131 = .ok (.iadd, 1) := by decide +kernel
theorem dX13_thread_132 : decode cX13_thread 132 = .ok (.iaload, 1) := by decide +kernel
theorem dX13_thread_133 : decode cX13_thread 133 = .ok (.invokevirtual 56, 3) := by decide +kernel
theorem dX13_thread_136 : decode cX13_thread 136 = .ok (.ireturn, 1) := by decide +kernel
theorem dX13_thread_137 : decode cX13_thread 137 = .ok (.aload_n 0, 1) := by decide +kernel
theorem dX13_thread_138 : decode cX13_thread 138 = .ok (.aload_n 0, 1) := by decide +kernel
theorem dX13_thread_139 : decode cX13_thread 139 = .ok (.iload_n 1, 1) := by decide +kernel
theorem dX13_thread_140 : decode cX13_thread 140 = .ok (.invokevirtual 395, 3) := by decide +kernel
theorem dX13_thread_143 : decode cX13_thread 143 = .ok (.invokevirtual 56, 3) := by decide +kernel
theorem dX13_thread_146 : decode cX13_thread 146 = .ok (.ireturn, 1) := by decide +kernel
theorem dX13_nail_0 : decode cX13_nail 0 = .ok (.aload_n 0, 1) := by decide +kernel
theorem dX13_nail_1 : decode cX13_nail 1 = .ok (.iconst 0, 1) := by decide +kernel
theorem dX13_nail_2 : decode cX13_nail 2 = .ok (.putfield 46, 3) := by decide +kernel
theorem dX13_nail_5 : decode cX13_nail 5 = .ok (.aload_n 0, 1) := by decide +kernel
theorem dX13_nail_6 : decode cX13_nail 6 = .ok (.iload_n 1, 1) := by decide +kernel
theorem dX13_nail_7 : decode cX13_nail 7 = .ok (.invokevirtual 351, 3) := by decide +kernel
theorem dX13_nail_10 : decode cX13_nail 10 = .ok (.ifCond .eq 12, 3) := by decide +kernel
theorem dX13_nail_13 : decode cX13_nail 13 = .ok (.iload_n 2, 1) := by decide +kernel
theorem dX13_nail_14 : decode cX13_nail 14 = .ok (.iconst 0, 1) := by decide +kernel
theorem dX13_nail_15 : decode cX13_nail 15 = .ok (.iconst 1, 1) := by decide +kernel
theorem dX13_nail_16 : decode cX13_nail 16 = .ok (.invokestatic 121, 3) := by decide +kernel
theorem dX13_nail_19 : decode cX13_nail 19 = .ok (.ifCond .ne 9, 3) := by decide +kernel
theorem dX13_nail_22 : decode cX13_nail 22 = .ok (.aload_n 0, 1) := by decide +kernel
theorem dX13_nail_23 : decode cX13_nail 23 = .ok (.iconst 1, 1) := by decide +kernel
theorem dX13_nail_24 : decode cX13_nail 24 = .ok (.invokevirtual 52, 3) := by decide +kernel
theorem dX13_nail_27 : decode cX13_nail 27 = .ok (.ireturn, 1) := by decide +kernel
theorem dX13_nail_28 : decode cX13_nail 28 = .ok (.aload_n 0, 1) := by decide +kernel
theorem dX13_nail_29 : decode cX13_nail 29 = .ok (.iconst 0, 1) := by decide +kernel
theorem dX13_nail_30 : decode cX13_nail 30 = .ok (.invokevirtual 398, 3) := by decide +kernel
theorem dX13_nail_33 : decode cX13_nail 33 = .ok (.iconst 0, 1) := by decide +kernel
theorem dX13_nail_34 : decode cX13_nail 34 = .ok (.istore_n 3, 1) := by decide +kernel
theorem dX13_nail_35 : decode cX13_nail 35 = .ok (.iconst 0, 1) := by decide +kernel
theorem dX13_nail_36 : decode cX13_nail 36 = .ok (.istore 4, 2) := by decide +kernel
theorem dX13_nail_38 : decode cX13_nail 38 = .ok (.iconst 0, 1) := by decide +kernel
theorem dX13_nail_39 : decode cX13_nail 39 = .ok (.istore 5, 2) := by decide +kernel
theorem dX13_nail_41 : decode cX13_nail 41 = .ok (.iload 5, 2) := by decide +kernel
theorem dX13_nail_43 : decode cX13_nail 43 = .ok (.aload_n 0, 1) := by decide +kernel
theorem dX13_nail_44 : decode cX13_nail 44 = .ok (.getfield 360, 3) := by decide +kernel
theorem dX13_nail_47 : decode cX13_nail 47 = .ok (.if_icmp .ge 63, 3) := by decide +kernel
theorem dX13_nail_50 : decode cX13_nail 50 = .ok (.aload_n 0, 1) := by decide +kernel
theorem dX13_nail_51 : decode cX13_nail 51 = .ok (.getfield 30, 3) := by decide +kernel
theorem dX13_nail_54 : decode cX13_nail 54 = .ok (.iload 5, 2) := by decide +kernel
theorem dX13_nail_56 : decode cX13_nail 56 = .ok (.iaload, 1) := by decide +kernel
theorem dX13_nail_57 : decode cX13_nail 57 = .ok (.iload_n 1, 1) := by decide +kernel
theorem dX13_nail_58 : decode cX13_nail 58 = .ok (.if_icmp .eq 14, 3) := by decide +kernel
theorem dX13_nail_61 : decode cX13_nail 61 = .ok (.aload_n 0, 1) := by decide +kernel
theorem dX13_nail_62 : decode cX13_nail 62 = .ok (.getfield 33, 3) := by decide +kernel
theorem dX13_nail_65 : decode cX13_nail 65 = .ok (.iload 5, 2) := by decide +kernel
theorem dX13_nail_67 : decode cX13_nail 67 = .ok (.iaload, 1) := by decide +kernel
theorem dX13_nail_68 : decode cX13_nail 68 = .ok (.iload_n 1, 1) := by decide +kernel
theorem dX13_nail_69 : decode cX13_nail 69 = .ok (.if_icmp .ne 35, 3) := by decide +kernel
theorem dX13_nail_72 : decode cX13_nail 72 = .ok (.aload_n 0, 1) := by decide +kernel
theorem dX13_nail_73 : decode cX13_nail 73 = .ok (.getfield 36, 3) := by decide +kernel
theorem dX13_nail_76 : decode cX13_nail 76 = .ok (.iload 5, 2) := by decide +kernel
theorem dX13_nail_78 : decode cX13_nail 78 = .ok (.iaload, 1) := by decide +kernel
theorem dX13_nail_79 : decode cX13_nail 79 = .ok (.ifCond .ne 6, 3) := by decide +kernel
theorem dX13_nail_82 : decode cX13_nail 82 = .ok (.goto 22, 3) := by decide +kernel
theorem dX13_nail_85 : decode cX13_nail 85 = .ok (.iload_n 3, 1) := by decide +kernel
theorem dX13_nail_86 : decode cX13_nail 86 = .ok (.iconst 1, 1) := by decide +kernel
theorem dX13_nail_87 : decode cX13_nail 87 = .ok (.iload 5, 2) := by decide +kernel
theorem dX13_nail_89 : decode cX13_nail 89 = .ok (.ishl, 1) := by decide +kernel
theorem dX13_nail_90 : decode cX13_nail 90 = .ok (.ior, 1) := by decide +kernel
theorem dX13_nail_91 : decode cX13_nail 91 = .ok (.istore_n 3, 1) := by decide +kernel
theorem dX13_nail_92 : decode cX13_nail 92 = .ok (.iload 4, 2) := by decide +kernel
theorem dX13_nail_94 : decode cX13_nail 94 = .ok (.aload_n 0, 1) := by decide +kernel
theorem dX13_nail_95 : decode cX13_nail 95 = .ok (.getfield 36, 3) := by decide +kernel
theorem dX13_nail_98 : decode cX13_nail 98 = .ok (.iload 5, 2) := by decide +kernel
theorem dX13_nail_100 : decode cX13_nail 100 = .ok (.iaload, 1) := by decide +kernel
theorem dX13_nail_101 : decode cX13_nail 101 = .ok (.iadd, 1) := by decide +kernel
theorem dX13_nail_102 : decode cX13_nail 102 = .ok (.istore 4, 2) := by decide +kernel
theorem dX13_nail_104 : decode cX13_nail 104 = .ok (.iinc 5 1, 3) := by decide +kernel
theorem dX13_nail_107 : decode cX13_nail 107 = .ok (.goto (-66), 3) := by decide +kernel
theorem dX13_nail_110 : decode cX13_nail 110 = .ok (.aload_n 0, 1) := by decide +kernel
theorem dX13_nail_111 : decode cX13_nail 111 = .ok (.iload_n 2, 1) := by decide +kernel
theorem dX13_nail_112 : decode cX13_nail 112 = .ok (.ifCond .ne 7, 3) := by decide +kernel
theorem dX13_nail_115 : decode cX13_nail 115 = .ok (.iload_n 3, 1) := by decide +kernel
theorem dX13_nail_116 : decode cX13_nail 116 = .ok (.goto 5, 3) := by decide +kernel
theorem dX13_nail_119 : decode cX13_nail 119 = .ok (.iload 4, 2) := by decide +kernel
theorem dX13_nail_121 : decode cX13_nail 121 = .ok (.invokevirtual 56, 3) := by decide +kernel
theorem dX13_nail_124 : decode cX13_nail 124 = .ok (.ireturn, 1) := by decide +kernel
theorem dX13_strong_0 : decode cX13_strong 0 = .ok (.aload_n 0, 1) := by decide +kernel
theorem dX13_strong_1 : decode cX13_strong 1 = .ok (.iconst 0, 1) := by decide +kernel
theorem dX13_strong_2 : decode cX13_strong 2 = .ok (.putfield 46, 3) := by decide +kernel
theorem dX13_strong_5 : decode cX13_strong 5 = .ok (.aload_n 0, 1) := by decide +kernel
theorem dX13_strong_6 : decode cX13_strong 6 = .ok (.aload_n 0, 1) := by decide +kernel
theorem dX13_strong_7 : decode cX13_strong 7 = .ok (.iload_n 1, 1) := by decide +kernel
theorem dX13_strong_8 : decode cX13_strong 8 = .ok (.invokevirtual 392, 3) := by decide +kernel
theorem dX13_strong_11 : decode cX13_strong 11 = .ok (.iload_n 2, 1) := by decide +kernel
theorem dX13_strong_12 : decode cX13_strong 12 = .ok (.invokevirtual 401, 3) := by decide +kernel
theorem dX13_strong_15 : decode cX13_strong 15 = .ok (.istore_n 3, 1) := by decide +kernel
theorem dX13_strong_16 : decode cX13_strong 16 = .ok (.iload_n 3, 1) := by decide +kernel
theorem dX13_strong_17 : decode cX13_strong 17 = .ok (.ifCond .le 9, 3) := by decide +kernel
theorem dX13_strong_20 : decode cX13_strong 20 = .ok (.aload_n 0, 1) := by decide +kernel
theorem dX13_strong_21 : decode cX13_strong 21 = .ok (.iload_n 3, 1) := by decide +kernel
theorem dX13_strong_22 : decode cX13_strong 22 = .ok (.invokevirtual 52, 3) := by decide +kernel
theorem dX13_strong_25 : decode cX13_strong 25 = .ok (.ireturn, 1) := by decide +kernel
theorem dX13_strong_26 : decode cX13_strong 26 = .ok (.aload_n 0, 1) := by decide +kernel
theorem dX13_strong_27 : decode cX13_strong 27 = .ok (.invokevirtual 376, 3) := by decide +kernel
theorem dX13_strong_30 : decode cX13_strong 30 = .ok (.aload_n 0, 1) := by decide +kernel
theorem dX13_strong_31 : decode cX13_strong 31 = .ok (.aload_n 0, 1) := by decide +kernel
theorem dX13_strong_32 : decode cX13_strong 32 = .ok (.iload_n 1, 1) := by decide +kernel
theorem dX13_strong_33 : decode cX13_strong 33 = .ok (.iload_n 2, 1) := by decide +kernel
theorem dX13_strong_34 : decode cX13_strong 34 = .ok (.invokevirtual 369, 3) := by decide +kernel
theorem dX13_strong_37 : decode cX13_strong 37 = .ok (.invokevirtual 56, 3) := by decide +kernel
theorem dX13_strong_40 : decode cX13_strong 40 = .ok (.ireturn, 1) := by decide +kernel
theorem dX13_breaksIn_0 : decode cX13_breaksIn 0 = .ok (.aload_n 0, 1) := by decide +kernel
theorem dX13_breaksIn_1 : decode cX13_breaksIn 1 = .ok (.iconst 0, 1) := by decide +kernel
theorem dX13_breaksIn_2 : decode cX13_breaksIn 2 = .ok (.putfield 46, 3) := by decide +kernel
theorem dX13_breaksIn_5 : decode cX13_breaksIn 5 = .ok (.aload_n 0, 1) := by decide +kernel
theorem dX13_breaksIn_6 : decode cX13_breaksIn 6 = .ok (.iload_n 1, 1) := by decide +kernel
theorem dX13_breaksIn_7 : decode cX13_breaksIn 7 = .ok (.invokevirtual 392, 3) := by decide +kernel
theorem dX13_breaksIn_10 : decode cX13_breaksIn 10 = .ok (.ifCond .ne 9, 3) := by decide +kernel
theorem dX13_breaksIn_13 : decode cX13_breaksIn 13 = .ok (.aload_n 0, 1) := by decide +kernel
theorem dX13_breaksIn_14 : decode cX13_breaksIn 14 = .ok (.iconst 1, 1) := by decide +kernel
theorem dX13_breaksIn_15 : decode cX13_breaksIn 15 = .ok (.invokevirtual 52, 3) := by decide +kernel
theorem dX13_breaksIn_18 : decode cX13_breaksIn 18 = .ok (.ireturn, 1) := by decide +kernel
theorem dX13_breaksIn_19 : decode cX13_breaksIn 19 = .ok (.aload_n 0, 1) := by decide +kernel
theorem dX13_breaksIn_20 : decode cX13_breaksIn 20 = .ok (.invokevirtual 376, 3) := by decide +kernel
theorem dX13_breaksIn_23 : decode cX13_breaksIn 23 = .ok (.iconst 0, 1) := by decide +kernel
theorem dX13_breaksIn_24 : decode cX13_breaksIn 24 = .ok (.istore_n 2, 1) := by decide +kernel
theorem dX13_breaksIn_25 : decode cX13_breaksIn 25 = .ok (.iload_n 2, 1) := by decide +kernel
theorem dX13_breaksIn_26 : decode cX13_breaksIn 26 = .ok (.bipush 60, 2) := by decide +kernel
theorem dX13_breaksIn_28 : decode cX13_breaksIn 28 = .ok (.if_icmp .gt 24, 3) := by decide +kernel
theorem dX13_breaksIn_31 : decode cX13_breaksIn 31 = .ok (.aload_n 0, 1) := by decide +kernel
theorem dX13_breaksIn_32 : decode cX13_breaksIn 32 = .ok (.iload_n 1, 1) := by decide +kernel
theorem dX13_breaksIn_33 : decode cX13_breaksIn 33 = .ok (.iload_n 2, 1) := by decide +kernel
theorem dX13_breaksIn_34 : decode cX13_breaksIn 34 = .ok (.invokevirtual 369, 3) := by decide +kernel
theorem dX13_breaksIn_37 : decode cX13_breaksIn 37 = .ok (.ifCond .ne 9, 3) := by decide +kernel
theorem dX13_breaksIn_40 : decode cX13_breaksIn 40 = .ok (.aload_n 0, 1) := by decide +kernel
theorem dX13_breaksIn_41 : decode cX13_breaksIn 41 = .ok (.iload_n 2, 1) := by decide +kernel
theorem dX13_breaksIn_42 : decode cX13_breaksIn 42 = .ok (.invokevirtual 56, 3) := by decide +kernel
theorem dX13_breaksIn_45 : decode cX13_breaksIn 45 = .ok (.ireturn, 1) := by decide +kernel
theorem dX13_breaksIn_46 : decode cX13_breaksIn 46 = .ok (.iinc 2 1, 3) := by decide +kernel
theorem dX13_breaksIn_49 : decode cX13_breaksIn 49 = .ok (.goto (-24), 3) := by decide +kernel
theorem dX13_breaksIn_52 : decode cX13_breaksIn 52 = .ok (.aload_n 0, 1) := by decide +kernel
theorem dX13_breaksIn_53 : decode cX13_breaksIn 53 = .ok (.bipush (-2), 2) := by decide +kernel
theorem dX13_breaksIn_55 : decode cX13_breaksIn 55 = .ok (.invokevirtual 56, 3) := by decide +kernel
theorem dX13_breaksIn_58 : decode cX13_breaksIn 58 = .ok (.ireturn, 1) := by decide +kernel
theorem dX13_holding_0 : decode cX13_holding 0 = .ok (.aload_n 0, 1) := by decide +kernel
theorem dX13_holding_1 : decode cX13_holding 1 = .ok (.iconst 0, 1) := by decide +kernel
theorem dX13_holding_2 : decode cX13_holding 2 = .ok (.putfield 46, 3) := by decide +kernel
theorem dX13_holding_5 : decode cX13_holding 5 = .ok (.aload_n 0, 1) := by decide +kernel
theorem dX13_holding_6 : decode cX13_holding 6 = .ok (.aload_n 0, 1) := by decide +kernel
theorem dX13_holding_7 : decode cX13_holding 7 = .ok (.getfield 343, 3) := by decide +kernel
theorem dX13_holding_10 : decode cX13_holding 10 = .ok (.ifnull 7, 3) := by decide +kernel
theorem dX13_holding_13 : decode cX13_holding 13 = .ok (.iconst 1, 1) := by decide +kernel
theorem dX13_holding_14 : decode cX13_holding 14 = .ok (.goto 4, 3) := by decide +kernel
theorem dX13_holding_17 : decode cX13_holding 17 = .ok (.iconst 0, 1) := by decide +kernel
theorem dX13_holding_18 : decode cX13_holding 18 = .ok (.iload_n 1, 1) := by decide +kernel
theorem dX13_holding_19 : decode cX13_holding 19 = .ok (.invokevirtual 401, 3) := by decide +kernel
theorem dX13_holding_22 : decode cX13_holding 22 = .ok (.istore_n 2, 1) := by decide +kernel
theorem dX13_holding_23 : decode cX13_holding 23 = .ok (.iload_n 2, 1) := by decide +kernel
theorem dX13_holding_24 : decode cX13_holding 24 = .ok (.ifCond .le 9, 3) := by decide +kernel
theorem dX13_holding_27 : decode cX13_holding 27 = .ok (.aload_n 0, 1) := by decide +kernel
theorem dX13_holding_28 : decode cX13_holding 28 = .ok (.iload_n 2, 1) := by decide +kernel
theorem dX13_holding_29 : decode cX13_holding 29 = .ok (.invokevirtual 52, 3) := by decide +kernel
theorem dX13_holding_32 : decode cX13_holding 32 = .ok (.ireturn, 1) := by decide +kernel
theorem dX13_holding_33 : decode cX13_holding 33 = .ok (.aload_n 0, 1) := by decide +kernel
theorem dX13_holding_34 : decode cX13_holding 34 = .ok (.iload_n 1, 1) := by decide +kernel
theorem dX13_holding_35 : decode cX13_holding 35 = .ok (.invokevirtual 398, 3) := by decide +kernel
theorem dX13_holding_38 : decode cX13_holding 38 = .ok (.aload_n 0, 1) := by decide +kernel
theorem dX13_holding_39 : decode cX13_holding 39 = .ok (.aload_n 0, 1) := by decide +kernel
theorem dX13_holding_40 : decode cX13_holding 40 = .ok (.invokevirtual 405, 3) := by decide +kernel
theorem dX13_holding_43 : decode cX13_holding 43 = .ok (.invokevirtual 56, 3) := by decide +kernel
theorem dX13_holding_46 : decode cX13_holding 46 = .ok (.ireturn, 1) := by decide +kernel
theorem dX13_strongest_0 : decode cX13_strongest 0 = .ok (.aload_n 0, 1) := by decide +kernel
theorem dX13_strongest_1 : decode cX13_strongest 1 = .ok (.iconst 0, 1) := by decide +kernel
theorem dX13_strongest_2 : decode cX13_strongest 2 = .ok (.putfield 46, 3) := by decide +kernel
theorem dX13_strongest_5 : decode cX13_strongest 5 = .ok (.aload_n 0, 1) := by decide +kernel
theorem dX13_strongest_6 : decode cX13_strongest 6 = .ok (.aload_n 0, 1) := by decide +kernel
theorem dX13_strongest_7 : decode cX13_strongest 7 = .ok (.getfield 343, 3) := by decide +kernel
theorem dX13_strongest_10 : decode cX13_strongest 10 = .ok (.ifnull 7, 3) := by decide +kernel
theorem dX13_strongest_13 : decode cX13_strongest 13 = .ok (.iconst 1, 1) := by decide +kernel
theorem dX13_strongest_14 : decode cX13_strongest 14 = .ok (.goto 4, 3) := by decide +kernel
theorem dX13_strongest_17 : decode cX13_strongest 17 = .ok (.iconst 0, 1) := by decide +kernel
theorem dX13_strongest_18 : decode cX13_strongest 18 = .ok (.iload_n 1, 1) := by decide +kernel
theorem dX13_strongest_19 : decode cX13_strongest 19 = .ok (.invokevirtual 401, 3) := by decide +kernel
theorem dX13_strongest_22 : decode cX13_strongest 22 = .ok (.istore_n 2, 1) := by decide +kernel
theorem dX13_strongest_23 : decode cX13_strongest 23 = .ok (.iload_n 2, 1) := by decide +kernel
theorem dX13_strongest_24 : decode cX13_strongest 24 = .ok (.ifCond .le 9, 3) := by decide +kernel
theorem dX13_strongest_27 : decode cX13_strongest 27 = .ok (.aload_n 0, 1) := by decide +kernel
theorem dX13_strongest_28 : decode cX13_strongest 28 = .ok (.iload_n 2, 1) := by decide +kernel
theorem dX13_strongest_29 : decode cX13_strongest 29 = .ok (.invokevirtual 52, 3) := by decide +kernel
theorem dX13_strongest_32 : decode cX13_strongest 32 = .ok (.ireturn, 1) := by decide +kernel
theorem dX13_strongest_33 : decode cX13_strongest 33 = .ok (.aload_n 0, 1) := by decide +kernel
theorem dX13_strongest_34 : decode cX13_strongest 34 = .ok (.iload_n 1, 1) := by decide +kernel
theorem dX13_strongest_35 : decode cX13_strongest 35 = .ok (.invokevirtual 398, 3) := by decide +kernel
theorem dX13_strongest_38 : decode cX13_strongest 38 = .ok (.bipush (-2), 2) := by decide +kernel
theorem dX13_strongest_40 : decode cX13_strongest 40 = .ok (.istore_n 3, 1) := by decide +kernel
theorem dX13_strongest_41 : decode cX13_strongest 41 = .ok (.iconst 0, 1) := by decide +kernel
theorem dX13_strongest_42 : decode cX13_strongest 42 = .ok (.istore 4, 2) := by decide +kernel
theorem dX13_strongest_44 : decode cX13_strongest 44 = .ok (.iconst 0, 1) := by decide +kernel
theorem dX13_strongest_45 : decode cX13_strongest 45 = .ok (.istore 5, 2) := by decide +kernel
theorem dX13_strongest_47 : decode cX13_strongest 47 = .ok (.iload 5, 2) := by decide +kernel
theorem dX13_strongest_49 : decode cX13_strongest 49 = .ok (.aload_n 0, 1) := by decide +kernel
theorem dX13_strongest_50 : decode cX13_strongest 50 = .ok (.getfield 360, 3) := by decide +kernel
theorem dX13_strongest_53 : decode cX13_strongest 53 = .ok (.if_icmp .ge 36, 3) := by decide +kernel
theorem dX13_strongest_56 : decode cX13_strongest 56 = .ok (.aload_n 0, 1) := by decide +kernel
theorem dX13_strongest_57 : decode cX13_strongest 57 = .ok (.getfield 36, 3) := by decide +kernel
theorem dX13_strongest_60 : decode cX13_strongest 60 = .ok (.iload 5, 2) := by decide +kernel
theorem dX13_strongest_62 : decode cX13_strongest 62 = .ok (.iaload, 1) := by decide +kernel
theorem dX13_strongest_63 : decode cX13_strongest 63 = .ok (.iload 4, 2) := by decide +kernel
theorem dX13_strongest_65 : decode cX13_strongest 65 = .ok (.if_icmp .gt 6, 3) := by decide +kernel
theorem dX13_strongest_68 : decode cX13_strongest 68 = .ok (.goto 15, 3) := by decide +kernel
theorem dX13_strongest_71 : decode cX13_strongest 71 = .ok (.aload_n 0, 1) := by decide +kernel
theorem dX13_strongest_72 : decode cX13_strongest 72 = .ok (.getfield 36, 3) := by decide +kernel
theorem dX13_strongest_75 : decode cX13_strongest 75 = .ok (.iload 5, 2) := by decide +kernel
theorem dX13_strongest_77 : decode cX13_strongest 77 = .ok (.iaload, 1) := by decide +kernel
theorem dX13_strongest_78 : decode cX13_strongest 78 = .ok (.istore 4, 2) := by decide +kernel
theorem dX13_strongest_80 : decode cX13_strongest 80 = .ok (.iload 5, 2) := by decide +kernel
theorem dX13_strongest_82 : decode cX13_strongest 82 = .ok (.istore_n 3, 1) := by decide +kernel
theorem dX13_strongest_83 : decode cX13_strongest 83 = .ok (.iinc 5 1, 3) := by decide +kernel
theorem dX13_strongest_86 : decode cX13_strongest 86 = .ok (.goto (-39), 3) := by decide +kernel
theorem dX13_strongest_89 : decode cX13_strongest 89 = .ok (.aload_n 0, 1) := by decide +kernel
theorem dX13_strongest_90 : decode cX13_strongest 90 = .ok (.iload_n 3, 1) := by decide +kernel
theorem dX13_strongest_91 : decode cX13_strongest 91 = .ok (.invokevirtual 56, 3) := by decide +kernel
theorem dX13_strongest_94 : decode cX13_strongest 94 = .ok (.ireturn, 1) := by decide +kernel
theorem dX13_bears_0 : decode cX13_bears 0 = .ok (.aload_n 0, 1) := by decide +kernel
theorem dX13_bears_1 : decode cX13_bears 1 = .ok (.iconst 0, 1) := by decide +kernel
theorem dX13_bears_2 : decode cX13_bears 2 = .ok (.putfield 46, 3) := by decide +kernel
theorem dX13_bears_5 : decode cX13_bears 5 = .ok (.aload_n 0, 1) := by decide +kernel
theorem dX13_bears_6 : decode cX13_bears 6 = .ok (.aload_n 0, 1) := by decide +kernel
theorem dX13_bears_7 : decode cX13_bears 7 = .ok (.iload_n 1, 1) := by decide +kernel
theorem dX13_bears_8 : decode cX13_bears 8 = .ok (.iload_n 2, 1) := by decide +kernel
theorem dX13_bears_9 : decode cX13_bears 9 = .ok (.invokevirtual 408, 3) := by decide +kernel
theorem dX13_bears_12 : decode cX13_bears 12 = .ok (.iload_n 3, 1) := by decide +kernel
theorem dX13_bears_13 : decode cX13_bears 13 = .ok (.invokevirtual 401, 3) := by decide +kernel
theorem dX13_bears_16 : decode cX13_bears 16 = .ok (.istore 4, 2) := by decide +kernel
theorem dX13_bears_18 : decode cX13_bears 18 = .ok (.iload 4, 2) := by decide +kernel
theorem dX13_bears_20 : decode cX13_bears 20 = .ok (.ifCond .le 10, 3) := by decide +kernel
theorem dX13_bears_23 : decode cX13_bears 23 = .ok (.aload_n 0, 1) := by decide +kernel
theorem dX13_bears_24 : decode cX13_bears 24 = .ok (.iload 4, 2) := by decide +kernel
theorem dX13_bears_26 : decode cX13_bears 26 = .ok (.invokevirtual 52, 3) := by decide +kernel
theorem dX13_bears_29 : decode cX13_bears 29 = .ok (.ireturn, 1) := by decide +kernel
theorem dX13_bears_30 : decode cX13_bears 30 = .ok (.aload_n 0, 1) := by decide +kernel
theorem dX13_bears_31 : decode cX13_bears 31 = .ok (.iload_n 3, 1) := by decide +kernel
theorem dX13_bears_32 : decode cX13_bears 32 = .ok (.invokevirtual 398, 3) := by decide +kernel
theorem dX13_bears_35 : decode cX13_bears 35 = .ok (.aload_n 0, 1) := by decide +kernel
theorem dX13_bears_36 : decode cX13_bears 36 = .ok (.aload_n 0, 1) := by decide +kernel
theorem dX13_bears_37 : decode cX13_bears 37 = .ok (.iload_n 1, 1) := by decide +kernel
theorem dX13_bears_38 : decode cX13_bears 38 = .ok (.iload_n 2, 1) := by decide +kernel
theorem dX13_bears_39 : decode cX13_bears 39 = .ok (.iconst 0, 1) := by decide +kernel
theorem dX13_bears_40 : decode cX13_bears 40 = .ok (.invokevirtual 411, 3) := by decide +kernel
theorem dX13_bears_43 : decode cX13_bears 43 = .ok (.invokevirtual 56, 3) := by decide +kernel
theorem dX13_bears_46 : decode cX13_bears 46 = .ok (.ireturn, 1) := by decide +kernel
theorem dX13_cut_0 : decode cX13_cut 0 = .ok (.aload_n 0, 1) := by decide +kernel
theorem dX13_cut_1 : decode cX13_cut 1 = .ok (.iconst 0, 1) := by decide +kernel
theorem dX13_cut_2 : decode cX13_cut 2 = .ok (.putfield 46, 3) := by decide +kernel
theorem dX13_cut_5 : decode cX13_cut 5 = .ok (.aload_n 0, 1) := by decide +kernel
theorem dX13_cut_6 : decode cX13_cut 6 = .ok (.aload_n 0, 1) := by decide +kernel
theorem dX13_cut_7 : decode cX13_cut 7 = .ok (.iload_n 1, 1) := by decide +kernel
theorem dX13_cut_8 : decode cX13_cut 8 = .ok (.iload_n 2, 1) := by decide +kernel
theorem dX13_cut_9 : decode cX13_cut 9 = .ok (.invokevirtual 408, 3) := by decide +kernel
theorem dX13_cut_12 : decode cX13_cut 12 = .ok (.iload_n 3, 1) := by decide +kernel
theorem dX13_cut_13 : decode cX13_cut 13 = .ok (.invokevirtual 401, 3) := by decide +kernel
theorem dX13_cut_16 : decode cX13_cut 16 = .ok (.istore 4, 2) := by decide +kernel
theorem dX13_cut_18 : decode cX13_cut 18 = .ok (.iload 4, 2) := by decide +kernel
theorem dX13_cut_20 : decode cX13_cut 20 = .ok (.ifCond .le 10, 3) := by decide +kernel
theorem dX13_cut_23 : decode cX13_cut 23 = .ok (.aload_n 0, 1) := by decide +kernel
theorem dX13_cut_24 : decode cX13_cut 24 = .ok (.iload 4, 2) := by decide +kernel
theorem dX13_cut_26 : decode cX13_cut 26 = .ok (.invokevirtual 52, 3) := by decide +kernel
theorem dX13_cut_29 : decode cX13_cut 29 = .ok (.ireturn, 1) := by decide +kernel
theorem dX13_cut_30 : decode cX13_cut 30 = .ok (.aload_n 0, 1) := by decide +kernel
theorem dX13_cut_31 : decode cX13_cut 31 = .ok (.iload_n 3, 1) := by decide +kernel
theorem dX13_cut_32 : decode cX13_cut 32 = .ok (.invokevirtual 398, 3) := by decide +kernel
theorem dX13_cut_35 : decode cX13_cut 35 = .ok (.aload_n 0, 1) := by decide +kernel
theorem dX13_cut_36 : decode cX13_cut 36 = .ok (.iload_n 1, 1) := by decide +kernel
theorem dX13_cut_37 : decode cX13_cut 37 = .ok (.iload_n 2, 1) := by decide +kernel
theorem dX13_cut_38 : decode cX13_cut 38 = .ok (.iconst 0, 1) := by decide +kernel
theorem dX13_cut_39 : decode cX13_cut 39 = .ok (.invokevirtual 411, 3) := by decide +kernel
theorem dX13_cut_42 : decode cX13_cut 42 = .ok (.istore 5, 2) := by decide +kernel
theorem dX13_cut_44 : decode cX13_cut 44 = .ok (.iconst (-1), 1) := by decide +kernel
theorem dX13_cut_45 : decode cX13_cut 45 = .ok (.istore 6, 2) := by decide +kernel
theorem dX13_cut_47 : decode cX13_cut 47 = .ok (.iconst 0, 1) := by decide +kernel
theorem dX13_cut_48 : decode cX13_cut 48 = .ok (.istore 7, 2) := by decide +kernel
theorem dX13_cut_50 : decode cX13_cut 50 = .ok (.iload 7, 2) := by decide +kernel
theorem dX13_cut_52 : decode cX13_cut 52 = .ok (.iconst 1, 1) := by decide +kernel
theorem dX13_cut_53 : decode cX13_cut 53 = .ok (.aload_n 0, 1) := by decide +kernel
theorem dX13_cut_54 : decode cX13_cut 54 = .ok (.getfield 343, 3) := by decide +kernel
theorem dX13_cut_57 : decode cX13_cut 57 = .ok (.getfield 194, 3) := by decide +kernel
theorem dX13_cut_60 : decode cX13_cut 60 = .ok (.ishl, 1) := by decide +kernel
theorem dX13_cut_61 : decode cX13_cut 61 = .ok (.if_icmp .ge 140, 3) := by decide +kernel
theorem dX13_cut_64 : decode cX13_cut 64 = .ok (.iload 7, 2) := by decide +kernel
theorem dX13_cut_66 : decode cX13_cut 66 = .ok (.iload_n 1, 1) := by decide +kernel
theorem dX13_cut_67 : decode cX13_cut 67 = .ok (.invokestatic 277, 3) := by decide +kernel
theorem dX13_cut_70 : decode cX13_cut 70 = .ok (.ifCond .eq 125, 3) := by decide +kernel
theorem dX13_cut_73 : decode cX13_cut 73 = .ok (.iload 7, 2) := by decide +kernel
theorem dX13_cut_75 : decode cX13_cut 75 = .ok (.iload_n 2, 1) := by decide +kernel
theorem dX13_cut_76 : decode cX13_cut 76 = .ok (.invokestatic 277, 3) := by decide +kernel
theorem dX13_cut_79 : decode cX13_cut 79 = .ok (.ifCond .ne 116, 3) := by decide +kernel
theorem dX13_cut_82 : decode cX13_cut 82 = .ok (.aload_n 0, 1) := by decide +kernel
theorem dX13_cut_83 : decode cX13_cut 83 = .ok (.iload 7, 2) := by decide +kernel
theorem dX13_cut_85 : decode cX13_cut 85 = .ok (.iconst 0, 1) := by decide +kernel
theorem dX13_cut_86 : decode cX13_cut 86 = .ok (.invokevirtual 386, 3) := by decide +kernel
theorem dX13_cut_89 : decode cX13_cut 89 = .ok (.iload 5, 2) := by decide +kernel
theorem dX13_cut_91 : decode cX13_cut 91 = .ok (.if_icmp .eq 6, 3) := by decide +kernel
theorem dX13_cut_94 : decode cX13_cut 94 = .ok (.goto 101, 3) := by decide +kernel
theorem dX13_cut_97 : decode cX13_cut 97 = .ok (.iconst 0, 1) := by decide +kernel
theorem dX13_cut_98 : decode cX13_cut 98 = .ok (.istore 8, 2) := by decide +kernel
theorem dX13_cut_100 : decode cX13_cut 100 = .ok (.iconst 0, 1) := by decide +kernel
theorem dX13_cut_101 : decode cX13_cut 101 = .ok (.istore 9, 2) := by decide +kernel
theorem dX13_cut_103 : decode cX13_cut 103 = .ok (.iload 9, 2) := by decide +kernel
theorem dX13_cut_105 : decode cX13_cut 105 = .ok (.aload_n 0, 1) := by decide +kernel
theorem dX13_cut_106 : decode cX13_cut 106 = .ok (.getfield 360, 3) := by decide +kernel
theorem dX13_cut_109 : decode cX13_cut 109 = .ok (.if_icmp .ge 43, 3) := by decide +kernel
theorem dX13_cut_112 : decode cX13_cut 112 = .ok (.iload 8, 2) := by decide +kernel
theorem dX13_cut_114 : decode cX13_cut 114 = .ok (.aload_n 0, 1) := by decide +kernel
theorem dX13_cut_115 : decode cX13_cut 115 = .ok (.getfield 36, 3) := by decide +kernel
theorem dX13_cut_118 : decode cX13_cut 118 = .ok (.iload 9, 2) := by decide +kernel
theorem dX13_cut_120 : decode cX13_cut 120 = .ok (.iaload, 1) := by decide +kernel
theorem dX13_cut_121 : decode cX13_cut 121 = .ok (.ifCond .le 21, 3) := by decide +kernel
theorem dX13_cut_124 : decode cX13_cut 124 = .ok (.aload_n 0, 1) := by decide +kernel
theorem dX13_cut_125 : decode cX13_cut 125 = .ok (.iload 7, 2) := by decide +kernel
theorem dX13_cut_127 : decode cX13_cut 127 = .ok (.iload 9, 2) := by decide +kernel
theorem dX13_cut_129 : decode cX13_cut 129 = .ok (.invokevirtual 382, 3) := by decide +kernel
theorem dX13_cut_132 : decode cX13_cut 132 = .ok (.ifCond .eq 10, 3) := by decide +kernel
theorem dX13_cut_135 : decode cX13_cut 135 = .ok (.iconst 1, 1) := by decide +kernel
theorem dX13_cut_136 : decode cX13_cut 136 = .ok (.iload 9, 2) := by decide +kernel
theorem dX13_cut_138 : decode cX13_cut 138 = .ok (.ishl, 1) := by decide +kernel
theorem dX13_cut_139 : decode cX13_cut 139 = .ok (.goto 4, 3) := by decide +kernel
theorem dX13_cut_142 : decode cX13_cut 142 = .ok (.iconst 0, 1) := by decide +kernel
theorem dX13_cut_143 : decode cX13_cut 143 = .ok (.ior, 1) := by decide +kernel
theorem dX13_cut_144 : decode cX13_cut 144 = .ok (.istore 8, 2) := by decide +kernel
theorem dX13_cut_146 : decode cX13_cut 146 = .ok (.iinc 9 1, 3) := by decide +kernel
theorem dX13_cut_149 : decode cX13_cut 149 = .ok (.goto (-46), 3) := by decide +kernel
theorem dX13_cut_152 : decode cX13_cut 152 = .ok (.iload 6, 2) := by decide +kernel
theorem dX13_cut_154 : decode cX13_cut 154 = .ok (.iconst (-1), 1) := by decide +kernel
theorem dX13_cut_155 : decode cX13_cut 155 = .ok (.if_icmp .eq 36, 3) := by decide +kernel
theorem dX13_cut_158 : decode cX13_cut 158 = .ok (.iload 8, 2) := by decide +kernel
theorem dX13_cut_160 : decode cX13_cut 160 = .ok (.invokestatic 415, 3) := by decide +kernel
theorem dX13_cut_163 : decode cX13_cut 163 = .ok (.iload 6, 2) := by decide +kernel
theorem dX13_cut_165 : decode cX13_cut 165 = .ok (.invokestatic 415, 3) := by decide +kernel
theorem dX13_cut_168 : decode cX13_cut 168 = .ok (.if_icmp .lt 23, 3) := by decide +kernel
theorem dX13_cut_171 : decode cX13_cut 171 = .ok (.iload 8, 2) := by decide +kernel
theorem dX13_cut_173 : decode cX13_cut 173 = .ok (.invokestatic 415, 3) := by decide +kernel
theorem dX13_cut_176 : decode cX13_cut 176 = .ok (.iload 6, 2) := by decide +kernel
theorem dX13_cut_178 : decode cX13_cut 178 = .ok (.invokestatic 415, 3) := by decide +kernel
theorem dX13_cut_181 : decode cX13_cut 181 = .ok (.if_icmp .ne 14, 3) := by decide +kernel
theorem dX13_cut_184 : decode cX13_cut 184 = .ok (.iload 8, 2) := by decide +kernel
theorem dX13_cut_186 : decode cX13_cut 186 = .ok (.iload 6, 2) := by decide +kernel
theorem dX13_cut_188 : decode cX13_cut 188 = .ok (.if_icmp .ge 7, 3) := by decide +kernel
theorem dX13_cut_191 : decode cX13_cut 191 = .ok (.iload 8, 2) := by decide +kernel
theorem dX13_cut_193 : decode cX13_cut 193 = .ok (.istore 6, 2) := by decide +kernel
theorem dX13_cut_195 : decode cX13_cut 195 = .ok (.iinc 7 1, 3) := by decide +kernel
theorem dX13_cut_198 : decode cX13_cut 198 = .ok (.goto (-148), 3) := by decide +kernel
theorem dX13_cut_201 : decode cX13_cut 201 = .ok (.aload_n 0, 1) := by decide +kernel
theorem dX13_cut_202 : decode cX13_cut 202 = .ok (.iload 6, 2) := by decide +kernel
theorem dX13_cut_204 : decode cX13_cut 204 = .ok (.invokevirtual 56, 3) := by decide +kernel
theorem dX13_cut_207 : decode cX13_cut 207 = .ok (.ireturn, 1) := by decide +kernel
theorem dX13_vital_0 : decode cX13_vital 0 = .ok (.aload_n 0, 1) := by decide +kernel
theorem dX13_vital_1 : decode cX13_vital 1 = .ok (.iconst 0, 1) := by decide +kernel
theorem dX13_vital_2 : decode cX13_vital 2 = .ok (.putfield 46, 3) := by decide +kernel
theorem dX13_vital_5 : decode cX13_vital 5 = .ok (.aload_n 0, 1) := by decide +kernel
theorem dX13_vital_6 : decode cX13_vital 6 = .ok (.aload_n 0, 1) := by decide +kernel
theorem dX13_vital_7 : decode cX13_vital 7 = .ok (.iload_n 1, 1) := by decide +kernel
theorem dX13_vital_8 : decode cX13_vital 8 = .ok (.iload_n 2, 1) := by decide +kernel
theorem dX13_vital_9 : decode cX13_vital 9 = .ok (.invokevirtual 408, 3) := by decide +kernel
theorem dX13_vital_12 : decode cX13_vital 12 = .ok (.iload_n 3, 1) := by decide +kernel
theorem dX13_vital_13 : decode cX13_vital 13 = .ok (.invokevirtual 401, 3) := by decide +kernel
theorem dX13_vital_16 : decode cX13_vital 16 = .ok (.istore 4, 2) := by decide +kernel
theorem dX13_vital_18 : decode cX13_vital 18 = .ok (.iload 4, 2) := by decide +kernel
theorem dX13_vital_20 : decode cX13_vital 20 = .ok (.ifCond .le 10, 3) := by decide +kernel
theorem dX13_vital_23 : decode cX13_vital 23 = .ok (.aload_n 0, 1) := by decide +kernel
theorem dX13_vital_24 : decode cX13_vital 24 = .ok (.iload 4, 2) := by decide +kernel
theorem dX13_vital_26 : decode cX13_vital 26 = .ok (.invokevirtual 52, 3) := by decide +kernel
theorem dX13_vital_29 : decode cX13_vital 29 = .ok (.ireturn, 1) := by decide +kernel
theorem dX13_vital_30 : decode cX13_vital 30 = .ok (.aload_n 0, 1) := by decide +kernel
theorem dX13_vital_31 : decode cX13_vital 31 = .ok (.iload_n 3, 1) := by decide +kernel
theorem dX13_vital_32 : decode cX13_vital 32 = .ok (.invokevirtual 398, 3) := by decide +kernel
theorem dX13_vital_35 : decode cX13_vital 35 = .ok (.bipush (-2), 2) := by decide +kernel
theorem dX13_vital_37 : decode cX13_vital 37 = .ok (.istore 5, 2) := by decide +kernel
theorem dX13_vital_39 : decode cX13_vital 39 = .ok (.ldc_w 385, 3) := by decide +kernel
theorem dX13_vital_42 : decode cX13_vital 42 = .ok (.istore 6, 2) := by decide +kernel
theorem dX13_vital_44 : decode cX13_vital 44 = .ok (.iconst 0, 1) := by decide +kernel
theorem dX13_vital_45 : decode cX13_vital 45 = .ok (.istore 7, 2) := by decide +kernel
theorem dX13_vital_47 : decode cX13_vital 47 = .ok (.iload 7, 2) := by decide +kernel
theorem dX13_vital_49 : decode cX13_vital 49 = .ok (.aload_n 0, 1) := by decide +kernel
theorem dX13_vital_50 : decode cX13_vital 50 = .ok (.getfield 360, 3) := by decide +kernel
theorem dX13_vital_53 : decode cX13_vital 53 = .ok (.if_icmp .ge 55, 3) := by decide +kernel
theorem dX13_vital_56 : decode cX13_vital 56 = .ok (.aload_n 0, 1) := by decide +kernel
theorem dX13_vital_57 : decode cX13_vital 57 = .ok (.getfield 36, 3) := by decide +kernel
theorem dX13_vital_60 : decode cX13_vital 60 = .ok (.iload 7, 2) := by decide +kernel
theorem dX13_vital_62 : decode cX13_vital 62 = .ok (.iaload, 1) := by decide +kernel
theorem dX13_vital_63 : decode cX13_vital 63 = .ok (.ifCond .ne 9, 3) := by decide +kernel
theorem dX13_vital_66 : decode cX13_vital 66 = .ok (.ldc_w 385, 3) := by decide +kernel
theorem dX13_vital_69 : decode cX13_vital 69 = .ok (.goto 13, 3) := by decide +kernel
theorem dX13_vital_72 : decode cX13_vital 72 = .ok (.aload_n 0, 1) := by decide +kernel
theorem dX13_vital_73 : decode cX13_vital 73 = .ok (.iload_n 1, 1) := by decide +kernel
theorem dX13_vital_74 : decode cX13_vital 74 = .ok (.iload_n 2, 1) := by decide +kernel
theorem dX13_vital_75 : decode cX13_vital 75 = .ok (.iconst 1, 1) := by decide +kernel
theorem dX13_vital_76 : decode cX13_vital 76 = .ok (.iload 7, 2) := by decide +kernel
theorem dX13_vital_78 : decode cX13_vital 78 = .ok (.ishl, 1) := by decide +kernel
theorem dX13_vital_79 : decode cX13_vital 79 = .ok (.invokevirtual 411, 3) := by decide +kernel
theorem dX13_vital_82 : decode cX13_vital 82 = .ok (.istore 8, 2) := by decide +kernel
theorem dX13_vital_84 : decode cX13_vital 84 = .ok (.iload 8, 2) := by decide +kernel
theorem dX13_vital_86 : decode cX13_vital 86 = .ok (.iload 6, 2) := by decide +kernel
theorem dX13_vital_88 : decode cX13_vital 88 = .ok (.if_icmp .lt 6, 3) := by decide +kernel
theorem dX13_vital_91 : decode cX13_vital 91 = .ok (.goto 11, 3) := by decide +kernel
theorem dX13_vital_94 : decode cX13_vital 94 = .ok (.iload 8, 2) := by decide +kernel
theorem dX13_vital_96 : decode cX13_vital 96 = .ok (.istore 6, 2) := by decide +kernel
theorem dX13_vital_98 : decode cX13_vital 98 = .ok (.iload 7, 2) := by decide +kernel
theorem dX13_vital_100 : decode cX13_vital 100 = .ok (.istore 5, 2) := by decide +kernel
theorem dX13_vital_102 : decode cX13_vital 102 = .ok (.iinc 7 1, 3) := by decide +kernel
theorem dX13_vital_105 : decode cX13_vital 105 = .ok (.goto (-58), 3) := by decide +kernel
theorem dX13_vital_108 : decode cX13_vital 108 = .ok (.aload_n 0, 1) := by decide +kernel
theorem dX13_vital_109 : decode cX13_vital 109 = .ok (.iload 5, 2) := by decide +kernel
theorem dX13_vital_111 : decode cX13_vital 111 = .ok (.invokevirtual 56, 3) := by decide +kernel
theorem dX13_vital_114 : decode cX13_vital 114 = .ok (.ireturn, 1) := by decide +kernel
theorem dX13_needed_0 : decode cX13_needed 0 = .ok (.aload_n 0, 1) := by decide +kernel
theorem dX13_needed_1 : decode cX13_needed 1 = .ok (.iconst 0, 1) := by decide +kernel
theorem dX13_needed_2 : decode cX13_needed 2 = .ok (.putfield 46, 3) := by decide +kernel
theorem dX13_needed_5 : decode cX13_needed 5 = .ok (.aload_n 0, 1) := by decide +kernel
theorem dX13_needed_6 : decode cX13_needed 6 = .ok (.aload_n 0, 1) := by decide +kernel
theorem dX13_needed_7 : decode cX13_needed 7 = .ok (.iload_n 1, 1) := by decide +kernel
theorem dX13_needed_8 : decode cX13_needed 8 = .ok (.iload_n 2, 1) := by decide +kernel
theorem dX13_needed_9 : decode cX13_needed 9 = .ok (.invokevirtual 408, 3) := by decide +kernel
theorem dX13_needed_12 : decode cX13_needed 12 = .ok (.iload_n 3, 1) := by decide +kernel
theorem dX13_needed_13 : decode cX13_needed 13 = .ok (.invokevirtual 401, 3) := by decide +kernel
theorem dX13_needed_16 : decode cX13_needed 16 = .ok (.istore 4, 2) := by decide +kernel
theorem dX13_needed_18 : decode cX13_needed 18 = .ok (.iload 4, 2) := by decide +kernel
theorem dX13_needed_20 : decode cX13_needed 20 = .ok (.ifCond .le 10, 3) := by decide +kernel
theorem dX13_needed_23 : decode cX13_needed 23 = .ok (.aload_n 0, 1) := by decide +kernel
theorem dX13_needed_24 : decode cX13_needed 24 = .ok (.iload 4, 2) := by decide +kernel
theorem dX13_needed_26 : decode cX13_needed 26 = .ok (.invokevirtual 52, 3) := by decide +kernel
theorem dX13_needed_29 : decode cX13_needed 29 = .ok (.ireturn, 1) := by decide +kernel
theorem dX13_needed_30 : decode cX13_needed 30 = .ok (.aload_n 0, 1) := by decide +kernel
theorem dX13_needed_31 : decode cX13_needed 31 = .ok (.iload_n 3, 1) := by decide +kernel
theorem dX13_needed_32 : decode cX13_needed 32 = .ok (.invokevirtual 398, 3) := by decide +kernel
theorem dX13_needed_35 : decode cX13_needed 35 = .ok (.aload_n 0, 1) := by decide +kernel
theorem dX13_needed_36 : decode cX13_needed 36 = .ok (.iload_n 1, 1) := by decide +kernel
theorem dX13_needed_37 : decode cX13_needed 37 = .ok (.iload_n 2, 1) := by decide +kernel
theorem dX13_needed_38 : decode cX13_needed 38 = .ok (.iconst 0, 1) := by decide +kernel
theorem dX13_needed_39 : decode cX13_needed 39 = .ok (.invokevirtual 411, 3) := by decide +kernel
theorem dX13_needed_42 : decode cX13_needed 42 = .ok (.istore 5, 2) := by decide +kernel
theorem dX13_needed_44 : decode cX13_needed 44 = .ok (.iconst 0, 1) := by decide +kernel
theorem dX13_needed_45 : decode cX13_needed 45 = .ok (.istore 6, 2) := by decide +kernel
theorem dX13_needed_47 : decode cX13_needed 47 = .ok (.iconst 0, 1) := by decide +kernel
theorem dX13_needed_48 : decode cX13_needed 48 = .ok (.istore 7, 2) := by decide +kernel
theorem dX13_needed_50 : decode cX13_needed 50 = .ok (.iload 7, 2) := by decide +kernel
theorem dX13_needed_52 : decode cX13_needed 52 = .ok (.aload_n 0, 1) := by decide +kernel
theorem dX13_needed_53 : decode cX13_needed 53 = .ok (.getfield 360, 3) := by decide +kernel
theorem dX13_needed_56 : decode cX13_needed 56 = .ok (.if_icmp .ge 37, 3) := by decide +kernel
theorem dX13_needed_59 : decode cX13_needed 59 = .ok (.iload 6, 2) := by decide +kernel
theorem dX13_needed_61 : decode cX13_needed 61 = .ok (.aload_n 0, 1) := by decide +kernel
theorem dX13_needed_62 : decode cX13_needed 62 = .ok (.iload_n 1, 1) := by decide +kernel
theorem dX13_needed_63 : decode cX13_needed 63 = .ok (.iload_n 2, 1) := by decide +kernel
theorem dX13_needed_64 : decode cX13_needed 64 = .ok (.iconst 1, 1) := by decide +kernel
theorem dX13_needed_65 : decode cX13_needed 65 = .ok (.iload 7, 2) := by decide +kernel
theorem dX13_needed_67 : decode cX13_needed 67 = .ok (.ishl, 1) := by decide +kernel
theorem dX13_needed_68 : decode cX13_needed 68 = .ok (.invokevirtual 411, 3) := by decide +kernel
theorem dX13_needed_71 : decode cX13_needed 71 = .ok (.iload 5, 2) := by decide +kernel
theorem dX13_needed_73 : decode cX13_needed 73 = .ok (.if_icmp .ge 10, 3) := by decide +kernel
theorem dX13_needed_76 : decode cX13_needed 76 = .ok (.iconst 1, 1) := by decide +kernel
theorem dX13_needed_77 : decode cX13_needed 77 = .ok (.iload 7, 2) := by decide +kernel
theorem dX13_needed_79 : decode cX13_needed 79 = .ok (.ishl, 1) := by decide +kernel
theorem dX13_needed_80 : decode cX13_needed 80 = .ok (.goto 4, 3) := by decide +kernel
theorem dX13_needed_83 : decode cX13_needed 83 = .ok (.iconst 0, 1) := by decide +kernel
theorem dX13_needed_84 : decode cX13_needed 84 = .ok (.ior, 1) := by decide +kernel
theorem dX13_needed_85 : decode cX13_needed 85 = .ok (.istore 6, 2) := by decide +kernel
theorem dX13_needed_87 : decode cX13_needed 87 = .ok (.iinc 7 1, 3) := by decide +kernel
theorem dX13_needed_90 : decode cX13_needed 90 = .ok (.goto (-40), 3) := by decide +kernel
theorem dX13_needed_93 : decode cX13_needed 93 = .ok (.aload_n 0, 1) := by decide +kernel
theorem dX13_needed_94 : decode cX13_needed 94 = .ok (.iload 6, 2) := by decide +kernel
theorem dX13_needed_96 : decode cX13_needed 96 = .ok (.invokevirtual 56, 3) := by decide +kernel
theorem dX13_needed_99 : decode cX13_needed 99 = .ok (.ireturn, 1) := by decide +kernel
theorem dX13_weakest_0 : decode cX13_weakest 0 = .ok (.aload_n 0, 1) := by decide +kernel
theorem dX13_weakest_1 : decode cX13_weakest 1 = .ok (.iconst 0, 1) := by decide +kernel
theorem dX13_weakest_2 : decode cX13_weakest 2 = .ok (.putfield 46, 3) := by decide +kernel
theorem dX13_weakest_5 : decode cX13_weakest 5 = .ok (.aload_n 0, 1) := by decide +kernel
