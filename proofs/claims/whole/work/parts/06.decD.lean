theorem dX13_weakest_6 : decode cX13_weakest 6 = .ok (.aload_n 0, 1) := by decide +kernel
theorem dX13_weakest_7 : decode cX13_weakest 7 = .ok (.getfield 343, 3) := by decide +kernel
theorem dX13_weakest_10 : decode cX13_weakest 10 = .ok (.ifnull 7, 3) := by decide +kernel
theorem dX13_weakest_13 : decode cX13_weakest 13 = .ok (.iconst 1, 1) := by decide +kernel
theorem dX13_weakest_14 : decode cX13_weakest 14 = .ok (.goto 4, 3) := by decide +kernel
theorem dX13_weakest_17 : decode cX13_weakest 17 = .ok (.iconst 0, 1) := by decide +kernel
theorem dX13_weakest_18 : decode cX13_weakest 18 = .ok (.iload_n 1, 1) := by decide +kernel
theorem dX13_weakest_19 : decode cX13_weakest 19 = .ok (.invokevirtual 401, 3) := by decide +kernel
theorem dX13_weakest_22 : decode cX13_weakest 22 = .ok (.istore_n 2, 1) := by decide +kernel
theorem dX13_weakest_23 : decode cX13_weakest 23 = .ok (.iload_n 2, 1) := by decide +kernel
theorem dX13_weakest_24 : decode cX13_weakest 24 = .ok (.ifCond .le 9, 3) := by decide +kernel
theorem dX13_weakest_27 : decode cX13_weakest 27 = .ok (.aload_n 0, 1) := by decide +kernel
theorem dX13_weakest_28 : decode cX13_weakest 28 = .ok (.iload_n 2, 1) := by decide +kernel
theorem dX13_weakest_29 : decode cX13_weakest 29 = .ok (.invokevirtual 52, 3) := by decide +kernel
theorem dX13_weakest_32 : decode cX13_weakest 32 = .ok (.ireturn, 1) := by decide +kernel
theorem dX13_weakest_33 : decode cX13_weakest 33 = .ok (.aload_n 0, 1) := by decide +kernel
theorem dX13_weakest_34 : decode cX13_weakest 34 = .ok (.iload_n 1, 1) := by decide +kernel
theorem dX13_weakest_35 : decode cX13_weakest 35 = .ok (.invokevirtual 398, 3) := by decide +kernel
theorem dX13_weakest_38 : decode cX13_weakest 38 = .ok (.bipush (-2), 2) := by decide +kernel
theorem dX13_weakest_40 : decode cX13_weakest 40 = .ok (.istore_n 3, 1) := by decide +kernel
theorem dX13_weakest_41 : decode cX13_weakest 41 = .ok (.ldc_w 385, 3) := by decide +kernel
theorem dX13_weakest_44 : decode cX13_weakest 44 = .ok (.istore 4, 2) := by decide +kernel
theorem dX13_weakest_46 : decode cX13_weakest 46 = .ok (.iconst 0, 1) := by decide +kernel
theorem dX13_weakest_47 : decode cX13_weakest 47 = .ok (.istore 5, 2) := by decide +kernel
theorem dX13_weakest_49 : decode cX13_weakest 49 = .ok (.iload 5, 2) := by decide +kernel
theorem dX13_weakest_51 : decode cX13_weakest 51 = .ok (.aload_n 0, 1) := by decide +kernel
theorem dX13_weakest_52 : decode cX13_weakest 52 = .ok (.getfield 343, 3) := by decide +kernel
theorem dX13_weakest_55 : decode cX13_weakest 55 = .ok (.getfield 194, 3) := by decide +kernel
theorem dX13_weakest_58 : decode cX13_weakest 58 = .ok (.if_icmp .ge 67, 3) := by decide +kernel
theorem dX13_weakest_61 : decode cX13_weakest 61 = .ok (.iload 5, 2) := by decide +kernel
theorem dX13_weakest_63 : decode cX13_weakest 63 = .ok (.iconst 1, 1) := by decide +kernel
theorem dX13_weakest_64 : decode cX13_weakest 64 = .ok (.iadd, 1) := by decide +kernel
theorem dX13_weakest_65 : decode cX13_weakest 65 = .ok (.istore 6, 2) := by decide +kernel
theorem dX13_weakest_67 : decode cX13_weakest 67 = .ok (.iload 6, 2) := by decide +kernel
theorem dX13_weakest_69 : decode cX13_weakest 69 = .ok (.aload_n 0, 1) := by decide +kernel
theorem dX13_weakest_70 : decode cX13_weakest 70 = .ok (.getfield 343, 3) := by decide +kernel
theorem dX13_weakest_73 : decode cX13_weakest 73 = .ok (.getfield 194, 3) := by decide +kernel
theorem dX13_weakest_76 : decode cX13_weakest 76 = .ok (.if_icmp .ge 43, 3) := by decide +kernel
theorem dX13_weakest_79 : decode cX13_weakest 79 = .ok (.aload_n 0, 1) := by decide +kernel
theorem dX13_weakest_80 : decode cX13_weakest 80 = .ok (.iload 5, 2) := by decide +kernel
theorem dX13_weakest_82 : decode cX13_weakest 82 = .ok (.iload 6, 2) := by decide +kernel
theorem dX13_weakest_84 : decode cX13_weakest 84 = .ok (.iconst 0, 1) := by decide +kernel
theorem dX13_weakest_85 : decode cX13_weakest 85 = .ok (.invokevirtual 411, 3) := by decide +kernel
theorem dX13_weakest_88 : decode cX13_weakest 88 = .ok (.istore 7, 2) := by decide +kernel
theorem dX13_weakest_90 : decode cX13_weakest 90 = .ok (.iload 7, 2) := by decide +kernel
theorem dX13_weakest_92 : decode cX13_weakest 92 = .ok (.iload 4, 2) := by decide +kernel
theorem dX13_weakest_94 : decode cX13_weakest 94 = .ok (.if_icmp .lt 6, 3) := by decide +kernel
theorem dX13_weakest_97 : decode cX13_weakest 97 = .ok (.goto 16, 3) := by decide +kernel
theorem dX13_weakest_100 : decode cX13_weakest 100 = .ok (.iload 7, 2) := by decide +kernel
theorem dX13_weakest_102 : decode cX13_weakest 102 = .ok (.istore 4, 2) := by decide +kernel
theorem dX13_weakest_104 : decode cX13_weakest 104 = .ok (.bipush 10, 2) := by decide +kernel
theorem dX13_weakest_106 : decode cX13_weakest 106 = .ok (.iload 5, 2) := by decide +kernel
theorem dX13_weakest_108 : decode cX13_weakest 108 = .ok (.imul, 1) := by decide +kernel
theorem dX13_weakest_109 : decode cX13_weakest 109 = .ok (.iload 6, 2) := by decide +kernel
theorem dX13_weakest_111 : decode cX13_weakest 111 = .ok (.iadd, 1) := by decide +kernel
theorem dX13_weakest_112 : decode cX13_weakest 112 = .ok (.istore_n 3, 1) := by decide +kernel
theorem dX13_weakest_113 : decode cX13_weakest 113 = .ok (.iinc 6 1, 3) := by decide +kernel
theorem dX13_weakest_116 : decode cX13_weakest 116 = .ok (.goto (-49), 3) := by decide +kernel
theorem dX13_weakest_119 : decode cX13_weakest 119 = .ok (.iinc 5 1, 3) := by decide +kernel
theorem dX13_weakest_122 : decode cX13_weakest 122 = .ok (.goto (-73), 3) := by decide +kernel
theorem dX13_weakest_125 : decode cX13_weakest 125 = .ok (.aload_n 0, 1) := by decide +kernel
theorem dX13_weakest_126 : decode cX13_weakest 126 = .ok (.iload_n 3, 1) := by decide +kernel
theorem dX13_weakest_127 : decode cX13_weakest 127 = .ok (.invokevirtual 56, 3) := by decide +kernel
theorem dX13_weakest_130 : decode cX13_weakest 130 = .ok (.ireturn, 1) := by decide +kernel
theorem dX13_apart_0 : decode cX13_apart 0 = .ok (.aload_n 0, 1) := by decide +kernel
theorem dX13_apart_1 : decode cX13_apart 1 = .ok (.iconst 0, 1) := by decide +kernel
theorem dX13_apart_2 : decode cX13_apart 2 = .ok (.putfield 46, 3) := by decide +kernel
theorem dX13_apart_5 : decode cX13_apart 5 = .ok (.aload_n 0, 1) := by decide +kernel
theorem dX13_apart_6 : decode cX13_apart 6 = .ok (.aload_n 0, 1) := by decide +kernel
theorem dX13_apart_7 : decode cX13_apart 7 = .ok (.iload_n 1, 1) := by decide +kernel
theorem dX13_apart_8 : decode cX13_apart 8 = .ok (.invokevirtual 351, 3) := by decide +kernel
theorem dX13_apart_11 : decode cX13_apart 11 = .ok (.ifCond .eq 15, 3) := by decide +kernel
theorem dX13_apart_14 : decode cX13_apart 14 = .ok (.aload_n 0, 1) := by decide +kernel
theorem dX13_apart_15 : decode cX13_apart 15 = .ok (.iload_n 2, 1) := by decide +kernel
theorem dX13_apart_16 : decode cX13_apart 16 = .ok (.invokevirtual 351, 3) := by decide +kernel
theorem dX13_apart_19 : decode cX13_apart 19 = .ok (.ifCond .eq 7, 3) := by decide +kernel
theorem dX13_apart_22 : decode cX13_apart 22 = .ok (.iconst 1, 1) := by decide +kernel
theorem dX13_apart_23 : decode cX13_apart 23 = .ok (.goto 4, 3) := by decide +kernel
theorem dX13_apart_26 : decode cX13_apart 26 = .ok (.iconst 0, 1) := by decide +kernel
theorem dX13_apart_27 : decode cX13_apart 27 = .ok (.iload_n 3, 1) := by decide +kernel
theorem dX13_apart_28 : decode cX13_apart 28 = .ok (.invokevirtual 401, 3) := by decide +kernel
theorem dX13_apart_31 : decode cX13_apart 31 = .ok (.istore 4, 2) := by decide +kernel
theorem dX13_apart_33 : decode cX13_apart 33 = .ok (.iload 4, 2) := by decide +kernel
theorem dX13_apart_35 : decode cX13_apart 35 = .ok (.ifCond .le 10, 3) := by decide +kernel
theorem dX13_apart_38 : decode cX13_apart 38 = .ok (.aload_n 0, 1) := by decide +kernel
theorem dX13_apart_39 : decode cX13_apart 39 = .ok (.iload 4, 2) := by decide +kernel
theorem dX13_apart_41 : decode cX13_apart 41 = .ok (.invokevirtual 52, 3) := by decide +kernel
theorem dX13_apart_44 : decode cX13_apart 44 = .ok (.ireturn, 1) := by decide +kernel
theorem dX13_apart_45 : decode cX13_apart 45 = .ok (.aload_n 0, 1) := by decide +kernel
theorem dX13_apart_46 : decode cX13_apart 46 = .ok (.iload_n 3, 1) := by decide +kernel
theorem dX13_apart_47 : decode cX13_apart 47 = .ok (.invokevirtual 398, 3) := by decide +kernel
theorem dX13_apart_50 : decode cX13_apart 50 = .ok (.iconst 1, 1) := by decide +kernel
theorem dX13_apart_51 : decode cX13_apart 51 = .ok (.iload_n 1, 1) := by decide +kernel
theorem dX13_apart_52 : decode cX13_apart 52 = .ok (.ishl, 1) := by decide +kernel
theorem dX13_apart_53 : decode cX13_apart 53 = .ok (.istore 5, 2) := by decide +kernel
theorem dX13_apart_55 : decode cX13_apart 55 = .ok (.iconst 0, 1) := by decide +kernel
theorem dX13_apart_56 : decode cX13_apart 56 = .ok (.istore 6, 2) := by decide +kernel
theorem dX13_apart_58 : decode cX13_apart 58 = .ok (.iload 6, 2) := by decide +kernel
theorem dX13_apart_60 : decode cX13_apart 60 = .ok (.bipush 7, 2) := by decide +kernel
theorem dX13_apart_62 : decode cX13_apart 62 = .ok (.if_icmp .ge 96, 3) := by decide +kernel
theorem dX13_apart_65 : decode cX13_apart 65 = .ok (.iload 5, 2) := by decide +kernel
theorem dX13_apart_67 : decode cX13_apart 67 = .ok (.iload_n 2, 1) := by decide +kernel
theorem dX13_apart_68 : decode cX13_apart 68 = .ok (.invokestatic 277, 3) := by decide +kernel
theorem dX13_apart_71 : decode cX13_apart 71 = .ok (.ifCond .eq 10, 3) := by decide +kernel
theorem dX13_apart_74 : decode cX13_apart 74 = .ok (.aload_n 0, 1) := by decide +kernel
theorem dX13_apart_75 : decode cX13_apart 75 = .ok (.iload 6, 2) := by decide +kernel
theorem dX13_apart_77 : decode cX13_apart 77 = .ok (.invokevirtual 56, 3) := by decide +kernel
theorem dX13_apart_80 : decode cX13_apart 80 = .ok (.ireturn, 1) := by decide +kernel
theorem dX13_apart_81 : decode cX13_apart 81 = .ok (.iload 5, 2) := by decide +kernel
theorem dX13_apart_83 : decode cX13_apart 83 = .ok (.istore 7, 2) := by decide +kernel
theorem dX13_apart_85 : decode cX13_apart 85 = .ok (.iconst 0, 1) := by decide +kernel
theorem dX13_apart_86 : decode cX13_apart 86 = .ok (.istore 8, 2) := by decide +kernel
theorem dX13_apart_88 : decode cX13_apart 88 = .ok (.iload 8, 2) := by decide +kernel
theorem dX13_apart_90 : decode cX13_apart 90 = .ok (.aload_n 0, 1) := by decide +kernel
theorem dX13_apart_91 : decode cX13_apart 91 = .ok (.getfield 360, 3) := by decide +kernel
theorem dX13_apart_94 : decode cX13_apart 94 = .ok (.if_icmp .ge 54, 3) := by decide +kernel
theorem dX13_apart_97 : decode cX13_apart 97 = .ok (.aload_n 0, 1) := by decide +kernel
theorem dX13_apart_98 : decode cX13_apart 98 = .ok (.getfield 36, 3) := by decide +kernel
theorem dX13_apart_101 : decode cX13_apart 101 = .ok (.iload 8, 2) := by decide +kernel
theorem dX13_apart_103 : decode cX13_apart 103 = .ok (.iaload, 1) := by decide +kernel
theorem dX13_apart_104 : decode cX13_apart 104 = .ok (.ifCond .le 38, 3) := by decide +kernel
theorem dX13_apart_107 : decode cX13_apart 107 = .ok (.aload_n 0, 1) := by decide +kernel
theorem dX13_apart_108 : decode cX13_apart 108 = .ok (.iload 5, 2) := by decide +kernel
theorem dX13_apart_110 : decode cX13_apart 110 = .ok (.iload 8, 2) := by decide +kernel
theorem dX13_apart_112 : decode cX13_apart 112 = .ok (.invokevirtual 382, 3) := by decide +kernel
theorem dX13_apart_115 : decode cX13_apart 115 = .ok (.ifCond .eq 27, 3) := by decide +kernel
theorem dX13_apart_118 : decode cX13_apart 118 = .ok (.iload 7, 2) := by decide +kernel
theorem dX13_apart_120 : decode cX13_apart 120 = .ok (.iconst 1, 1) := by decide +kernel
theorem dX13_apart_121 : decode cX13_apart 121 = .ok (.aload_n 0, 1) := by decide +kernel
theorem dX13_apart_122 : decode cX13_apart 122 = .ok (.getfield 30, 3) := by decide +kernel
theorem dX13_apart_125 : decode cX13_apart 125 = .ok (.iload 8, 2) := by decide +kernel
theorem dX13_apart_127 : decode cX13_apart 127 = .ok (.iaload, 1) := by decide +kernel
theorem dX13_apart_128 : decode cX13_apart 128 = .ok (.ishl, 1) := by decide +kernel
theorem dX13_apart_129 : decode cX13_apart 129 = .ok (.iconst 1, 1) := by decide +kernel
theorem dX13_apart_130 : decode cX13_apart 130 = .ok (.aload_n 0, 1) := by decide +kernel
theorem dX13_apart_131 : decode cX13_apart 131 = .ok (.getfield 33, 3) := by decide +kernel
theorem dX13_apart_134 : decode cX13_apart 134 = .ok (.iload 8, 2) := by decide +kernel
theorem dX13_apart_136 : decode cX13_apart 136 = .ok (.iaload, 1) := by decide +kernel
theorem dX13_apart_137 : decode cX13_apart 137 = .ok (.ishl, 1) := by decide +kernel
theorem dX13_apart_138 : decode cX13_apart 138 = .ok (.ior, 1) := by decide +kernel
theorem dX13_apart_139 : decode cX13_apart 139 = .ok (.ior, 1) := by decide +kernel
theorem dX13_apart_140 : decode cX13_apart 140 = .ok (.istore 7, 2) := by decide +kernel
theorem dX13_apart_142 : decode cX13_apart 142 = .ok (.iinc 8 1, 3) := by decide +kernel
theorem dX13_apart_145 : decode cX13_apart 145 = .ok (.goto (-57), 3) := by decide +kernel
theorem dX13_apart_148 : decode cX13_apart 148 = .ok (.iload 7, 2) := by decide +kernel
theorem dX13_apart_150 : decode cX13_apart 150 = .ok (.istore 5, 2) := by decide +kernel
theorem dX13_apart_152 : decode cX13_apart 152 = .ok (.iinc 6 1, 3) := by decide +kernel
theorem dX13_apart_155 : decode cX13_apart 155 = .ok (.goto (-97), 3) := by decide +kernel
theorem dX13_apart_158 : decode cX13_apart 158 = .ok (.aload_n 0, 1) := by decide +kernel
theorem dX13_apart_159 : decode cX13_apart 159 = .ok (.bipush (-2), 2) := by decide +kernel
theorem dX13_apart_161 : decode cX13_apart 161 = .ok (.invokevirtual 56, 3) := by decide +kernel
theorem dX13_apart_164 : decode cX13_apart 164 = .ok (.ireturn, 1) := by decide +kernel
theorem dX13_parts_0 : decode cX13_parts 0 = .ok (.aload_n 0, 1) := by decide +kernel
theorem dX13_parts_1 : decode cX13_parts 1 = .ok (.iconst 0, 1) := by decide +kernel
theorem dX13_parts_2 : decode cX13_parts 2 = .ok (.putfield 46, 3) := by decide +kernel
theorem dX13_parts_5 : decode cX13_parts 5 = .ok (.aload_n 0, 1) := by decide +kernel
theorem dX13_parts_6 : decode cX13_parts 6 = .ok (.aload_n 0, 1) := by decide +kernel
theorem dX13_parts_7 : decode cX13_parts 7 = .ok (.getfield 343, 3) := by decide +kernel
theorem dX13_parts_10 : decode cX13_parts 10 = .ok (.ifnull 7, 3) := by decide +kernel
theorem dX13_parts_13 : decode cX13_parts 13 = .ok (.iconst 1, 1) := by decide +kernel
theorem dX13_parts_14 : decode cX13_parts 14 = .ok (.goto 4, 3) := by decide +kernel
theorem dX13_parts_17 : decode cX13_parts 17 = .ok (.iconst 0, 1) := by decide +kernel
theorem dX13_parts_18 : decode cX13_parts 18 = .ok (.iload_n 1, 1) := by decide +kernel
theorem dX13_parts_19 : decode cX13_parts 19 = .ok (.invokevirtual 401, 3) := by decide +kernel
theorem dX13_parts_22 : decode cX13_parts 22 = .ok (.istore_n 2, 1) := by decide +kernel
theorem dX13_parts_23 : decode cX13_parts 23 = .ok (.iload_n 2, 1) := by decide +kernel
theorem dX13_parts_24 : decode cX13_parts 24 = .ok (.ifCond .le 9, 3) := by decide +kernel
theorem dX13_parts_27 : decode cX13_parts 27 = .ok (.aload_n 0, 1) := by decide +kernel
theorem dX13_parts_28 : decode cX13_parts 28 = .ok (.iload_n 2, 1) := by decide +kernel
theorem dX13_parts_29 : decode cX13_parts 29 = .ok (.invokevirtual 52, 3) := by decide +kernel
theorem dX13_parts_32 : decode cX13_parts 32 = .ok (.ireturn, 1) := by decide +kernel
theorem dX13_parts_33 : decode cX13_parts 33 = .ok (.aload_n 0, 1) := by decide +kernel
theorem dX13_parts_34 : decode cX13_parts 34 = .ok (.iload_n 1, 1) := by decide +kernel
theorem dX13_parts_35 : decode cX13_parts 35 = .ok (.invokevirtual 398, 3) := by decide +kernel
theorem dX13_parts_38 : decode cX13_parts 38 = .ok (.aload_n 0, 1) := by decide +kernel
theorem dX13_parts_39 : decode cX13_parts 39 = .ok (.aload_n 0, 1) := by decide +kernel
theorem dX13_parts_40 : decode cX13_parts 40 = .ok (.iconst 0, 1) := by decide +kernel
theorem dX13_parts_41 : decode cX13_parts 41 = .ok (.invokevirtual 418, 3) := by decide +kernel
theorem dX13_parts_44 : decode cX13_parts 44 = .ok (.invokevirtual 56, 3) := by decide +kernel
theorem dX13_parts_47 : decode cX13_parts 47 = .ok (.ireturn, 1) := by decide +kernel
theorem dX13_bridges_0 : decode cX13_bridges 0 = .ok (.aload_n 0, 1) := by decide +kernel
theorem dX13_bridges_1 : decode cX13_bridges 1 = .ok (.iconst 0, 1) := by decide +kernel
theorem dX13_bridges_2 : decode cX13_bridges 2 = .ok (.putfield 46, 3) := by decide +kernel
theorem dX13_bridges_5 : decode cX13_bridges 5 = .ok (.aload_n 0, 1) := by decide +kernel
theorem dX13_bridges_6 : decode cX13_bridges 6 = .ok (.aload_n 0, 1) := by decide +kernel
theorem dX13_bridges_7 : decode cX13_bridges 7 = .ok (.getfield 343, 3) := by decide +kernel
theorem dX13_bridges_10 : decode cX13_bridges 10 = .ok (.ifnull 7, 3) := by decide +kernel
theorem dX13_bridges_13 : decode cX13_bridges 13 = .ok (.iconst 1, 1) := by decide +kernel
theorem dX13_bridges_14 : decode cX13_bridges 14 = .ok (.goto 4, 3) := by decide +kernel
theorem dX13_bridges_17 : decode cX13_bridges 17 = .ok (.iconst 0, 1) := by decide +kernel
theorem dX13_bridges_18 : decode cX13_bridges 18 = .ok (.iload_n 1, 1) := by decide +kernel
theorem dX13_bridges_19 : decode cX13_bridges 19 = .ok (.invokevirtual 401, 3) := by decide +kernel
theorem dX13_bridges_22 : decode cX13_bridges 22 = .ok (.istore_n 2, 1) := by decide +kernel
theorem dX13_bridges_23 : decode cX13_bridges 23 = .ok (.iload_n 2, 1) := by decide +kernel
theorem dX13_bridges_24 : decode cX13_bridges 24 = .ok (.ifCond .le 9, 3) := by decide +kernel
theorem dX13_bridges_27 : decode cX13_bridges 27 = .ok (.aload_n 0, 1) := by decide +kernel
theorem dX13_bridges_28 : decode cX13_bridges 28 = .ok (.iload_n 2, 1) := by decide +kernel
theorem dX13_bridges_29 : decode cX13_bridges 29 = .ok (.invokevirtual 52, 3) := by decide +kernel
theorem dX13_bridges_32 : decode cX13_bridges 32 = .ok (.ireturn, 1) := by decide +kernel
theorem dX13_bridges_33 : decode cX13_bridges 33 = .ok (.aload_n 0, 1) := by decide +kernel
theorem dX13_bridges_34 : decode cX13_bridges 34 = .ok (.iload_n 1, 1) := by decide +kernel
theorem dX13_bridges_35 : decode cX13_bridges 35 = .ok (.invokevirtual 398, 3) := by decide +kernel
theorem dX13_bridges_38 : decode cX13_bridges 38 = .ok (.iconst 0, 1) := by decide +kernel
theorem dX13_bridges_39 : decode cX13_bridges 39 = .ok (.istore_n 3, 1) := by decide +kernel
theorem dX13_bridges_40 : decode cX13_bridges 40 = .ok (.iconst 0, 1) := by decide +kernel
theorem dX13_bridges_41 : decode cX13_bridges 41 = .ok (.istore 4, 2) := by decide +kernel
theorem dX13_bridges_43 : decode cX13_bridges 43 = .ok (.iload 4, 2) := by decide +kernel
theorem dX13_bridges_45 : decode cX13_bridges 45 = .ok (.aload_n 0, 1) := by decide +kernel
theorem dX13_bridges_46 : decode cX13_bridges 46 = .ok (.getfield 360, 3) := by decide +kernel
theorem dX13_bridges_49 : decode cX13_bridges 49 = .ok (.if_icmp .ge 36, 3) := by decide +kernel
theorem dX13_bridges_52 : decode cX13_bridges 52 = .ok (.iload_n 3, 1) := by decide +kernel
theorem dX13_bridges_53 : decode cX13_bridges 53 = .ok (.aload_n 0, 1) := by decide +kernel
theorem dX13_bridges_54 : decode cX13_bridges 54 = .ok (.iconst 1, 1) := by decide +kernel
theorem dX13_bridges_55 : decode cX13_bridges 55 = .ok (.iload 4, 2) := by decide +kernel
theorem dX13_bridges_57 : decode cX13_bridges 57 = .ok (.ishl, 1) := by decide +kernel
theorem dX13_bridges_58 : decode cX13_bridges 58 = .ok (.invokevirtual 418, 3) := by decide +kernel
theorem dX13_bridges_61 : decode cX13_bridges 61 = .ok (.aload_n 0, 1) := by decide +kernel
theorem dX13_bridges_62 : decode cX13_bridges 62 = .ok (.iconst 0, 1) := by decide +kernel
theorem dX13_bridges_63 : decode cX13_bridges 63 = .ok (.invokevirtual 418, 3) := by decide +kernel
theorem dX13_bridges_66 : decode cX13_bridges 66 = .ok (.if_icmp .le 10, 3) := by decide +kernel
theorem dX13_bridges_69 : decode cX13_bridges 69 = .ok (.iconst 1, 1) := by decide +kernel
theorem dX13_bridges_70 : decode cX13_bridges 70 = .ok (.iload 4, 2) := by decide +kernel
theorem dX13_bridges_72 : decode cX13_bridges 72 = .ok (.ishl, 1) := by decide +kernel
theorem dX13_bridges_73 : decode cX13_bridges 73 = .ok (.goto 4, 3) := by decide +kernel
theorem dX13_bridges_76 : decode cX13_bridges 76 = .ok (.iconst 0, 1) := by decide +kernel
theorem dX13_bridges_77 : decode cX13_bridges 77 = .ok (.ior, 1) := by decide +kernel
theorem dX13_bridges_78 : decode cX13_bridges 78 = .ok (.istore_n 3, 1) := by decide +kernel
theorem dX13_bridges_79 : decode cX13_bridges 79 = .ok (.iinc 4 1, 3) := by decide +kernel
theorem dX13_bridges_82 : decode cX13_bridges 82 = .ok (.goto (-39), 3) := by decide +kernel
theorem dX13_bridges_85 : decode cX13_bridges 85 = .ok (.aload_n 0, 1) := by decide +kernel
theorem dX13_bridges_86 : decode cX13_bridges 86 = .ok (.iload_n 3, 1) := by decide +kernel
theorem dX13_bridges_87 : decode cX13_bridges 87 = .ok (.invokevirtual 56, 3) := by decide +kernel
theorem dX13_bridges_90 : decode cX13_bridges 90 = .ok (.ireturn, 1) := by decide +kernel
theorem dX13_borneAll_0 : decode cX13_borneAll 0 = .ok (.iconst 0, 1) := by decide +kernel
theorem dX13_borneAll_1 : decode cX13_borneAll 1 = .ok (.istore_n 1, 1) := by decide +kernel
theorem dX13_borneAll_2 : decode cX13_borneAll 2 = .ok (.iconst 0, 1) := by decide +kernel
theorem dX13_borneAll_3 : decode cX13_borneAll 3 = .ok (.istore_n 2, 1) := by decide +kernel
theorem dX13_borneAll_4 : decode cX13_borneAll 4 = .ok (.iload_n 2, 1) := by decide +kernel
theorem dX13_borneAll_5 : decode cX13_borneAll 5 = .ok (.aload_n 0, 1) := by decide +kernel
theorem dX13_borneAll_6 : decode cX13_borneAll 6 = .ok (.getfield 343, 3) := by decide +kernel
theorem dX13_borneAll_9 : decode cX13_borneAll 9 = .ok (.getfield 287, 3) := by decide +kernel
theorem dX13_borneAll_12 : decode cX13_borneAll 12 = .ok (.if_icmp .ge 54, 3) := by decide +kernel
theorem dX13_borneAll_15 : decode cX13_borneAll 15 = .ok (.iload_n 1, 1) := by decide +kernel
theorem dX13_borneAll_16 : decode cX13_borneAll 16 = .ok (.aload_n 0, 1) := by decide +kernel
theorem dX13_borneAll_17 : decode cX13_borneAll 17 = .ok (.aload_n 0, 1) := by decide +kernel
theorem dX13_borneAll_18 : decode cX13_borneAll 18 = .ok (.getfield 343, 3) := by decide +kernel
theorem dX13_borneAll_21 : decode cX13_borneAll 21 = .ok (.getfield 290, 3) := by decide +kernel
theorem dX13_borneAll_24 : decode cX13_borneAll 24 = .ok (.iload_n 2, 1) := by decide +kernel
theorem dX13_borneAll_25 : decode cX13_borneAll 25 = .ok (.iaload, 1) := by decide +kernel
theorem dX13_borneAll_26 : decode cX13_borneAll 26 = .ok (.aload_n 0, 1) := by decide +kernel
theorem dX13_borneAll_27 : decode cX13_borneAll 27 = .ok (.getfield 343, 3) := by decide +kernel
theorem dX13_borneAll_30 : decode cX13_borneAll 30 = .ok (.getfield 293, 3) := by decide +kernel
theorem dX13_borneAll_33 : decode cX13_borneAll 33 = .ok (.iload_n 2, 1) := by decide +kernel
theorem dX13_borneAll_34 : decode cX13_borneAll 34 = .ok (.iaload, 1) := by decide +kernel
theorem dX13_borneAll_35 : decode cX13_borneAll 35 = .ok (.iconst 0, 1) := by decide +kernel
theorem dX13_borneAll_36 : decode cX13_borneAll 36 = .ok (.invokevirtual 411, 3) := by decide +kernel
theorem dX13_borneAll_39 : decode cX13_borneAll 39 = .ok (.aload_n 0, 1) := by decide +kernel
theorem dX13_borneAll_40 : decode cX13_borneAll 40 = .ok (.getfield 343, 3) := by decide +kernel
theorem dX13_borneAll_43 : decode cX13_borneAll 43 = .ok (.getfield 296, 3) := by decide +kernel
theorem dX13_borneAll_46 : decode cX13_borneAll 46 = .ok (.iload_n 2, 1) := by decide +kernel
theorem dX13_borneAll_47 : decode cX13_borneAll 47 = .ok (.iaload, 1) := by decide +kernel
theorem dX13_borneAll_48 : decode cX13_borneAll 48 = .ok (.if_icmp .lt 9, 3) := by decide +kernel
theorem dX13_borneAll_51 : decode cX13_borneAll 51 = .ok (.iconst 1, 1) := by decide +kernel
theorem dX13_borneAll_52 : decode cX13_borneAll 52 = .ok (.iload_n 2, 1) := by decide +kernel
theorem dX13_borneAll_53 : decode cX13_borneAll 53 = .ok (.ishl, 1) := by decide +kernel
theorem dX13_borneAll_54 : decode cX13_borneAll 54 = .ok (.goto 4, 3) := by decide +kernel
theorem dX13_borneAll_57 : decode cX13_borneAll 57 = .ok (.iconst 0, 1) := by decide +kernel
theorem dX13_borneAll_58 : decode cX13_borneAll 58 = .ok (.ior, 1) := by decide +kernel
theorem dX13_borneAll_59 : decode cX13_borneAll 59 = .ok (.istore_n 1, 1) := by decide +kernel
theorem dX13_borneAll_60 : decode cX13_borneAll 60 = .ok (.iinc 2 1, 3) := by decide +kernel
theorem dX13_borneAll_63 : decode cX13_borneAll 63 = .ok (.goto (-59), 3) := by decide +kernel
theorem dX13_borneAll_66 : decode cX13_borneAll 66 = .ok (.iload_n 1, 1) := by decide +kernel
theorem dX13_borneAll_67 : decode cX13_borneAll 67 = .ok (.ireturn, 1) := by decide +kernel
theorem dX13_isLoad_0 : decode cX13_isLoad 0 = .ok (.aload_n 0, 1) := by decide +kernel
theorem dX13_isLoad_1 : decode cX13_isLoad 1 = .ok (.getfield 343, 3) := by decide +kernel
theorem dX13_isLoad_4 : decode cX13_isLoad 4 = .ok (.ifnull 22, 3) := by decide +kernel
theorem dX13_isLoad_7 : decode cX13_isLoad 7 = .ok (.iload_n 1, 1) := by decide +kernel
theorem dX13_isLoad_8 : decode cX13_isLoad 8 = .ok (.ifCond .lt 18, 3) := by decide +kernel
theorem dX13_isLoad_11 : decode cX13_isLoad 11 = .ok (.iload_n 1, 1) := by decide +kernel
theorem dX13_isLoad_12 : decode cX13_isLoad 12 = .ok (.aload_n 0, 1) := by decide +kernel
theorem dX13_isLoad_13 : decode cX13_isLoad 13 = .ok (.getfield 343, 3) := by decide +kernel
theorem dX13_isLoad_16 : decode cX13_isLoad 16 = .ok (.getfield 287, 3) := by decide +kernel
theorem dX13_isLoad_19 : decode cX13_isLoad 19 = .ok (.if_icmp .ge 7, 3) := by decide +kernel
theorem dX13_isLoad_22 : decode cX13_isLoad 22 = .ok (.iconst 1, 1) := by decide +kernel
theorem dX13_isLoad_23 : decode cX13_isLoad 23 = .ok (.goto 4, 3) := by decide +kernel
theorem dX13_isLoad_26 : decode cX13_isLoad 26 = .ok (.iconst 0, 1) := by decide +kernel
theorem dX13_isLoad_27 : decode cX13_isLoad 27 = .ok (.ireturn, 1) := by decide +kernel
theorem dX13_borne_0 : decode cX13_borne 0 = .ok (.aload_n 0, 1) := by decide +kernel
theorem dX13_borne_1 : decode cX13_borne 1 = .ok (.iconst 0, 1) := by decide +kernel
theorem dX13_borne_2 : decode cX13_borne 2 = .ok (.putfield 46, 3) := by decide +kernel
theorem dX13_borne_5 : decode cX13_borne 5 = .ok (.aload_n 0, 1) := by decide +kernel
theorem dX13_borne_6 : decode cX13_borne 6 = .ok (.aload_n 0, 1) := by decide +kernel
theorem dX13_borne_7 : decode cX13_borne 7 = .ok (.getfield 343, 3) := by decide +kernel
theorem dX13_borne_10 : decode cX13_borne 10 = .ok (.ifnull 7, 3) := by decide +kernel
theorem dX13_borne_13 : decode cX13_borne 13 = .ok (.iconst 1, 1) := by decide +kernel
theorem dX13_borne_14 : decode cX13_borne 14 = .ok (.goto 4, 3) := by decide +kernel
theorem dX13_borne_17 : decode cX13_borne 17 = .ok (.iconst 0, 1) := by decide +kernel
theorem dX13_borne_18 : decode cX13_borne 18 = .ok (.iload_n 1, 1) := by decide +kernel
theorem dX13_borne_19 : decode cX13_borne 19 = .ok (.invokevirtual 401, 3) := by decide +kernel
theorem dX13_borne_22 : decode cX13_borne 22 = .ok (.istore_n 2, 1) := by decide +kernel
theorem dX13_borne_23 : decode cX13_borne 23 = .ok (.iload_n 2, 1) := by decide +kernel
theorem dX13_borne_24 : decode cX13_borne 24 = .ok (.ifCond .le 9, 3) := by decide +kernel
theorem dX13_borne_27 : decode cX13_borne 27 = .ok (.aload_n 0, 1) := by decide +kernel
theorem dX13_borne_28 : decode cX13_borne 28 = .ok (.iload_n 2, 1) := by decide +kernel
theorem dX13_borne_29 : decode cX13_borne 29 = .ok (.invokevirtual 52, 3) := by decide +kernel
theorem dX13_borne_32 : decode cX13_borne 32 = .ok (.ireturn, 1) := by decide +kernel
theorem dX13_borne_33 : decode cX13_borne 33 = .ok (.aload_n 0, 1) := by decide +kernel
theorem dX13_borne_34 : decode cX13_borne 34 = .ok (.iload_n 1, 1) := by decide +kernel
theorem dX13_borne_35 : decode cX13_borne 35 = .ok (.invokevirtual 398, 3) := by decide +kernel
theorem dX13_borne_38 : decode cX13_borne 38 = .ok (.aload_n 0, 1) := by decide +kernel
theorem dX13_borne_39 : decode cX13_borne 39 = .ok (.aload_n 0, 1) := by decide +kernel
theorem dX13_borne_40 : decode cX13_borne 40 = .ok (.invokevirtual 421, 3) := by decide +kernel
theorem dX13_borne_43 : decode cX13_borne 43 = .ok (.invokevirtual 56, 3) := by decide +kernel
theorem dX13_borne_46 : decode cX13_borne 46 = .ok (.ireturn, 1) := by decide +kernel
theorem dX13_fallsIn_0 : decode cX13_fallsIn 0 = .ok (.aload_n 0, 1) := by decide +kernel
theorem dX13_fallsIn_1 : decode cX13_fallsIn 1 = .ok (.iconst 0, 1) := by decide +kernel
theorem dX13_fallsIn_2 : decode cX13_fallsIn 2 = .ok (.putfield 46, 3) := by decide +kernel
theorem dX13_fallsIn_5 : decode cX13_fallsIn 5 = .ok (.aload_n 0, 1) := by decide +kernel
theorem dX13_fallsIn_6 : decode cX13_fallsIn 6 = .ok (.iload_n 1, 1) := by decide +kernel
theorem dX13_fallsIn_7 : decode cX13_fallsIn 7 = .ok (.invokevirtual 424, 3) := by decide +kernel
theorem dX13_fallsIn_10 : decode cX13_fallsIn 10 = .ok (.ifCond .ne 9, 3) := by decide +kernel
theorem dX13_fallsIn_13 : decode cX13_fallsIn 13 = .ok (.aload_n 0, 1) := by decide +kernel
theorem dX13_fallsIn_14 : decode cX13_fallsIn 14 = .ok (.iconst 1, 1) := by decide +kernel
theorem dX13_fallsIn_15 : decode cX13_fallsIn 15 = .ok (.invokevirtual 52, 3) := by decide +kernel
theorem dX13_fallsIn_18 : decode cX13_fallsIn 18 = .ok (.ireturn, 1) := by decide +kernel
theorem dX13_fallsIn_19 : decode cX13_fallsIn 19 = .ok (.iconst 0, 1) := by decide +kernel
theorem dX13_fallsIn_20 : decode cX13_fallsIn 20 = .ok (.istore_n 2, 1) := by decide +kernel
theorem dX13_fallsIn_21 : decode cX13_fallsIn 21 = .ok (.iload_n 2, 1) := by decide +kernel
theorem dX13_fallsIn_22 : decode cX13_fallsIn 22 = .ok (.bipush 60, 2) := by decide +kernel
theorem dX13_fallsIn_24 : decode cX13_fallsIn 24 = .ok (.if_icmp .gt 31, 3) := by decide +kernel
theorem dX13_fallsIn_27 : decode cX13_fallsIn 27 = .ok (.aload_n 0, 1) := by decide +kernel
theorem dX13_fallsIn_28 : decode cX13_fallsIn 28 = .ok (.iload_n 2, 1) := by decide +kernel
theorem dX13_fallsIn_29 : decode cX13_fallsIn 29 = .ok (.invokevirtual 398, 3) := by decide +kernel
theorem dX13_fallsIn_32 : decode cX13_fallsIn 32 = .ok (.aload_n 0, 1) := by decide +kernel
theorem dX13_fallsIn_33 : decode cX13_fallsIn 33 = .ok (.invokevirtual 421, 3) := by decide +kernel
theorem dX13_fallsIn_36 : decode cX13_fallsIn 36 = .ok (.iload_n 1, 1) := by decide +kernel
theorem dX13_fallsIn_37 : decode cX13_fallsIn 37 = .ok (.invokestatic 277, 3) := by decide +kernel
theorem dX13_fallsIn_40 : decode cX13_fallsIn 40 = .ok (.ifCond .ne 9, 3) := by decide +kernel
theorem dX13_fallsIn_43 : decode cX13_fallsIn 43 = .ok (.aload_n 0, 1) := by decide +kernel
theorem dX13_fallsIn_44 : decode cX13_fallsIn 44 = .ok (.iload_n 2, 1) := by decide +kernel
theorem dX13_fallsIn_45 : decode cX13_fallsIn 45 = .ok (.invokevirtual 56, 3) := by decide +kernel
theorem dX13_fallsIn_48 : decode cX13_fallsIn 48 = .ok (.ireturn, 1) := by decide +kernel
theorem dX13_fallsIn_49 : decode cX13_fallsIn 49 = .ok (.iinc 2 1, 3) := by decide +kernel
theorem dX13_fallsIn_52 : decode cX13_fallsIn 52 = .ok (.goto (-31), 3) := by decide +kernel
theorem dX13_fallsIn_55 : decode cX13_fallsIn 55 = .ok (.aload_n 0, 1) := by decide +kernel
theorem dX13_fallsIn_56 : decode cX13_fallsIn 56 = .ok (.bipush (-2), 2) := by decide +kernel
theorem dX13_fallsIn_58 : decode cX13_fallsIn 58 = .ok (.invokevirtual 56, 3) := by decide +kernel
theorem dX13_fallsIn_61 : decode cX13_fallsIn 61 = .ok (.ireturn, 1) := by decide +kernel
theorem dX13_spare_0 : decode cX13_spare 0 = .ok (.aload_n 0, 1) := by decide +kernel
theorem dX13_spare_1 : decode cX13_spare 1 = .ok (.iconst 0, 1) := by decide +kernel
theorem dX13_spare_2 : decode cX13_spare 2 = .ok (.putfield 46, 3) := by decide +kernel
theorem dX13_spare_5 : decode cX13_spare 5 = .ok (.aload_n 0, 1) := by decide +kernel
theorem dX13_spare_6 : decode cX13_spare 6 = .ok (.iload_n 1, 1) := by decide +kernel
theorem dX13_spare_7 : decode cX13_spare 7 = .ok (.invokevirtual 424, 3) := by decide +kernel
theorem dX13_spare_10 : decode cX13_spare 10 = .ok (.ifCond .ne 12, 3) := by decide +kernel
theorem dX13_spare_13 : decode cX13_spare 13 = .ok (.aload_n 0, 1) := by decide +kernel
theorem dX13_spare_14 : decode cX13_spare 14 = .ok (.iconst 1, 1) := by decide +kernel
theorem dX13_spare_15 : decode cX13_spare 15 = .ok (.sipush (-1000), 3) := by decide +kernel
theorem dX13_spare_18 : decode cX13_spare 18 = .ok (.invokevirtual 427, 3) := by decide +kernel
theorem dX13_spare_21 : decode cX13_spare 21 = .ok (.ireturn, 1) := by decide +kernel
theorem dX13_spare_22 : decode cX13_spare 22 = .ok (.aload_n 0, 1) := by decide +kernel
theorem dX13_spare_23 : decode cX13_spare 23 = .ok (.iconst 0, 1) := by decide +kernel
theorem dX13_spare_24 : decode cX13_spare 24 = .ok (.invokevirtual 398, 3) := by decide +kernel
theorem dX13_spare_27 : decode cX13_spare 27 = .ok (.aload_n 0, 1) := by decide +kernel
theorem dX13_spare_28 : decode cX13_spare 28 = .ok (.aload_n 0, 1) := by decide +kernel
theorem dX13_spare_29 : decode cX13_spare 29 = .ok (.aload_n 0, 1) := by decide +kernel
theorem dX13_spare_30 : decode cX13_spare 30 = .ok (.getfield 343, 3) := by decide +kernel
theorem dX13_spare_33 : decode cX13_spare 33 = .ok (.getfield 290, 3) := by decide +kernel
theorem dX13_spare_36 : decode cX13_spare 36 = .ok (.iload_n 1, 1) := by decide +kernel
theorem dX13_spare_37 : decode cX13_spare 37 = .ok (.iaload, 1) := by decide +kernel
theorem dX13_spare_38 : decode cX13_spare 38 = .ok (.aload_n 0, 1) := by decide +kernel
theorem dX13_spare_39 : decode cX13_spare 39 = .ok (.getfield 343, 3) := by decide +kernel
theorem dX13_spare_42 : decode cX13_spare 42 = .ok (.getfield 293, 3) := by decide +kernel
theorem dX13_spare_45 : decode cX13_spare 45 = .ok (.iload_n 1, 1) := by decide +kernel
theorem dX13_spare_46 : decode cX13_spare 46 = .ok (.iaload, 1) := by decide +kernel
theorem dX13_spare_47 : decode cX13_spare 47 = .ok (.iconst 0, 1) := by decide +kernel
theorem dX13_spare_48 : decode cX13_spare 48 = .ok (.invokevirtual 411, 3) := by decide +kernel
theorem dX13_spare_51 : decode cX13_spare 51 = .ok (.aload_n 0, 1) := by decide +kernel
theorem dX13_spare_52 : decode cX13_spare 52 = .ok (.getfield 343, 3) := by decide +kernel
theorem dX13_spare_55 : decode cX13_spare 55 = .ok (.getfield 296, 3) := by decide +kernel
theorem dX13_spare_58 : decode cX13_spare 58 = .ok (.iload_n 1, 1) := by decide +kernel
theorem dX13_spare_59 : decode cX13_spare 59 = .ok (.iaload, 1) := by decide +kernel
theorem dX13_spare_60 : decode cX13_spare 60 = .ok (.isub, 1) := by decide +kernel
theorem dX13_spare_61 : decode cX13_spare 61 = .ok (.invokevirtual 56, 3) := by decide +kernel
theorem dX13_spare_64 : decode cX13_spare 64 = .ok (.ireturn, 1) := by decide +kernel
theorem dX13_costOf_0 : decode cX13_costOf 0 = .ok (.iconst 0, 1) := by decide +kernel
theorem dX13_costOf_1 : decode cX13_costOf 1 = .ok (.istore_n 2, 1) := by decide +kernel
theorem dX13_costOf_2 : decode cX13_costOf 2 = .ok (.iconst 0, 1) := by decide +kernel
theorem dX13_costOf_3 : decode cX13_costOf 3 = .ok (.istore_n 3, 1) := by decide +kernel
theorem dX13_costOf_4 : decode cX13_costOf 4 = .ok (.iload_n 3, 1) := by decide +kernel
theorem dX13_costOf_5 : decode cX13_costOf 5 = .ok (.aload_n 0, 1) := by decide +kernel
theorem dX13_costOf_6 : decode cX13_costOf 6 = .ok (.getfield 343, 3) := by decide +kernel
theorem dX13_costOf_9 : decode cX13_costOf 9 = .ok (.getfield 298, 3) := by decide +kernel
theorem dX13_costOf_12 : decode cX13_costOf 12 = .ok (.if_icmp .ge 33, 3) := by decide +kernel
theorem dX13_costOf_15 : decode cX13_costOf 15 = .ok (.iload_n 2, 1) := by decide +kernel
theorem dX13_costOf_16 : decode cX13_costOf 16 = .ok (.iload_n 1, 1) := by decide +kernel
theorem dX13_costOf_17 : decode cX13_costOf 17 = .ok (.iload_n 3, 1) := by decide +kernel
theorem dX13_costOf_18 : decode cX13_costOf 18 = .ok (.invokestatic 277, 3) := by decide +kernel
theorem dX13_costOf_21 : decode cX13_costOf 21 = .ok (.ifCond .eq 15, 3) := by decide +kernel
theorem dX13_costOf_24 : decode cX13_costOf 24 = .ok (.aload_n 0, 1) := by decide +kernel
theorem dX13_costOf_25 : decode cX13_costOf 25 = .ok (.getfield 343, 3) := by decide +kernel
theorem dX13_costOf_28 : decode cX13_costOf 28 = .ok (.getfield 311, 3) := by decide +kernel
theorem dX13_costOf_31 : decode cX13_costOf 31 = .ok (.iload_n 3, 1) := by decide +kernel
theorem dX13_costOf_32 : decode cX13_costOf 32 = .ok (.iaload, 1) := by decide +kernel
theorem dX13_costOf_33 : decode cX13_costOf 33 = .ok (.goto 4, 3) := by decide +kernel
theorem dX13_costOf_36 : decode cX13_costOf 36 = .ok (.iconst 0, 1) := by decide +kernel
theorem dX13_costOf_37 : decode cX13_costOf 37 = .ok (.iadd, 1) := by decide +kernel
theorem dX13_costOf_38 : decode cX13_costOf 38 = .ok (.istore_n 2, 1) := by decide +kernel
theorem dX13_costOf_39 : decode cX13_costOf 39 = .ok (.iinc 3 1, 3) := by decide +kernel
theorem dX13_costOf_42 : decode cX13_costOf 42 = .ok (.goto (-38), 3) := by decide +kernel
theorem dX13_costOf_45 : decode cX13_costOf 45 = .ok (.iload_n 2, 1) := by decide +kernel
theorem dX13_costOf_46 : decode cX13_costOf 46 = .ok (.ireturn, 1) := by decide +kernel
theorem dX13_mending_0 : decode cX13_mending 0 = .ok (.bipush (-2), 2) := by decide +kernel
theorem dX13_mending_2 : decode cX13_mending 2 = .ok (.istore_n 1, 1) := by decide +kernel
theorem dX13_mending_3 : decode cX13_mending 3 = .ok (.iconst 0, 1) := by decide +kernel
theorem dX13_mending_4 : decode cX13_mending 4 = .ok (.istore_n 2, 1) := by decide +kernel
theorem dX13_mending_5 : decode cX13_mending 5 = .ok (.iload_n 2, 1) := by decide +kernel
theorem dX13_mending_6 : decode cX13_mending 6 = .ok (.iconst 1, 1) := by decide +kernel
theorem dX13_mending_7 : decode cX13_mending 7 = .ok (.aload_n 0, 1) := by decide +kernel
theorem dX13_mending_8 : decode cX13_mending 8 = .ok (.getfield 343, 3) := by decide +kernel
theorem dX13_mending_11 : decode cX13_mending 11 = .ok (.getfield 298, 3) := by decide +kernel
theorem dX13_mending_14 : decode cX13_mending 14 = .ok (.ishl, 1) := by decide +kernel
theorem dX13_mending_15 : decode cX13_mending 15 = .ok (.if_icmp .ge 60, 3) := by decide +kernel
theorem dX13_mending_18 : decode cX13_mending 18 = .ok (.iload_n 1, 1) := by decide +kernel
theorem dX13_mending_19 : decode cX13_mending 19 = .ok (.bipush (-2), 2) := by decide +kernel
theorem dX13_mending_21 : decode cX13_mending 21 = .ok (.if_icmp .eq 19, 3) := by decide +kernel
theorem dX13_mending_24 : decode cX13_mending 24 = .ok (.aload_n 0, 1) := by decide +kernel
theorem dX13_mending_25 : decode cX13_mending 25 = .ok (.iload_n 2, 1) := by decide +kernel
theorem dX13_mending_26 : decode cX13_mending 26 = .ok (.invokevirtual 430, 3) := by decide +kernel
theorem dX13_mending_29 : decode cX13_mending 29 = .ok (.aload_n 0, 1) := by decide +kernel
theorem dX13_mending_30 : decode cX13_mending 30 = .ok (.iload_n 1, 1) := by decide +kernel
theorem dX13_mending_31 : decode cX13_mending 31 = .ok (.invokevirtual 430, 3) := by decide +kernel
theorem dX13_mending_34 : decode cX13_mending 34 = .ok (.if_icmp .lt 6, 3) := by decide +kernel
theorem dX13_mending_37 : decode cX13_mending 37 = .ok (.goto 32, 3) := by decide +kernel
theorem dX13_mending_40 : decode cX13_mending 40 = .ok (.aload_n 0, 1) := by decide +kernel
theorem dX13_mending_41 : decode cX13_mending 41 = .ok (.iconst 0, 1) := by decide +kernel
theorem dX13_mending_42 : decode cX13_mending 42 = .ok (.invokevirtual 398, 3) := by decide +kernel
theorem dX13_mending_45 : decode cX13_mending 45 = .ok (.aload_n 0, 1) := by decide +kernel
theorem dX13_mending_46 : decode cX13_mending 46 = .ok (.iload_n 2, 1) := by decide +kernel
theorem dX13_mending_47 : decode cX13_mending 47 = .ok (.invokevirtual 433, 3) := by decide +kernel
theorem dX13_mending_50 : decode cX13_mending 50 = .ok (.aload_n 0, 1) := by decide +kernel
theorem dX13_mending_51 : decode cX13_mending 51 = .ok (.invokevirtual 421, 3) := by decide +kernel
theorem dX13_mending_54 : decode cX13_mending 54 = .ok (.invokestatic 415, 3) := by decide +kernel
theorem dX13_mending_57 : decode cX13_mending 57 = .ok (.aload_n 0, 1) := by decide +kernel
theorem dX13_mending_58 : decode cX13_mending 58 = .ok (.getfield 343, 3) := by decide +kernel
theorem dX13_mending_61 : decode cX13_mending 61 = .ok (.getfield 287, 3) := by decide +kernel
theorem dX13_mending_64 : decode cX13_mending 64 = .ok (.if_icmp .ne 5, 3) := by decide +kernel
theorem dX13_mending_67 : decode cX13_mending 67 = .ok (.iload_n 2, 1) := by decide +kernel
theorem dX13_mending_68 : decode cX13_mending 68 = .ok (.istore_n 1, 1) := by decide +kernel
theorem dX13_mending_69 : decode cX13_mending 69 = .ok (.iinc 2 1, 3) := by decide +kernel
theorem dX13_mending_72 : decode cX13_mending 72 = .ok (.goto (-67), 3) := by decide +kernel
theorem dX13_mending_75 : decode cX13_mending 75 = .ok (.iload_n 1, 1) := by decide +kernel
theorem dX13_mending_76 : decode cX13_mending 76 = .ok (.ireturn, 1) := by decide +kernel
theorem dX13_mend_0 : decode cX13_mend 0 = .ok (.aload_n 0, 1) := by decide +kernel
theorem dX13_mend_1 : decode cX13_mend 1 = .ok (.iconst 0, 1) := by decide +kernel
theorem dX13_mend_2 : decode cX13_mend 2 = .ok (.putfield 46, 3) := by decide +kernel
theorem dX13_mend_5 : decode cX13_mend 5 = .ok (.aload_n 0, 1) := by decide +kernel
theorem dX13_mend_6 : decode cX13_mend 6 = .ok (.getfield 343, 3) := by decide +kernel
theorem dX13_mend_9 : decode cX13_mend 9 = .ok (.ifnonnull 11, 3) := by decide +kernel
theorem dX13_mend_12 : decode cX13_mend 12 = .ok (.aload_n 0, 1) := by decide +kernel
theorem dX13_mend_13 : decode cX13_mend 13 = .ok (.iconst 1, 1) := by decide +kernel
theorem dX13_mend_14 : decode cX13_mend 14 = .ok (.invokevirtual 52, 3) := by decide +kernel
theorem dX13_mend_17 : decode cX13_mend 17 = .ok (.goto 11, 3) := by decide +kernel
theorem dX13_mend_20 : decode cX13_mend 20 = .ok (.aload_n 0, 1) := by decide +kernel
theorem dX13_mend_21 : decode cX13_mend 21 = .ok (.aload_n 0, 1) := by decide +kernel
theorem dX13_mend_22 : decode cX13_mend 22 = .ok (.invokevirtual 436, 3) := by decide +kernel
theorem dX13_mend_25 : decode cX13_mend 25 = .ok (.invokevirtual 56, 3) := by decide +kernel
theorem dX13_mend_28 : decode cX13_mend 28 = .ok (.ireturn, 1) := by decide +kernel
theorem dX13_mendCost_0 : decode cX13_mendCost 0 = .ok (.aload_n 0, 1) := by decide +kernel
theorem dX13_mendCost_1 : decode cX13_mendCost 1 = .ok (.iconst 0, 1) := by decide +kernel
theorem dX13_mendCost_2 : decode cX13_mendCost 2 = .ok (.putfield 46, 3) := by decide +kernel
theorem dX13_mendCost_5 : decode cX13_mendCost 5 = .ok (.aload_n 0, 1) := by decide +kernel
theorem dX13_mendCost_6 : decode cX13_mendCost 6 = .ok (.getfield 343, 3) := by decide +kernel
theorem dX13_mendCost_9 : decode cX13_mendCost 9 = .ok (.ifnonnull 9, 3) := by decide +kernel
theorem dX13_mendCost_12 : decode cX13_mendCost 12 = .ok (.aload_n 0, 1) := by decide +kernel
theorem dX13_mendCost_13 : decode cX13_mendCost 13 = .ok (.iconst 1, 1) := by decide +kernel
theorem dX13_mendCost_14 : decode cX13_mendCost 14 = .ok (.invokevirtual 52, 3) := by decide +kernel
theorem dX13_mendCost_17 : decode cX13_mendCost 17 = .ok (.ireturn, 1) := by decide +kernel
theorem dX13_mendCost_18 : decode cX13_mendCost 18 = .ok (.aload_n 0, 1) := by decide +kernel
theorem dX13_mendCost_19 : decode cX13_mendCost 19 = .ok (.invokevirtual 436, 3) := by decide +kernel
theorem dX13_mendCost_22 : decode cX13_mendCost 22 = .ok (.istore_n 1, 1) := by decide +kernel
theorem dX13_mendCost_23 : decode cX13_mendCost 23 = .ok (.aload_n 0, 1) := by decide +kernel
theorem dX13_mendCost_24 : decode cX13_mendCost 24 = .ok (.iload_n 1, 1) := by decide +kernel
theorem dX13_mendCost_25 : decode cX13_mendCost 25 = .ok (.bipush (-2), 2) := by decide +kernel
theorem dX13_mendCost_27 : decode cX13_mendCost 27 = .ok (.if_icmp .ne 8, 3) := by decide +kernel
theorem dX13_mendCost_30 : decode cX13_mendCost 30 = .ok (.bipush (-2), 2) := by decide +kernel
theorem dX13_mendCost_32 : decode cX13_mendCost 32 = .ok (.goto 8, 3) := by decide +kernel
theorem dX13_mendCost_35 : decode cX13_mendCost 35 = .ok (.aload_n 0, 1) := by decide +kernel
theorem dX13_mendCost_36 : decode cX13_mendCost 36 = .ok (.iload_n 1, 1) := by decide +kernel
theorem dX13_mendCost_37 : decode cX13_mendCost 37 = .ok (.invokevirtual 430, 3) := by decide +kernel
theorem dX13_mendCost_40 : decode cX13_mendCost 40 = .ok (.invokevirtual 56, 3) := by decide +kernel
theorem dX13_mendCost_43 : decode cX13_mendCost 43 = .ok (.ireturn, 1) := by decide +kernel
theorem dX13_bestOffer_0 : decode cX13_bestOffer 0 = .ok (.aload_n 0, 1) := by decide +kernel
theorem dX13_bestOffer_1 : decode cX13_bestOffer 1 = .ok (.iconst 0, 1) := by decide +kernel
theorem dX13_bestOffer_2 : decode cX13_bestOffer 2 = .ok (.putfield 46, 3) := by decide +kernel
theorem dX13_bestOffer_5 : decode cX13_bestOffer 5 = .ok (.aload_n 0, 1) := by decide +kernel
theorem dX13_bestOffer_6 : decode cX13_bestOffer 6 = .ok (.getfield 343, 3) := by decide +kernel
theorem dX13_bestOffer_9 : decode cX13_bestOffer 9 = .ok (.ifnonnull 9, 3) := by decide +kernel
theorem dX13_bestOffer_12 : decode cX13_bestOffer 12 = .ok (.aload_n 0, 1) := by decide +kernel
theorem dX13_bestOffer_13 : decode cX13_bestOffer 13 = .ok (.iconst 1, 1) := by decide +kernel
theorem dX13_bestOffer_14 : decode cX13_bestOffer 14 = .ok (.invokevirtual 52, 3) := by decide +kernel
theorem dX13_bestOffer_17 : decode cX13_bestOffer 17 = .ok (.ireturn, 1) := by decide +kernel
theorem dX13_bestOffer_18 : decode cX13_bestOffer 18 = .ok (.aload_n 0, 1) := by decide +kernel
theorem dX13_bestOffer_19 : decode cX13_bestOffer 19 = .ok (.iconst 0, 1) := by decide +kernel
theorem dX13_bestOffer_20 : decode cX13_bestOffer 20 = .ok (.invokevirtual 398, 3) := by decide +kernel
theorem dX13_bestOffer_23 : decode cX13_bestOffer 23 = .ok (.bipush (-2), 2) := by decide +kernel
theorem dX13_bestOffer_25 : decode cX13_bestOffer 25 = .ok (.istore_n 1, 1) := by decide +kernel
theorem dX13_bestOffer_26 : decode cX13_bestOffer 26 = .ok (.aload_n 0, 1) := by decide +kernel
theorem dX13_bestOffer_27 : decode cX13_bestOffer 27 = .ok (.invokevirtual 421, 3) := by decide +kernel
theorem dX13_bestOffer_30 : decode cX13_bestOffer 30 = .ok (.invokestatic 415, 3) := by decide +kernel
theorem dX13_bestOffer_33 : decode cX13_bestOffer 33 = .ok (.istore_n 2, 1) := by decide +kernel
theorem dX13_bestOffer_34 : decode cX13_bestOffer 34 = .ok (.iconst 0, 1) := by decide +kernel
theorem dX13_bestOffer_35 : decode cX13_bestOffer 35 = .ok (.istore_n 3, 1) := by decide +kernel
theorem dX13_bestOffer_36 : decode cX13_bestOffer 36 = .ok (.iload_n 3, 1) := by decide +kernel
theorem dX13_bestOffer_37 : decode cX13_bestOffer 37 = .ok (.aload_n 0, 1) := by decide +kernel
theorem dX13_bestOffer_38 : decode cX13_bestOffer 38 = .ok (.getfield 343, 3) := by decide +kernel
theorem dX13_bestOffer_41 : decode cX13_bestOffer 41 = .ok (.getfield 298, 3) := by decide +kernel
theorem dX13_bestOffer_44 : decode cX13_bestOffer 44 = .ok (.if_icmp .ge 44, 3) := by decide +kernel
theorem dX13_bestOffer_47 : decode cX13_bestOffer 47 = .ok (.aload_n 0, 1) := by decide +kernel
theorem dX13_bestOffer_48 : decode cX13_bestOffer 48 = .ok (.iconst 0, 1) := by decide +kernel
theorem dX13_bestOffer_49 : decode cX13_bestOffer 49 = .ok (.invokevirtual 398, 3) := by decide +kernel
theorem dX13_bestOffer_52 : decode cX13_bestOffer 52 = .ok (.aload_n 0, 1) := by decide +kernel
theorem dX13_bestOffer_53 : decode cX13_bestOffer 53 = .ok (.iconst 1, 1) := by decide +kernel
theorem dX13_bestOffer_54 : decode cX13_bestOffer 54 = .ok (.iload_n 3, 1) := by decide +kernel
theorem dX13_bestOffer_55 : decode cX13_bestOffer 55 = .ok (.ishl, 1) := by decide +kernel
theorem dX13_bestOffer_56 : decode cX13_bestOffer 56 = .ok (.invokevirtual 433, 3) := by decide +kernel
theorem dX13_bestOffer_59 : decode cX13_bestOffer 59 = .ok (.aload_n 0, 1) := by decide +kernel
theorem dX13_bestOffer_60 : decode cX13_bestOffer 60 = .ok (.invokevirtual 421, 3) := by decide +kernel
theorem dX13_bestOffer_63 : decode cX13_bestOffer 63 = .ok (.invokestatic 415, 3) := by decide +kernel
theorem dX13_bestOffer_66 : decode cX13_bestOffer 66 = .ok (.istore 4, 2) := by decide +kernel
theorem dX13_bestOffer_68 : decode cX13_bestOffer 68 = .ok (.iload 4, 2) := by decide +kernel
theorem dX13_bestOffer_70 : decode cX13_bestOffer 70 = .ok (.iload_n 2, 1) := by decide +kernel
theorem dX13_bestOffer_71 : decode cX13_bestOffer 71 = .ok (.if_icmp .gt 6, 3) := by decide +kernel
theorem dX13_bestOffer_74 : decode cX13_bestOffer 74 = .ok (.goto 8, 3) := by decide +kernel
theorem dX13_bestOffer_77 : decode cX13_bestOffer 77 = .ok (.iload 4, 2) := by decide +kernel
theorem dX13_bestOffer_79 : decode cX13_bestOffer 79 = .ok (.istore_n 2, 1) := by decide +kernel
theorem dX13_bestOffer_80 : decode cX13_bestOffer 80 = .ok (.iload_n 3, 1) := by decide +kernel
theorem dX13_bestOffer_81 : decode cX13_bestOffer 81 = .ok (.istore_n 1, 1) := by decide +kernel
theorem dX13_bestOffer_82 : decode cX13_bestOffer 82 = .ok (.iinc 3 1, 3) := by decide +kernel
theorem dX13_bestOffer_85 : decode cX13_bestOffer 85 = .ok (.goto (-49), 3) := by decide +kernel
theorem dX13_bestOffer_88 : decode cX13_bestOffer 88 = .ok (.aload_n 0, 1) := by decide +kernel
theorem dX13_bestOffer_89 : decode cX13_bestOffer 89 = .ok (.iload_n 1, 1) := by decide +kernel
theorem dX13_bestOffer_90 : decode cX13_bestOffer 90 = .ok (.invokevirtual 56, 3) := by decide +kernel
theorem dX13_bestOffer_93 : decode cX13_bestOffer 93 = .ok (.ireturn, 1) := by decide +kernel
theorem dX13_clashing_0 : decode cX13_clashing 0 = .ok (.iconst 0, 1) := by decide +kernel
theorem dX13_clashing_1 : decode cX13_clashing 1 = .ok (.istore_n 2, 1) := by decide +kernel
theorem dX13_clashing_2 : decode cX13_clashing 2 = .ok (.iconst 0, 1) := by decide +kernel
theorem dX13_clashing_3 : decode cX13_clashing 3 = .ok (.istore_n 3, 1) := by decide +kernel
theorem dX13_clashing_4 : decode cX13_clashing 4 = .ok (.iload_n 3, 1) := by decide +kernel
theorem dX13_clashing_5 : decode cX13_clashing 5 = .ok (.aload_n 0, 1) := by decide +kernel
theorem dX13_clashing_6 : decode cX13_clashing 6 = .ok (.getfield 343, 3) := by decide +kernel
theorem dX13_clashing_9 : decode cX13_clashing 9 = .ok (.getfield 271, 3) := by decide +kernel
theorem dX13_clashing_12 : decode cX13_clashing 12 = .ok (.if_icmp .ge 49, 3) := by decide +kernel
theorem dX13_clashing_15 : decode cX13_clashing 15 = .ok (.iload_n 2, 1) := by decide +kernel
theorem dX13_clashing_16 : decode cX13_clashing 16 = .ok (.iload_n 1, 1) := by decide +kernel
theorem dX13_clashing_17 : decode cX13_clashing 17 = .ok (.aload_n 0, 1) := by decide +kernel
theorem dX13_clashing_18 : decode cX13_clashing 18 = .ok (.getfield 343, 3) := by decide +kernel
theorem dX13_clashing_21 : decode cX13_clashing 21 = .ok (.getfield 281, 3) := by decide +kernel
theorem dX13_clashing_24 : decode cX13_clashing 24 = .ok (.iload_n 3, 1) := by decide +kernel
theorem dX13_clashing_25 : decode cX13_clashing 25 = .ok (.iaload, 1) := by decide +kernel
theorem dX13_clashing_26 : decode cX13_clashing 26 = .ok (.invokestatic 277, 3) := by decide +kernel
theorem dX13_clashing_29 : decode cX13_clashing 29 = .ok (.ifCond .eq 23, 3) := by decide +kernel
theorem dX13_clashing_32 : decode cX13_clashing 32 = .ok (.iload_n 1, 1) := by decide +kernel
theorem dX13_clashing_33 : decode cX13_clashing 33 = .ok (.aload_n 0, 1) := by decide +kernel
theorem dX13_clashing_34 : decode cX13_clashing 34 = .ok (.getfield 343, 3) := by decide +kernel
theorem dX13_clashing_37 : decode cX13_clashing 37 = .ok (.getfield 284, 3) := by decide +kernel
theorem dX13_clashing_40 : decode cX13_clashing 40 = .ok (.iload_n 3, 1) := by decide +kernel
theorem dX13_clashing_41 : decode cX13_clashing 41 = .ok (.iaload, 1) := by decide +kernel
theorem dX13_clashing_42 : decode cX13_clashing 42 = .ok (.invokestatic 277, 3) := by decide +kernel
theorem dX13_clashing_45 : decode cX13_clashing 45 = .ok (.ifCond .eq 7, 3) := by decide +kernel
theorem dX13_clashing_48 : decode cX13_clashing 48 = .ok (.iconst 1, 1) := by decide +kernel
theorem dX13_clashing_49 : decode cX13_clashing 49 = .ok (.goto 4, 3) := by decide +kernel
theorem dX13_clashing_52 : decode cX13_clashing 52 = .ok (.iconst 0, 1) := by decide +kernel
theorem dX13_clashing_53 : decode cX13_clashing 53 = .ok (.iadd, 1) := by decide +kernel
theorem dX13_clashing_54 : decode cX13_clashing 54 = .ok (.istore_n 2, 1) := by decide +kernel
theorem dX13_clashing_55 : decode cX13_clashing 55 = .ok (.iinc 3 1, 3) := by decide +kernel
theorem dX13_clashing_58 : decode cX13_clashing 58 = .ok (.goto (-54), 3) := by decide +kernel
theorem dX13_clashing_61 : decode cX13_clashing 61 = .ok (.iload_n 2, 1) := by decide +kernel
theorem dX13_clashing_62 : decode cX13_clashing 62 = .ok (.ireturn, 1) := by decide +kernel
theorem dX13_clashes_0 : decode cX13_clashes 0 = .ok (.aload_n 0, 1) := by decide +kernel
theorem dX13_clashes_1 : decode cX13_clashes 1 = .ok (.iconst 0, 1) := by decide +kernel
theorem dX13_clashes_2 : decode cX13_clashes 2 = .ok (.putfield 46, 3) := by decide +kernel
theorem dX13_clashes_5 : decode cX13_clashes 5 = .ok (.aload_n 0, 1) := by decide +kernel
theorem dX13_clashes_6 : decode cX13_clashes 6 = .ok (.aload_n 0, 1) := by decide +kernel
theorem dX13_clashes_7 : decode cX13_clashes 7 = .ok (.getfield 343, 3) := by decide +kernel
theorem dX13_clashes_10 : decode cX13_clashes 10 = .ok (.ifnull 7, 3) := by decide +kernel
theorem dX13_clashes_13 : decode cX13_clashes 13 = .ok (.iconst 1, 1) := by decide +kernel
theorem dX13_clashes_14 : decode cX13_clashes 14 = .ok (.goto 4, 3) := by decide +kernel
theorem dX13_clashes_17 : decode cX13_clashes 17 = .ok (.iconst 0, 1) := by decide +kernel
theorem dX13_clashes_18 : decode cX13_clashes 18 = .ok (.iload_n 1, 1) := by decide +kernel
theorem dX13_clashes_19 : decode cX13_clashes 19 = .ok (.invokevirtual 401, 3) := by decide +kernel
theorem dX13_clashes_22 : decode cX13_clashes 22 = .ok (.istore_n 2, 1) := by decide +kernel
theorem dX13_clashes_23 : decode cX13_clashes 23 = .ok (.iload_n 2, 1) := by decide +kernel
theorem dX13_clashes_24 : decode cX13_clashes 24 = .ok (.ifCond .le 9, 3) := by decide +kernel
theorem dX13_clashes_27 : decode cX13_clashes 27 = .ok (.aload_n 0, 1) := by decide +kernel
theorem dX13_clashes_28 : decode cX13_clashes 28 = .ok (.iload_n 2, 1) := by decide +kernel
theorem dX13_clashes_29 : decode cX13_clashes 29 = .ok (.invokevirtual 52, 3) := by decide +kernel
theorem dX13_clashes_32 : decode cX13_clashes 32 = .ok (.ireturn, 1) := by decide +kernel
theorem dX13_clashes_33 : decode cX13_clashes 33 = .ok (.aload_n 0, 1) := by decide +kernel
theorem dX13_clashes_34 : decode cX13_clashes 34 = .ok (.iload_n 1, 1) := by decide +kernel
theorem dX13_clashes_35 : decode cX13_clashes 35 = .ok (.invokevirtual 398, 3) := by decide +kernel
theorem dX13_clashes_38 : decode cX13_clashes 38 = .ok (.aload_n 0, 1) := by decide +kernel
theorem dX13_clashes_39 : decode cX13_clashes 39 = .ok (.aload_n 0, 1) := by decide +kernel
theorem dX13_clashes_40 : decode cX13_clashes 40 = .ok (.aload_n 0, 1) := by decide +kernel
theorem dX13_clashes_41 : decode cX13_clashes 41 = .ok (.invokevirtual 405, 3) := by decide +kernel
theorem dX13_clashes_44 : decode cX13_clashes 44 = .ok (.invokevirtual 439, 3) := by decide +kernel
theorem dX13_clashes_47 : decode cX13_clashes 47 = .ok (.invokevirtual 56, 3) := by decide +kernel
theorem dX13_clashes_50 : decode cX13_clashes 50 = .ok (.ireturn, 1) := by decide +kernel
theorem dX13_strengthOf_0 : decode cX13_strengthOf 0 = .ok (.iconst 0, 1) := by decide +kernel
theorem dX13_strengthOf_1 : decode cX13_strengthOf 1 = .ok (.istore_n 2, 1) := by decide +kernel
theorem dX13_strengthOf_2 : decode cX13_strengthOf 2 = .ok (.iconst 0, 1) := by decide +kernel
theorem dX13_strengthOf_3 : decode cX13_strengthOf 3 = .ok (.istore_n 3, 1) := by decide +kernel
theorem dX13_strengthOf_4 : decode cX13_strengthOf 4 = .ok (.iload_n 3, 1) := by decide +kernel
theorem dX13_strengthOf_5 : decode cX13_strengthOf 5 = .ok (.aload_n 0, 1) := by decide +kernel
theorem dX13_strengthOf_6 : decode cX13_strengthOf 6 = .ok (.getfield 360, 3) := by decide +kernel
theorem dX13_strengthOf_9 : decode cX13_strengthOf 9 = .ok (.if_icmp .ge 30, 3) := by decide +kernel
theorem dX13_strengthOf_12 : decode cX13_strengthOf 12 = .ok (.iload_n 2, 1) := by decide +kernel
theorem dX13_strengthOf_13 : decode cX13_strengthOf 13 = .ok (.iload_n 1, 1) := by decide +kernel
theorem dX13_strengthOf_14 : decode cX13_strengthOf 14 = .ok (.iload_n 3, 1) := by decide +kernel
theorem dX13_strengthOf_15 : decode cX13_strengthOf 15 = .ok (.invokestatic 277, 3) := by decide +kernel
theorem dX13_strengthOf_18 : decode cX13_strengthOf 18 = .ok (.ifCond .eq 12, 3) := by decide +kernel
theorem dX13_strengthOf_21 : decode cX13_strengthOf 21 = .ok (.aload_n 0, 1) := by decide +kernel
theorem dX13_strengthOf_22 : decode cX13_strengthOf 22 = .ok (.getfield 36, 3) := by decide +kernel
theorem dX13_strengthOf_25 : decode cX13_strengthOf 25 = .ok (.iload_n 3, 1) := by decide +kernel
theorem dX13_strengthOf_26 : decode cX13_strengthOf 26 = .ok (.iaload, 1) := by decide +kernel
theorem dX13_strengthOf_27 : decode cX13_strengthOf 27 = .ok (.goto 4, 3) := by decide +kernel
theorem dX13_strengthOf_30 : decode cX13_strengthOf 30 = .ok (.iconst 0, 1) := by decide +kernel
theorem dX13_strengthOf_31 : decode cX13_strengthOf 31 = .ok (.iadd, 1) := by decide +kernel
theorem dX13_strengthOf_32 : decode cX13_strengthOf 32 = .ok (.istore_n 2, 1) := by decide +kernel
theorem dX13_strengthOf_33 : decode cX13_strengthOf 33 = .ok (.iinc 3 1, 3) := by decide +kernel
theorem dX13_strengthOf_36 : decode cX13_strengthOf 36 = .ok (.goto (-32), 3) := by decide +kernel
theorem dX13_strengthOf_39 : decode cX13_strengthOf 39 = .ok (.iload_n 2, 1) := by decide +kernel
theorem dX13_strengthOf_40 : decode cX13_strengthOf 40 = .ok (.ireturn, 1) := by decide +kernel
theorem dX13_breaking_0 : decode cX13_breaking 0 = .ok (.aload_n 0, 1) := by decide +kernel
theorem dX13_breaking_1 : decode cX13_breaking 1 = .ok (.iconst 0, 1) := by decide +kernel
theorem dX13_breaking_2 : decode cX13_breaking 2 = .ok (.invokevirtual 398, 3) := by decide +kernel
theorem dX13_breaking_5 : decode cX13_breaking 5 = .ok (.aload_n 0, 1) := by decide +kernel
theorem dX13_breaking_6 : decode cX13_breaking 6 = .ok (.invokevirtual 405, 3) := by decide +kernel
theorem dX13_breaking_9 : decode cX13_breaking 9 = .ok (.istore_n 2, 1) := by decide +kernel
theorem dX13_breaking_10 : decode cX13_breaking 10 = .ok (.iload_n 2, 1) := by decide +kernel
theorem dX13_breaking_11 : decode cX13_breaking 11 = .ok (.istore_n 3, 1) := by decide +kernel
theorem dX13_breaking_12 : decode cX13_breaking 12 = .ok (.iconst 0, 1) := by decide +kernel
theorem dX13_breaking_13 : decode cX13_breaking 13 = .ok (.istore 4, 2) := by decide +kernel
theorem dX13_breaking_15 : decode cX13_breaking 15 = .ok (.iload 4, 2) := by decide +kernel
theorem dX13_breaking_17 : decode cX13_breaking 17 = .ok (.iload_n 2, 1) := by decide +kernel
theorem dX13_breaking_18 : decode cX13_breaking 18 = .ok (.if_icmp .gt 70, 3) := by decide +kernel
theorem dX13_breaking_21 : decode cX13_breaking 21 = .ok (.iload 4, 2) := by decide +kernel
theorem dX13_breaking_23 : decode cX13_breaking 23 = .ok (.iload_n 2, 1) := by decide +kernel
theorem dX13_breaking_24 : decode cX13_breaking 24 = .ok (.iconst (-1), 1) := by decide +kernel
theorem dX13_breaking_25 : decode cX13_breaking 25 = .ok (.ixor, 1) := by decide +kernel
theorem dX13_breaking_26 : decode cX13_breaking 26 = .ok (.iand, 1) := by decide +kernel
theorem dX13_breaking_27 : decode cX13_breaking 27 = .ok (.ifCond .ne 55, 3) := by decide +kernel
theorem dX13_breaking_30 : decode cX13_breaking 30 = .ok (.aload_n 0, 1) := by decide +kernel
theorem dX13_breaking_31 : decode cX13_breaking 31 = .ok (.iload_n 2, 1) := by decide +kernel
theorem dX13_breaking_32 : decode cX13_breaking 32 = .ok (.iload 4, 2) := by decide +kernel
theorem dX13_breaking_34 : decode cX13_breaking 34 = .ok (.iconst (-1), 1) := by decide +kernel
theorem dX13_breaking_35 : decode cX13_breaking 35 = .ok (.ixor, 1) := by decide +kernel
theorem dX13_breaking_36 : decode cX13_breaking 36 = .ok (.iand, 1) := by decide +kernel
theorem dX13_breaking_37 : decode cX13_breaking 37 = .ok (.invokevirtual 439, 3) := by decide +kernel
theorem dX13_breaking_40 : decode cX13_breaking 40 = .ok (.ifCond .le 6, 3) := by decide +kernel
theorem dX13_breaking_43 : decode cX13_breaking 43 = .ok (.goto 39, 3) := by decide +kernel
theorem dX13_breaking_46 : decode cX13_breaking 46 = .ok (.iload_n 1, 1) := by decide +kernel
theorem dX13_breaking_47 : decode cX13_breaking 47 = .ok (.ifCond .eq 18, 3) := by decide +kernel
theorem dX13_breaking_50 : decode cX13_breaking 50 = .ok (.iload 4, 2) := by decide +kernel
theorem dX13_breaking_52 : decode cX13_breaking 52 = .ok (.invokestatic 415, 3) := by decide +kernel
theorem dX13_breaking_55 : decode cX13_breaking 55 = .ok (.iload_n 3, 1) := by decide +kernel
theorem dX13_breaking_56 : decode cX13_breaking 56 = .ok (.invokestatic 415, 3) := by decide +kernel
theorem dX13_breaking_59 : decode cX13_breaking 59 = .ok (.if_icmp .ge 23, 3) := by decide +kernel
theorem dX13_breaking_62 : decode cX13_breaking 62 = .ok (.goto 17, 3) := by decide +kernel
theorem dX13_breaking_65 : decode cX13_breaking 65 = .ok (.aload_n 0, 1) := by decide +kernel
theorem dX13_breaking_66 : decode cX13_breaking 66 = .ok (.iload 4, 2) := by decide +kernel
theorem dX13_breaking_68 : decode cX13_breaking 68 = .ok (.invokevirtual 442, 3) := by decide +kernel
theorem dX13_breaking_71 : decode cX13_breaking 71 = .ok (.aload_n 0, 1) := by decide +kernel
theorem dX13_breaking_72 : decode cX13_breaking 72 = .ok (.iload_n 3, 1) := by decide +kernel
theorem dX13_breaking_73 : decode cX13_breaking 73 = .ok (.invokevirtual 442, 3) := by decide +kernel
theorem dX13_breaking_76 : decode cX13_breaking 76 = .ok (.if_icmp .ge 6, 3) := by decide +kernel
theorem dX13_breaking_79 : decode cX13_breaking 79 = .ok (.iload 4, 2) := by decide +kernel
theorem dX13_breaking_81 : decode cX13_breaking 81 = .ok (.istore_n 3, 1) := by decide +kernel
theorem dX13_breaking_82 : decode cX13_breaking 82 = .ok (.iinc 4 1, 3) := by decide +kernel
theorem dX13_breaking_85 : decode cX13_breaking 85 = .ok (.goto (-70), 3) := by decide +kernel
theorem dX13_breaking_88 : decode cX13_breaking 88 = .ok (.iload_n 3, 1) := by decide +kernel
theorem dX13_breaking_89 : decode cX13_breaking 89 = .ok (.ireturn, 1) := by decide +kernel
theorem dX13_breakFew_0 : decode cX13_breakFew 0 = .ok (.aload_n 0, 1) := by decide +kernel
theorem dX13_breakFew_1 : decode cX13_breakFew 1 = .ok (.iconst 0, 1) := by decide +kernel
theorem dX13_breakFew_2 : decode cX13_breakFew 2 = .ok (.putfield 46, 3) := by decide +kernel
theorem dX13_breakFew_5 : decode cX13_breakFew 5 = .ok (.aload_n 0, 1) := by decide +kernel
theorem dX13_breakFew_6 : decode cX13_breakFew 6 = .ok (.getfield 343, 3) := by decide +kernel
theorem dX13_breakFew_9 : decode cX13_breakFew 9 = .ok (.ifnonnull 11, 3) := by decide +kernel
theorem dX13_breakFew_12 : decode cX13_breakFew 12 = .ok (.aload_n 0, 1) := by decide +kernel
theorem dX13_breakFew_13 : decode cX13_breakFew 13 = .ok (.iconst 1, 1) := by decide +kernel
theorem dX13_breakFew_14 : decode cX13_breakFew 14 = .ok (.invokevirtual 52, 3) := by decide +kernel
theorem dX13_breakFew_17 : decode cX13_breakFew 17 = .ok (.goto 12, 3) := by decide +kernel
theorem dX13_breakFew_20 : decode cX13_breakFew 20 = .ok (.aload_n 0, 1) := by decide +kernel
theorem dX13_breakFew_21 : decode cX13_breakFew 21 = .ok (.aload_n 0, 1) := by decide +kernel
theorem dX13_breakFew_22 : decode cX13_breakFew 22 = .ok (.iconst 1, 1) := by decide +kernel
theorem dX13_breakFew_23 : decode cX13_breakFew 23 = .ok (.invokevirtual 445, 3) := by decide +kernel
theorem dX13_breakFew_26 : decode cX13_breakFew 26 = .ok (.invokevirtual 56, 3) := by decide +kernel
theorem dX13_breakFew_29 : decode cX13_breakFew 29 = .ok (.ireturn, 1) := by decide +kernel
theorem dX13_breakRued_0 : decode cX13_breakRued 0 = .ok (.aload_n 0, 1) := by decide +kernel
theorem dX13_breakRued_1 : decode cX13_breakRued 1 = .ok (.iconst 0, 1) := by decide +kernel
theorem dX13_breakRued_2 : decode cX13_breakRued 2 = .ok (.putfield 46, 3) := by decide +kernel
theorem dX13_breakRued_5 : decode cX13_breakRued 5 = .ok (.aload_n 0, 1) := by decide +kernel
theorem dX13_breakRued_6 : decode cX13_breakRued 6 = .ok (.getfield 343, 3) := by decide +kernel
theorem dX13_breakRued_9 : decode cX13_breakRued 9 = .ok (.ifnonnull 11, 3) := by decide +kernel
theorem dX13_breakRued_12 : decode cX13_breakRued 12 = .ok (.aload_n 0, 1) := by decide +kernel
theorem dX13_breakRued_13 : decode cX13_breakRued 13 = .ok (.iconst 1, 1) := by decide +kernel
theorem dX13_breakRued_14 : decode cX13_breakRued 14 = .ok (.invokevirtual 52, 3) := by decide +kernel
theorem dX13_breakRued_17 : decode cX13_breakRued 17 = .ok (.goto 12, 3) := by decide +kernel
theorem dX13_breakRued_20 : decode cX13_breakRued 20 = .ok (.aload_n 0, 1) := by decide +kernel
theorem dX13_breakRued_21 : decode cX13_breakRued 21 = .ok (.aload_n 0, 1) := by decide +kernel
theorem dX13_breakRued_22 : decode cX13_breakRued 22 = .ok (.iconst 0, 1) := by decide +kernel
theorem dX13_breakRued_23 : decode cX13_breakRued 23 = .ok (.invokevirtual 445, 3) := by decide +kernel
theorem dX13_breakRued_26 : decode cX13_breakRued 26 = .ok (.invokevirtual 56, 3) := by decide +kernel
theorem dX13_breakRued_29 : decode cX13_breakRued 29 = .ok (.ireturn, 1) := by decide +kernel
theorem dX13_rue_0 : decode cX13_rue 0 = .ok (.aload_n 0, 1) := by decide +kernel
theorem dX13_rue_1 : decode cX13_rue 1 = .ok (.iconst 0, 1) := by decide +kernel
theorem dX13_rue_2 : decode cX13_rue 2 = .ok (.putfield 46, 3) := by decide +kernel
theorem dX13_rue_5 : decode cX13_rue 5 = .ok (.aload_n 0, 1) := by decide +kernel
theorem dX13_rue_6 : decode cX13_rue 6 = .ok (.getfield 343, 3) := by decide +kernel
theorem dX13_rue_9 : decode cX13_rue 9 = .ok (.ifnonnull 11, 3) := by decide +kernel
theorem dX13_rue_12 : decode cX13_rue 12 = .ok (.aload_n 0, 1) := by decide +kernel
theorem dX13_rue_13 : decode cX13_rue 13 = .ok (.iconst 1, 1) := by decide +kernel
theorem dX13_rue_14 : decode cX13_rue 14 = .ok (.invokevirtual 52, 3) := by decide +kernel
theorem dX13_rue_17 : decode cX13_rue 17 = .ok (.goto 16, 3) := by decide +kernel
theorem dX13_rue_20 : decode cX13_rue 20 = .ok (.aload_n 0, 1) := by decide +kernel
theorem dX13_rue_21 : decode cX13_rue 21 = .ok (.aload_n 0, 1) := by decide +kernel
theorem dX13_rue_22 : decode cX13_rue 22 = .ok (.aload_n 0, 1) := by decide +kernel
theorem dX13_rue_23 : decode cX13_rue 23 = .ok (.iconst 0, 1) := by decide +kernel
theorem dX13_rue_24 : decode cX13_rue 24 = .ok (.invokevirtual 445, 3) := by decide +kernel
theorem dX13_rue_27 : decode cX13_rue 27 = .ok (.invokevirtual 442, 3) := by decide +kernel
theorem dX13_rue_30 : decode cX13_rue 30 = .ok (.invokevirtual 56, 3) := by decide +kernel
theorem dX13_rue_33 : decode cX13_rue 33 = .ok (.ireturn, 1) := by decide +kernel
theorem dX13_peaces_0 : decode cX13_peaces 0 = .ok (.aload_n 0, 1) := by decide +kernel
theorem dX13_peaces_1 : decode cX13_peaces 1 = .ok (.iconst 0, 1) := by decide +kernel
theorem dX13_peaces_2 : decode cX13_peaces 2 = .ok (.putfield 46, 3) := by decide +kernel
theorem dX13_peaces_5 : decode cX13_peaces 5 = .ok (.aload_n 0, 1) := by decide +kernel
theorem dX13_peaces_6 : decode cX13_peaces 6 = .ok (.getfield 343, 3) := by decide +kernel
theorem dX13_peaces_9 : decode cX13_peaces 9 = .ok (.ifnonnull 9, 3) := by decide +kernel
theorem dX13_peaces_12 : decode cX13_peaces 12 = .ok (.aload_n 0, 1) := by decide +kernel
theorem dX13_peaces_13 : decode cX13_peaces 13 = .ok (.iconst 1, 1) := by decide +kernel
theorem dX13_peaces_14 : decode cX13_peaces 14 = .ok (.invokevirtual 52, 3) := by decide +kernel
theorem dX13_peaces_17 : decode cX13_peaces 17 = .ok (.ireturn, 1) := by decide +kernel
theorem dX13_peaces_18 : decode cX13_peaces 18 = .ok (.aload_n 0, 1) := by decide +kernel
theorem dX13_peaces_19 : decode cX13_peaces 19 = .ok (.iconst 0, 1) := by decide +kernel
theorem dX13_peaces_20 : decode cX13_peaces 20 = .ok (.invokevirtual 398, 3) := by decide +kernel
theorem dX13_peaces_23 : decode cX13_peaces 23 = .ok (.aload_n 0, 1) := by decide +kernel
theorem dX13_peaces_24 : decode cX13_peaces 24 = .ok (.invokevirtual 405, 3) := by decide +kernel
theorem dX13_peaces_27 : decode cX13_peaces 27 = .ok (.istore_n 1, 1) := by decide +kernel
theorem dX13_peaces_28 : decode cX13_peaces 28 = .ok (.iconst 0, 1) := by decide +kernel
theorem dX13_peaces_29 : decode cX13_peaces 29 = .ok (.istore_n 2, 1) := by decide +kernel
theorem dX13_peaces_30 : decode cX13_peaces 30 = .ok (.iconst 0, 1) := by decide +kernel
theorem dX13_peaces_31 : decode cX13_peaces 31 = .ok (.istore_n 3, 1) := by decide +kernel
theorem dX13_peaces_32 : decode cX13_peaces 32 = .ok (.iload_n 3, 1) := by decide +kernel
theorem dX13_peaces_33 : decode cX13_peaces 33 = .ok (.iload_n 1, 1) := by decide +kernel
theorem dX13_peaces_34 : decode cX13_peaces 34 = .ok (.if_icmp .gt 33, 3) := by decide +kernel
theorem dX13_peaces_37 : decode cX13_peaces 37 = .ok (.iload_n 2, 1) := by decide +kernel
theorem dX13_peaces_38 : decode cX13_peaces 38 = .ok (.iload_n 3, 1) := by decide +kernel
theorem dX13_peaces_39 : decode cX13_peaces 39 = .ok (.iload_n 1, 1) := by decide +kernel
theorem dX13_peaces_40 : decode cX13_peaces 40 = .ok (.iconst (-1), 1) := by decide +kernel
theorem dX13_peaces_41 : decode cX13_peaces 41 = .ok (.ixor, 1) := by decide +kernel
theorem dX13_peaces_42 : decode cX13_peaces 42 = .ok (.iand, 1) := by decide +kernel
theorem dX13_peaces_43 : decode cX13_peaces 43 = .ok (.ifCond .ne 15, 3) := by decide +kernel
theorem dX13_peaces_46 : decode cX13_peaces 46 = .ok (.aload_n 0, 1) := by decide +kernel
theorem dX13_peaces_47 : decode cX13_peaces 47 = .ok (.iload_n 3, 1) := by decide +kernel
theorem dX13_peaces_48 : decode cX13_peaces 48 = .ok (.invokevirtual 439, 3) := by decide +kernel
theorem dX13_peaces_51 : decode cX13_peaces 51 = .ok (.ifCond .ne 7, 3) := by decide +kernel
theorem dX13_peaces_54 : decode cX13_peaces 54 = .ok (.iconst 1, 1) := by decide +kernel
theorem dX13_peaces_55 : decode cX13_peaces 55 = .ok (.goto 4, 3) := by decide +kernel
theorem dX13_peaces_58 : decode cX13_peaces 58 = .ok (.iconst 0, 1) := by decide +kernel
theorem dX13_peaces_59 : decode cX13_peaces 59 = .ok (.iadd, 1) := by decide +kernel
theorem dX13_peaces_60 : decode cX13_peaces 60 = .ok (.istore_n 2, 1) := by decide +kernel
theorem dX13_peaces_61 : decode cX13_peaces 61 = .ok (.iinc 3 1, 3) := by decide +kernel
theorem dX13_peaces_64 : decode cX13_peaces 64 = .ok (.goto (-32), 3) := by decide +kernel
theorem dX13_peaces_67 : decode cX13_peaces 67 = .ok (.aload_n 0, 1) := by decide +kernel
theorem dX13_peaces_68 : decode cX13_peaces 68 = .ok (.iload_n 2, 1) := by decide +kernel
theorem dX13_peaces_69 : decode cX13_peaces 69 = .ok (.invokevirtual 56, 3) := by decide +kernel
theorem dX13_peaces_72 : decode cX13_peaces 72 = .ok (.ireturn, 1) := by decide +kernel
theorem dX13_isLied_0 : decode cX13_isLied 0 = .ok (.aload_n 0, 1) := by decide +kernel
theorem dX13_isLied_1 : decode cX13_isLied 1 = .ok (.getfield 343, 3) := by decide +kernel
theorem dX13_isLied_4 : decode cX13_isLied 4 = .ok (.iload_n 1, 1) := by decide +kernel
theorem dX13_isLied_5 : decode cX13_isLied 5 = .ok (.invokevirtual 316, 3) := by decide +kernel
theorem dX13_isLied_8 : decode cX13_isLied 8 = .ok (.istore_n 3, 1) := by decide +kernel
theorem dX13_isLied_9 : decode cX13_isLied 9 = .ok (.iload_n 3, 1) := by decide +kernel
theorem dX13_isLied_10 : decode cX13_isLied 10 = .ok (.iconst (-1), 1) := by decide +kernel
theorem dX13_isLied_11 : decode cX13_isLied 11 = .ok (.if_icmp .eq 8, 3) := by decide +kernel
theorem dX13_isLied_14 : decode cX13_isLied 14 = .ok (.iload_n 2, 1) := by decide +kernel
theorem dX13_isLied_15 : decode cX13_isLied 15 = .ok (.iconst (-1), 1) := by decide +kernel
theorem dX13_isLied_16 : decode cX13_isLied 16 = .ok (.if_icmp .ne 24, 3) := by decide +kernel
theorem dX13_isLied_19 : decode cX13_isLied 19 = .ok (.aload_n 0, 1) := by decide +kernel
theorem dX13_isLied_20 : decode cX13_isLied 20 = .ok (.getfield 343, 3) := by decide +kernel
theorem dX13_isLied_23 : decode cX13_isLied 23 = .ok (.getfield 258, 3) := by decide +kernel
theorem dX13_isLied_26 : decode cX13_isLied 26 = .ok (.iload_n 1, 1) := by decide +kernel
theorem dX13_isLied_27 : decode cX13_isLied 27 = .ok (.iaload, 1) := by decide +kernel
theorem dX13_isLied_28 : decode cX13_isLied 28 = .ok (.iconst 3, 1) := by decide +kernel
theorem dX13_isLied_29 : decode cX13_isLied 29 = .ok (.if_icmp .ne 7, 3) := by decide +kernel
theorem dX13_isLied_32 : decode cX13_isLied 32 = .ok (.iconst 1, 1) := by decide +kernel
theorem dX13_isLied_33 : decode cX13_isLied 33 = .ok (.goto 12, 3) := by decide +kernel
theorem dX13_isLied_36 : decode cX13_isLied 36 = .ok (.iconst 0, 1) := by decide +kernel
theorem dX13_isLied_37 : decode cX13_isLied 37 = .ok (.goto 8, 3) := by decide +kernel
theorem dX13_isLied_40 : decode cX13_isLied 40 = .ok (.iload_n 2, 1) := by decide +kernel
theorem dX13_isLied_41 : decode cX13_isLied 41 = .ok (.iload_n 3, 1) := by decide +kernel
theorem dX13_isLied_42 : decode cX13_isLied 42 = .ok (.invokestatic 277, 3) := by decide +kernel
theorem dX13_isLied_45 : decode cX13_isLied 45 = .ok (.ireturn, 1) := by decide +kernel
theorem dX13_isRight_0 : decode cX13_isRight 0 = .ok (.aload_n 0, 1) := by decide +kernel
theorem dX13_isRight_1 : decode cX13_isRight 1 = .ok (.aload_n 0, 1) := by decide +kernel
theorem dX13_isRight_2 : decode cX13_isRight 2 = .ok (.getfield 343, 3) := by decide +kernel
theorem dX13_isRight_5 : decode cX13_isRight 5 = .ok (.getfield 328, 3) := by decide +kernel
theorem dX13_isRight_8 : decode cX13_isRight 8 = .ok (.iload_n 1, 1) := by decide +kernel
theorem dX13_isRight_9 : decode cX13_isRight 9 = .ok (.iaload, 1) := by decide +kernel
theorem dX13_isRight_10 : decode cX13_isRight 10 = .ok (.iload_n 2, 1) := by decide +kernel
theorem dX13_isRight_11 : decode cX13_isRight 11 = .ok (.invokevirtual 449, 3) := by decide +kernel
theorem dX13_isRight_14 : decode cX13_isRight 14 = .ok (.ifCond .ne 20, 3) := by decide +kernel
theorem dX13_isRight_17 : decode cX13_isRight 17 = .ok (.aload_n 0, 1) := by decide +kernel
theorem dX13_isRight_18 : decode cX13_isRight 18 = .ok (.aload_n 0, 1) := by decide +kernel
theorem dX13_isRight_19 : decode cX13_isRight 19 = .ok (.getfield 343, 3) := by decide +kernel
theorem dX13_isRight_22 : decode cX13_isRight 22 = .ok (.getfield 331, 3) := by decide +kernel
theorem dX13_isRight_25 : decode cX13_isRight 25 = .ok (.iload_n 1, 1) := by decide +kernel
theorem dX13_isRight_26 : decode cX13_isRight 26 = .ok (.iaload, 1) := by decide +kernel
theorem dX13_isRight_27 : decode cX13_isRight 27 = .ok (.iload_n 2, 1) := by decide +kernel
theorem dX13_isRight_28 : decode cX13_isRight 28 = .ok (.invokevirtual 449, 3) := by decide +kernel
theorem dX13_isRight_31 : decode cX13_isRight 31 = .ok (.ifCond .eq 7, 3) := by decide +kernel
theorem dX13_isRight_34 : decode cX13_isRight 34 = .ok (.iconst 1, 1) := by decide +kernel
theorem dX13_isRight_35 : decode cX13_isRight 35 = .ok (.goto 4, 3) := by decide +kernel
theorem dX13_isRight_38 : decode cX13_isRight 38 = .ok (.iconst 0, 1) := by decide +kernel
theorem dX13_isRight_39 : decode cX13_isRight 39 = .ok (.aload_n 0, 1) := by decide +kernel
theorem dX13_isRight_40 : decode cX13_isRight 40 = .ok (.getfield 343, 3) := by decide +kernel
theorem dX13_isRight_43 : decode cX13_isRight 43 = .ok (.getfield 334, 3) := by decide +kernel
theorem dX13_isRight_46 : decode cX13_isRight 46 = .ok (.iload_n 1, 1) := by decide +kernel
theorem dX13_isRight_47 : decode cX13_isRight 47 = .ok (.invokestatic 277, 3) := by decide +kernel
theorem dX13_isRight_50 : decode cX13_isRight 50 = .ok (.if_icmp .ne 7, 3) := by decide +kernel
theorem dX13_isRight_53 : decode cX13_isRight 53 = .ok (.iconst 1, 1) := by decide +kernel
theorem dX13_isRight_54 : decode cX13_isRight 54 = .ok (.goto 4, 3) := by decide +kernel
theorem dX13_isRight_57 : decode cX13_isRight 57 = .ok (.iconst 0, 1) := by decide +kernel
theorem dX13_isRight_58 : decode cX13_isRight 58 = .ok (.ireturn, 1) := by decide +kernel
theorem dX13_weightOf_0 : decode cX13_weightOf 0 = .ok (.lconst 1, 1) := by decide +kernel
theorem dX13_weightOf_1 : decode cX13_weightOf 1 = .ok (.lstore_n 2, 1) := by decide +kernel
theorem dX13_weightOf_2 : decode cX13_weightOf 2 = .ok (.iconst 0, 1) := by decide +kernel
theorem dX13_weightOf_3 : decode cX13_weightOf 3 = .ok (.istore 4, 2) := by decide +kernel
theorem dX13_weightOf_5 : decode cX13_weightOf 5 = .ok (.iload 4, 2) := by decide +kernel
theorem dX13_weightOf_7 : decode cX13_weightOf 7 = .ok (.aload_n 0, 1) := by decide +kernel
theorem dX13_weightOf_8 : decode cX13_weightOf 8 = .ok (.getfield 343, 3) := by decide +kernel
theorem dX13_weightOf_11 : decode cX13_weightOf 11 = .ok (.getfield 321, 3) := by decide +kernel
theorem dX13_weightOf_14 : decode cX13_weightOf 14 = .ok (.if_icmp .ge 44, 3) := by decide +kernel
theorem dX13_weightOf_17 : decode cX13_weightOf 17 = .ok (.lload_n 2, 1) := by decide +kernel
theorem dX13_weightOf_18 : decode cX13_weightOf 18 = .ok (.aload_n 0, 1) := by decide +kernel
theorem dX13_weightOf_19 : decode cX13_weightOf 19 = .ok (.iload 4, 2) := by decide +kernel
theorem dX13_weightOf_21 : decode cX13_weightOf 21 = .ok (.iload_n 1, 1) := by decide +kernel
theorem dX13_weightOf_22 : decode cX13_weightOf 22 = .ok (.invokevirtual 452, 3) := by decide +kernel
theorem dX13_weightOf_25 : decode cX13_weightOf 25 = .ok (.ifCond .eq 17, 3) := by decide +kernel
theorem dX13_weightOf_28 : decode cX13_weightOf 28 = .ok (.bipush 100, 2) := by decide +kernel
theorem dX13_weightOf_30 : decode cX13_weightOf 30 = .ok (.aload_n 0, 1) := by decide +kernel
theorem dX13_weightOf_31 : decode cX13_weightOf 31 = .ok (.getfield 343, 3) := by decide +kernel
theorem dX13_weightOf_34 : decode cX13_weightOf 34 = .ok (.getfield 153, 3) := by decide +kernel
theorem dX13_weightOf_37 : decode cX13_weightOf 37 = .ok (.isub, 1) := by decide +kernel
theorem dX13_weightOf_38 : decode cX13_weightOf 38 = .ok (.i2l, 1) := by decide +kernel
theorem dX13_weightOf_39 : decode cX13_weightOf 39 = .ok (.goto 11, 3) := by decide +kernel
theorem dX13_weightOf_42 : decode cX13_weightOf 42 = .ok (.aload_n 0, 1) := by decide +kernel
theorem dX13_weightOf_43 : decode cX13_weightOf 43 = .ok (.getfield 343, 3) := by decide +kernel
theorem dX13_weightOf_46 : decode cX13_weightOf 46 = .ok (.getfield 153, 3) := by decide +kernel
theorem dX13_weightOf_49 : decode cX13_weightOf 49 = .ok (.i2l, 1) := by decide +kernel
theorem dX13_weightOf_50 : decode cX13_weightOf 50 = .ok (.lmul, 1) := by decide +kernel
theorem dX13_weightOf_51 : decode cX13_weightOf 51 = .ok (.lstore_n 2, 1) := by decide +kernel
theorem dX13_weightOf_52 : decode cX13_weightOf 52 = .ok (.iinc 4 1, 3) := by decide +kernel
theorem dX13_weightOf_55 : decode cX13_weightOf 55 = .ok (.goto (-50), 3) := by decide +kernel
theorem dX13_weightOf_58 : decode cX13_weightOf 58 = .ok (.lload_n 2, 1) := by decide +kernel
theorem dX13_weightOf_59 : decode cX13_weightOf 59 = .ok (.lreturn, 1) := by decide +kernel
theorem dX13_sets_0 : decode cX13_sets 0 = .ok (.iconst 1, 1) := by decide +kernel
theorem dX13_sets_1 : decode cX13_sets 1 = .ok (.aload_n 0, 1) := by decide +kernel
theorem dX13_sets_2 : decode cX13_sets 2 = .ok (.getfield 343, 3) := by decide +kernel
theorem dX13_sets_5 : decode cX13_sets 5 = .ok (.getfield 313, 3) := by decide +kernel
theorem dX13_sets_8 : decode cX13_sets 8 = .ok (.ishl, 1) := by decide +kernel
theorem dX13_sets_9 : decode cX13_sets 9 = .ok (.ireturn, 1) := by decide +kernel
theorem dX13_fitting_0 : decode cX13_fitting 0 = .ok (.aload_n 0, 1) := by decide +kernel
theorem dX13_fitting_1 : decode cX13_fitting 1 = .ok (.iconst 0, 1) := by decide +kernel
theorem dX13_fitting_2 : decode cX13_fitting 2 = .ok (.putfield 455, 3) := by decide +kernel
theorem dX13_fitting_5 : decode cX13_fitting 5 = .ok (.iconst (-1), 1) := by decide +kernel
theorem dX13_fitting_6 : decode cX13_fitting 6 = .ok (.istore_n 2, 1) := by decide +kernel
theorem dX13_fitting_7 : decode cX13_fitting 7 = .ok (.iconst 0, 1) := by decide +kernel
theorem dX13_fitting_8 : decode cX13_fitting 8 = .ok (.istore_n 3, 1) := by decide +kernel
theorem dX13_fitting_9 : decode cX13_fitting 9 = .ok (.iload_n 3, 1) := by decide +kernel
theorem dX13_fitting_10 : decode cX13_fitting 10 = .ok (.iconst 5, 1) := by decide +kernel
theorem dX13_fitting_11 : decode cX13_fitting 11 = .ok (.if_icmp .ge 16, 3) := by decide +kernel
theorem dX13_fitting_14 : decode cX13_fitting 14 = .ok (.aload_n 0, 1) := by decide +kernel
theorem dX13_fitting_15 : decode cX13_fitting 15 = .ok (.getfield 39, 3) := by decide +kernel
theorem dX13_fitting_18 : decode cX13_fitting 18 = .ok (.iload_n 3, 1) := by decide +kernel
theorem dX13_fitting_19 : decode cX13_fitting 19 = .ok (.iconst 0, 1) := by decide +kernel
theorem dX13_fitting_20 : decode cX13_fitting 20 = .ok (.iastore, 1) := by decide +kernel
theorem dX13_fitting_21 : decode cX13_fitting 21 = .ok (.iinc 3 1, 3) := by decide +kernel
theorem dX13_fitting_24 : decode cX13_fitting 24 = .ok (.goto (-15), 3) := by decide +kernel
theorem dX13_fitting_27 : decode cX13_fitting 27 = .ok (.iconst 0, 1) := by decide +kernel
theorem dX13_fitting_28 : decode cX13_fitting 28 = .ok (.istore_n 3, 1) := by decide +kernel
theorem dX13_fitting_29 : decode cX13_fitting 29 = .ok (.iload_n 3, 1) := by decide +kernel
theorem dX13_fitting_30 : decode cX13_fitting 30 = .ok (.aload_n 0, 1) := by decide +kernel
theorem dX13_fitting_31 : decode cX13_fitting 31 = .ok (.invokevirtual 458, 3) := by decide +kernel
theorem dX13_fitting_34 : decode cX13_fitting 34 = .ok (.if_icmp .ge 87, 3) := by decide +kernel
theorem dX13_fitting_37 : decode cX13_fitting 37 = .ok (.aload_n 0, 1) := by decide +kernel
theorem dX13_fitting_38 : decode cX13_fitting 38 = .ok (.iload_n 3, 1) := by decide +kernel
theorem dX13_fitting_39 : decode cX13_fitting 39 = .ok (.invokevirtual 461, 3) := by decide +kernel
theorem dX13_fitting_42 : decode cX13_fitting 42 = .ok (.lconst 0, 1) := by decide +kernel
theorem dX13_fitting_43 : decode cX13_fitting 43 = .ok (.lcmp, 1) := by decide +kernel
theorem dX13_fitting_44 : decode cX13_fitting 44 = .ok (.ifCond .ne 6, 3) := by decide +kernel
theorem dX13_fitting_47 : decode cX13_fitting 47 = .ok (.goto 68, 3) := by decide +kernel
theorem dX13_fitting_50 : decode cX13_fitting 50 = .ok (.aload_n 0, 1) := by decide +kernel
theorem dX13_fitting_51 : decode cX13_fitting 51 = .ok (.getfield 455, 3) := by decide +kernel
theorem dX13_fitting_54 : decode cX13_fitting 54 = .ok (.iload_n 1, 1) := by decide +kernel
theorem dX13_fitting_55 : decode cX13_fitting 55 = .ok (.if_icmp .ne 5, 3) := by decide +kernel
theorem dX13_fitting_58 : decode cX13_fitting 58 = .ok (.iload_n 3, 1) := by decide +kernel
theorem dX13_fitting_59 : decode cX13_fitting 59 = .ok (.istore_n 2, 1) := by decide +kernel
theorem dX13_fitting_60 : decode cX13_fitting 60 = .ok (.aload_n 0, 1) := by decide +kernel
theorem dX13_fitting_61 : decode cX13_fitting 61 = .ok (.dup, 1) := by decide +kernel
theorem dX13_fitting_62 : decode cX13_fitting 62 = .ok (.getfield 455, 3) := by decide +kernel
theorem dX13_fitting_65 : decode cX13_fitting 65 = .ok (.iconst 1, 1) := by decide +kernel
theorem dX13_fitting_66 : decode cX13_fitting 66 = .ok (.iadd, 1) := by decide +kernel
theorem dX13_fitting_67 : decode cX13_fitting 67 = .ok (.putfield 455, 3) := by decide +kernel
theorem dX13_fitting_70 : decode cX13_fitting 70 = .ok (.iconst 0, 1) := by decide +kernel
theorem dX13_fitting_71 : decode cX13_fitting 71 = .ok (.istore 4, 2) := by decide +kernel
theorem dX13_fitting_73 : decode cX13_fitting 73 = .ok (.iload 4, 2) := by decide +kernel
theorem dX13_fitting_75 : decode cX13_fitting 75 = .ok (.aload_n 0, 1) := by decide +kernel
theorem dX13_fitting_76 : decode cX13_fitting 76 = .ok (.getfield 343, 3) := by decide +kernel
theorem dX13_fitting_79 : decode cX13_fitting 79 = .ok (.getfield 313, 3) := by decide +kernel
theorem dX13_fitting_82 : decode cX13_fitting 82 = .ok (.if_icmp .ge 33, 3) := by decide +kernel
theorem dX13_fitting_85 : decode cX13_fitting 85 = .ok (.aload_n 0, 1) := by decide +kernel
theorem dX13_fitting_86 : decode cX13_fitting 86 = .ok (.getfield 39, 3) := by decide +kernel
theorem dX13_fitting_89 : decode cX13_fitting 89 = .ok (.iload 4, 2) := by decide +kernel
theorem dX13_fitting_91 : decode cX13_fitting 91 = .ok (.dup2, 1) := by decide +kernel
theorem dX13_fitting_92 : decode cX13_fitting 92 = .ok (.iaload, 1) := by decide +kernel
theorem dX13_fitting_93 : decode cX13_fitting 93 = .ok (.iload_n 3, 1) := by decide +kernel
theorem dX13_fitting_94 : decode cX13_fitting 94 = .ok (.iload 4, 2) := by decide +kernel
theorem dX13_fitting_96 : decode cX13_fitting 96 = .ok (.invokestatic 277, 3) := by decide +kernel
theorem dX13_fitting_99 : decode cX13_fitting 99 = .ok (.ifCond .eq 7, 3) := by decide +kernel
theorem dX13_fitting_102 : decode cX13_fitting 102 = .ok (.iconst 1, 1) := by decide +kernel
theorem dX13_fitting_103 : decode cX13_fitting 103 = .ok (.goto 4, 3) := by decide +kernel
theorem dX13_fitting_106 : decode cX13_fitting 106 = .ok (.iconst 0, 1) := by decide +kernel
theorem dX13_fitting_107 : decode cX13_fitting 107 = .ok (.iadd, 1) := by decide +kernel
theorem dX13_fitting_108 : decode cX13_fitting 108 = .ok (.iastore, 1) := by decide +kernel
theorem dX13_fitting_109 : decode cX13_fitting 109 = .ok (.iinc 4 1, 3) := by decide +kernel
theorem dX13_fitting_112 : decode cX13_fitting 112 = .ok (.goto (-39), 3) := by decide +kernel
theorem dX13_fitting_115 : decode cX13_fitting 115 = .ok (.iinc 3 1, 3) := by decide +kernel
theorem dX13_fitting_118 : decode cX13_fitting 118 = .ok (.goto (-89), 3) := by decide +kernel
theorem dX13_fitting_121 : decode cX13_fitting 121 = .ok (.iload_n 2, 1) := by decide +kernel
theorem dX13_fitting_122 : decode cX13_fitting 122 = .ok (.ireturn, 1) := by decide +kernel
theorem dX13_fits_0 : decode cX13_fits 0 = .ok (.aload_n 0, 1) := by decide +kernel
theorem dX13_fits_1 : decode cX13_fits 1 = .ok (.iconst 0, 1) := by decide +kernel
theorem dX13_fits_2 : decode cX13_fits 2 = .ok (.putfield 46, 3) := by decide +kernel
theorem dX13_fits_5 : decode cX13_fits 5 = .ok (.aload_n 0, 1) := by decide +kernel
theorem dX13_fits_6 : decode cX13_fits 6 = .ok (.getfield 343, 3) := by decide +kernel
theorem dX13_fits_9 : decode cX13_fits 9 = .ok (.ifnonnull 9, 3) := by decide +kernel
theorem dX13_fits_12 : decode cX13_fits 12 = .ok (.aload_n 0, 1) := by decide +kernel
theorem dX13_fits_13 : decode cX13_fits 13 = .ok (.iconst 1, 1) := by decide +kernel
theorem dX13_fits_14 : decode cX13_fits 14 = .ok (.invokevirtual 52, 3) := by decide +kernel
theorem dX13_fits_17 : decode cX13_fits 17 = .ok (.ireturn, 1) := by decide +kernel
theorem dX13_fits_18 : decode cX13_fits 18 = .ok (.aload_n 0, 1) := by decide +kernel
theorem dX13_fits_19 : decode cX13_fits 19 = .ok (.iconst (-1), 1) := by decide +kernel
theorem dX13_fits_20 : decode cX13_fits 20 = .ok (.invokevirtual 465, 3) := by decide +kernel
theorem dX13_fits_23 : decode cX13_fits 23 = .ok (.pop, 1) := by decide +kernel
theorem dX13_fits_24 : decode cX13_fits 24 = .ok (.aload_n 0, 1) := by decide +kernel
theorem dX13_fits_25 : decode cX13_fits 25 = .ok (.aload_n 0, 1) := by decide +kernel
theorem dX13_fits_26 : decode cX13_fits 26 = .ok (.getfield 455, 3) := by decide +kernel
theorem dX13_fits_29 : decode cX13_fits 29 = .ok (.invokevirtual 56, 3) := by decide +kernel
theorem dX13_fits_32 : decode cX13_fits 32 = .ok (.ireturn, 1) := by decide +kernel
theorem dX13_fitAt_0 : decode cX13_fitAt 0 = .ok (.aload_n 0, 1) := by decide +kernel
theorem dX13_fitAt_1 : decode cX13_fitAt 1 = .ok (.iconst 0, 1) := by decide +kernel
theorem dX13_fitAt_2 : decode cX13_fitAt 2 = .ok (.putfield 46, 3) := by decide +kernel
theorem dX13_fitAt_5 : decode cX13_fitAt 5 = .ok (.aload_n 0, 1) := by decide +kernel
theorem dX13_fitAt_6 : decode cX13_fitAt 6 = .ok (.getfield 343, 3) := by decide +kernel
theorem dX13_fitAt_9 : decode cX13_fitAt 9 = .ok (.ifnull 7, 3) := by decide +kernel
theorem dX13_fitAt_12 : decode cX13_fitAt 12 = .ok (.iload_n 1, 1) := by decide +kernel
theorem dX13_fitAt_13 : decode cX13_fitAt 13 = .ok (.ifCond .ge 9, 3) := by decide +kernel
theorem dX13_fitAt_16 : decode cX13_fitAt 16 = .ok (.aload_n 0, 1) := by decide +kernel
theorem dX13_fitAt_17 : decode cX13_fitAt 17 = .ok (.iconst 1, 1) := by decide +kernel
theorem dX13_fitAt_18 : decode cX13_fitAt 18 = .ok (.invokevirtual 52, 3) := by decide +kernel
theorem dX13_fitAt_21 : decode cX13_fitAt 21 = .ok (.ireturn, 1) := by decide +kernel
theorem dX13_fitAt_22 : decode cX13_fitAt 22 = .ok (.aload_n 0, 1) := by decide +kernel
theorem dX13_fitAt_23 : decode cX13_fitAt 23 = .ok (.iload_n 1, 1) := by decide +kernel
theorem dX13_fitAt_24 : decode cX13_fitAt 24 = .ok (.invokevirtual 465, 3) := by decide +kernel
theorem dX13_fitAt_27 : decode cX13_fitAt 27 = .ok (.istore_n 2, 1) := by decide +kernel
theorem dX13_fitAt_28 : decode cX13_fitAt 28 = .ok (.iload_n 2, 1) := by decide +kernel
theorem dX13_fitAt_29 : decode cX13_fitAt 29 = .ok (.iconst (-1), 1) := by decide +kernel
theorem dX13_fitAt_30 : decode cX13_fitAt 30 = .ok (.if_icmp .ne 11, 3) := by decide +kernel
theorem dX13_fitAt_33 : decode cX13_fitAt 33 = .ok (.aload_n 0, 1) := by decide +kernel
theorem dX13_fitAt_34 : decode cX13_fitAt 34 = .ok (.iconst 1, 1) := by decide +kernel
theorem dX13_fitAt_35 : decode cX13_fitAt 35 = .ok (.invokevirtual 52, 3) := by decide +kernel
theorem dX13_fitAt_38 : decode cX13_fitAt 38 = .ok (.goto 8, 3) := by decide +kernel
theorem dX13_fitAt_41 : decode cX13_fitAt 41 = .ok (.aload_n 0, 1) := by decide +kernel
theorem dX13_fitAt_42 : decode cX13_fitAt 42 = .ok (.iload_n 2, 1) := by decide +kernel
theorem dX13_fitAt_43 : decode cX13_fitAt 43 = .ok (.invokevirtual 56, 3) := by decide +kernel
theorem dX13_fitAt_46 : decode cX13_fitAt 46 = .ok (.ireturn, 1) := by decide +kernel
theorem dX13_odds_0 : decode cX13_odds 0 = .ok (.aload_n 0, 1) := by decide +kernel
theorem dX13_odds_1 : decode cX13_odds 1 = .ok (.iconst 0, 1) := by decide +kernel
theorem dX13_odds_2 : decode cX13_odds 2 = .ok (.putfield 46, 3) := by decide +kernel
theorem dX13_odds_5 : decode cX13_odds 5 = .ok (.aload_n 0, 1) := by decide +kernel
theorem dX13_odds_6 : decode cX13_odds 6 = .ok (.getfield 343, 3) := by decide +kernel
theorem dX13_odds_9 : decode cX13_odds 9 = .ok (.ifnull 18, 3) := by decide +kernel
theorem dX13_odds_12 : decode cX13_odds 12 = .ok (.iload_n 1, 1) := by decide +kernel
theorem dX13_odds_13 : decode cX13_odds 13 = .ok (.ifCond .lt 14, 3) := by decide +kernel
theorem dX13_odds_16 : decode cX13_odds 16 = .ok (.iload_n 1, 1) := by decide +kernel
theorem dX13_odds_17 : decode cX13_odds 17 = .ok (.aload_n 0, 1) := by decide +kernel
theorem dX13_odds_18 : decode cX13_odds 18 = .ok (.getfield 343, 3) := by decide +kernel
theorem dX13_odds_21 : decode cX13_odds 21 = .ok (.getfield 313, 3) := by decide +kernel
theorem dX13_odds_24 : decode cX13_odds 24 = .ok (.if_icmp .lt 10, 3) := by decide +kernel
theorem dX13_odds_27 : decode cX13_odds 27 = .ok (.aload_n 0, 1) := by decide +kernel
theorem dX13_odds_28 : decode cX13_odds 28 = .ok (.iconst 1, 1) := by decide +kernel
theorem dX13_odds_29 : decode cX13_odds 29 = .ok (.invokevirtual 52, 3) := by decide +kernel
theorem dX13_odds_32 : decode cX13_odds 32 = .ok (.i2l, 1) := by decide +kernel
theorem dX13_odds_33 : decode cX13_odds 33 = .ok (.lreturn, 1) := by decide +kernel
theorem dX13_odds_34 : decode cX13_odds 34 = .ok (.lconst 0, 1) := by decide +kernel
theorem dX13_odds_35 : decode cX13_odds 35 = .ok (.lstore_n 3, 1) := by decide +kernel
theorem dX13_odds_36 : decode cX13_odds 36 = .ok (.lconst 0, 1) := by decide +kernel
theorem dX13_odds_37 : decode cX13_odds 37 = .ok (.lstore 5, 2) := by decide +kernel
theorem dX13_odds_39 : decode cX13_odds 39 = .ok (.iconst 0, 1) := by decide +kernel
theorem dX13_odds_40 : decode cX13_odds 40 = .ok (.istore 7, 2) := by decide +kernel
theorem dX13_odds_42 : decode cX13_odds 42 = .ok (.iload 7, 2) := by decide +kernel
theorem dX13_odds_44 : decode cX13_odds 44 = .ok (.aload_n 0, 1) := by decide +kernel
theorem dX13_odds_45 : decode cX13_odds 45 = .ok (.invokevirtual 458, 3) := by decide +kernel
theorem dX13_odds_48 : decode cX13_odds 48 = .ok (.if_icmp .ge 42, 3) := by decide +kernel
theorem dX13_odds_51 : decode cX13_odds 51 = .ok (.lload 5, 2) := by decide +kernel
theorem dX13_odds_53 : decode cX13_odds 53 = .ok (.aload_n 0, 1) := by decide +kernel
theorem dX13_odds_54 : decode cX13_odds 54 = .ok (.iload 7, 2) := by decide +kernel
theorem dX13_odds_56 : decode cX13_odds 56 = .ok (.invokevirtual 461, 3) := by decide +kernel
theorem dX13_odds_59 : decode cX13_odds 59 = .ok (.ladd, 1) := by decide +kernel
theorem dX13_odds_60 : decode cX13_odds 60 = .ok (.lstore 5, 2) := by decide +kernel
theorem dX13_odds_62 : decode cX13_odds 62 = .ok (.lload_n 3, 1) := by decide +kernel
theorem dX13_odds_63 : decode cX13_odds 63 = .ok (.iload 7, 2) := by decide +kernel
theorem dX13_odds_65 : decode cX13_odds 65 = .ok (.iload_n 1, 1) := by decide +kernel
theorem dX13_odds_66 : decode cX13_odds 66 = .ok (.invokestatic 277, 3) := by decide +kernel
theorem dX13_odds_69 : decode cX13_odds 69 = .ok (.ifCond .eq 12, 3) := by decide +kernel
theorem dX13_odds_72 : decode cX13_odds 72 = .ok (.aload_n 0, 1) := by decide +kernel
theorem dX13_odds_73 : decode cX13_odds 73 = .ok (.iload 7, 2) := by decide +kernel
theorem dX13_odds_75 : decode cX13_odds 75 = .ok (.invokevirtual 461, 3) := by decide +kernel
theorem dX13_odds_78 : decode cX13_odds 78 = .ok (.goto 4, 3) := by decide +kernel
theorem dX13_odds_81 : decode cX13_odds 81 = .ok (.lconst 0, 1) := by decide +kernel
theorem dX13_odds_82 : decode cX13_odds 82 = .ok (.ladd, 1) := by decide +kernel
theorem dX13_odds_83 : decode cX13_odds 83 = .ok (.lstore_n 3, 1) := by decide +kernel
theorem dX13_odds_84 : decode cX13_odds 84 = .ok (.iinc 7 1, 3) := by decide +kernel
theorem dX13_odds_87 : decode cX13_odds 87 = .ok (.goto (-45), 3) := by decide +kernel
theorem dX13_odds_90 : decode cX13_odds 90 = .ok (.aload_n 0, 1) := by decide +kernel
theorem dX13_odds_91 : decode cX13_odds 91 = .ok (.lload_n 3, 1) := by decide +kernel
theorem dX13_odds_92 : decode cX13_odds 92 = .ok (.lload 5, 2) := by decide +kernel
theorem dX13_odds_94 : decode cX13_odds 94 = .ok (.iload_n 2, 1) := by decide +kernel
theorem dX13_odds_95 : decode cX13_odds 95 = .ok (.invokevirtual 468, 3) := by decide +kernel
theorem dX13_odds_98 : decode cX13_odds 98 = .ok (.lreturn, 1) := by decide +kernel
theorem dX13_likeliest_0 : decode cX13_likeliest 0 = .ok (.aload_n 0, 1) := by decide +kernel
theorem dX13_likeliest_1 : decode cX13_likeliest 1 = .ok (.iconst 0, 1) := by decide +kernel
theorem dX13_likeliest_2 : decode cX13_likeliest 2 = .ok (.putfield 46, 3) := by decide +kernel
theorem dX13_likeliest_5 : decode cX13_likeliest 5 = .ok (.aload_n 0, 1) := by decide +kernel
theorem dX13_likeliest_6 : decode cX13_likeliest 6 = .ok (.getfield 343, 3) := by decide +kernel
theorem dX13_likeliest_9 : decode cX13_likeliest 9 = .ok (.ifnonnull 9, 3) := by decide +kernel
theorem dX13_likeliest_12 : decode cX13_likeliest 12 = .ok (.aload_n 0, 1) := by decide +kernel
theorem dX13_likeliest_13 : decode cX13_likeliest 13 = .ok (.iconst 1, 1) := by decide +kernel
theorem dX13_likeliest_14 : decode cX13_likeliest 14 = .ok (.invokevirtual 52, 3) := by decide +kernel
theorem dX13_likeliest_17 : decode cX13_likeliest 17 = .ok (.ireturn, 1) := by decide +kernel
theorem dX13_likeliest_18 : decode cX13_likeliest 18 = .ok (.bipush (-2), 2) := by decide +kernel
theorem dX13_likeliest_20 : decode cX13_likeliest 20 = .ok (.istore_n 1, 1) := by decide +kernel
theorem dX13_likeliest_21 : decode cX13_likeliest 21 = .ok (.lconst 0, 1) := by decide +kernel
theorem dX13_likeliest_22 : decode cX13_likeliest 22 = .ok (.lstore_n 2, 1) := by decide +kernel
theorem dX13_likeliest_23 : decode cX13_likeliest 23 = .ok (.iconst 0, 1) := by decide +kernel
theorem dX13_likeliest_24 : decode cX13_likeliest 24 = .ok (.istore 4, 2) := by decide +kernel
theorem dX13_likeliest_26 : decode cX13_likeliest 26 = .ok (.iload 4, 2) := by decide +kernel
theorem dX13_likeliest_28 : decode cX13_likeliest 28 = .ok (.aload_n 0, 1) := by decide +kernel
theorem dX13_likeliest_29 : decode cX13_likeliest 29 = .ok (.invokevirtual 458, 3) := by decide +kernel
theorem dX13_likeliest_32 : decode cX13_likeliest 32 = .ok (.if_icmp .ge 33, 3) := by decide +kernel
theorem dX13_likeliest_35 : decode cX13_likeliest 35 = .ok (.aload_n 0, 1) := by decide +kernel
theorem dX13_likeliest_36 : decode cX13_likeliest 36 = .ok (.iload 4, 2) := by decide +kernel
theorem dX13_likeliest_38 : decode cX13_likeliest 38 = .ok (.invokevirtual 461, 3) := by decide +kernel
theorem dX13_likeliest_41 : decode cX13_likeliest 41 = .ok (.lload_n 2, 1) := by decide +kernel
theorem dX13_likeliest_42 : decode cX13_likeliest 42 = .ok (.lcmp, 1) := by decide +kernel
theorem dX13_likeliest_43 : decode cX13_likeliest 43 = .ok (.ifCond .gt 6, 3) := by decide +kernel
theorem dX13_likeliest_46 : decode cX13_likeliest 46 = .ok (.goto 13, 3) := by decide +kernel
theorem dX13_likeliest_49 : decode cX13_likeliest 49 = .ok (.aload_n 0, 1) := by decide +kernel
theorem dX13_likeliest_50 : decode cX13_likeliest 50 = .ok (.iload 4, 2) := by decide +kernel
theorem dX13_likeliest_52 : decode cX13_likeliest 52 = .ok (.invokevirtual 461, 3) := by decide +kernel
theorem dX13_likeliest_55 : decode cX13_likeliest 55 = .ok (.lstore_n 2, 1) := by decide +kernel
theorem dX13_likeliest_56 : decode cX13_likeliest 56 = .ok (.iload 4, 2) := by decide +kernel
theorem dX13_likeliest_58 : decode cX13_likeliest 58 = .ok (.istore_n 1, 1) := by decide +kernel
theorem dX13_likeliest_59 : decode cX13_likeliest 59 = .ok (.iinc 4 1, 3) := by decide +kernel
theorem dX13_likeliest_62 : decode cX13_likeliest 62 = .ok (.goto (-36), 3) := by decide +kernel
theorem dX13_likeliest_65 : decode cX13_likeliest 65 = .ok (.aload_n 0, 1) := by decide +kernel
theorem dX13_likeliest_66 : decode cX13_likeliest 66 = .ok (.iload_n 1, 1) := by decide +kernel
theorem dX13_likeliest_67 : decode cX13_likeliest 67 = .ok (.invokevirtual 56, 3) := by decide +kernel
theorem dX13_likeliest_70 : decode cX13_likeliest 70 = .ok (.ireturn, 1) := by decide +kernel
theorem dX13_tests_0 : decode cX13_tests 0 = .ok (.aload_n 0, 1) := by decide +kernel
theorem dX13_tests_1 : decode cX13_tests 1 = .ok (.iconst (-1), 1) := by decide +kernel
theorem dX13_tests_2 : decode cX13_tests 2 = .ok (.invokevirtual 465, 3) := by decide +kernel
theorem dX13_tests_5 : decode cX13_tests 5 = .ok (.pop, 1) := by decide +kernel
theorem dX13_tests_6 : decode cX13_tests 6 = .ok (.bipush (-2), 2) := by decide +kernel
theorem dX13_tests_8 : decode cX13_tests 8 = .ok (.istore_n 1, 1) := by decide +kernel
theorem dX13_tests_9 : decode cX13_tests 9 = .ok (.aload_n 0, 1) := by decide +kernel
theorem dX13_tests_10 : decode cX13_tests 10 = .ok (.bipush (-2), 2) := by decide +kernel
theorem dX13_tests_12 : decode cX13_tests 12 = .ok (.putfield 472, 3) := by decide +kernel
theorem dX13_tests_15 : decode cX13_tests 15 = .ok (.iconst 0, 1) := by decide +kernel
theorem dX13_tests_16 : decode cX13_tests 16 = .ok (.istore_n 2, 1) := by decide +kernel
theorem dX13_tests_17 : decode cX13_tests 17 = .ok (.iload_n 2, 1) := by decide +kernel
theorem dX13_tests_18 : decode cX13_tests 18 = .ok (.aload_n 0, 1) := by decide +kernel
theorem dX13_tests_19 : decode cX13_tests 19 = .ok (.getfield 343, 3) := by decide +kernel
theorem dX13_tests_22 : decode cX13_tests 22 = .ok (.getfield 313, 3) := by decide +kernel
theorem dX13_tests_25 : decode cX13_tests 25 = .ok (.if_icmp .ge 81, 3) := by decide +kernel
theorem dX13_tests_28 : decode cX13_tests 28 = .ok (.aload_n 0, 1) := by decide +kernel
theorem dX13_tests_29 : decode cX13_tests 29 = .ok (.getfield 455, 3) := by decide +kernel
theorem dX13_tests_32 : decode cX13_tests 32 = .ok (.ifCond .le 74, 3) := by decide +kernel
theorem dX13_tests_35 : decode cX13_tests 35 = .ok (.aload_n 0, 1) := by decide +kernel
theorem dX13_tests_36 : decode cX13_tests 36 = .ok (.getfield 39, 3) := by decide +kernel
theorem dX13_tests_39 : decode cX13_tests 39 = .ok (.iload_n 2, 1) := by decide +kernel
theorem dX13_tests_40 : decode cX13_tests 40 = .ok (.iaload, 1) := by decide +kernel
theorem dX13_tests_41 : decode cX13_tests 41 = .ok (.aload_n 0, 1) := by decide +kernel
theorem dX13_tests_42 : decode cX13_tests 42 = .ok (.getfield 455, 3) := by decide +kernel
theorem dX13_tests_45 : decode cX13_tests 45 = .ok (.aload_n 0, 1) := by decide +kernel
theorem dX13_tests_46 : decode cX13_tests 46 = .ok (.getfield 39, 3) := by decide +kernel
theorem dX13_tests_49 : decode cX13_tests 49 = .ok (.iload_n 2, 1) := by decide +kernel
theorem dX13_tests_50 : decode cX13_tests 50 = .ok (.iaload, 1) := by decide +kernel
theorem dX13_tests_51 : decode cX13_tests 51 = .ok (.isub, 1) := by decide +kernel
theorem dX13_tests_52 : decode cX13_tests 52 = .ok (.if_icmp .le 12, 3) := by decide +kernel
theorem dX13_tests_55 : decode cX13_tests 55 = .ok (.aload_n 0, 1) := by decide +kernel
theorem dX13_tests_56 : decode cX13_tests 56 = .ok (.getfield 39, 3) := by decide +kernel
theorem dX13_tests_59 : decode cX13_tests 59 = .ok (.iload_n 2, 1) := by decide +kernel
theorem dX13_tests_60 : decode cX13_tests 60 = .ok (.iaload, 1) := by decide +kernel
theorem dX13_tests_61 : decode cX13_tests 61 = .ok (.goto 14, 3) := by decide +kernel
theorem dX13_tests_64 : decode cX13_tests 64 = .ok (.aload_n 0, 1) := by decide +kernel
theorem dX13_tests_65 : decode cX13_tests 65 = .ok (.getfield 455, 3) := by decide +kernel
theorem dX13_tests_68 : decode cX13_tests 68 = .ok (.aload_n 0, 1) := by decide +kernel
theorem dX13_tests_69 : decode cX13_tests 69 = .ok (.getfield 39, 3) := by decide +kernel
theorem dX13_tests_72 : decode cX13_tests 72 = .ok (.iload_n 2, 1) := by decide +kernel
theorem dX13_tests_73 : decode cX13_tests 73 = .ok (.iaload, 1) := by decide +kernel
theorem dX13_tests_74 : decode cX13_tests 74 = .ok (.isub, 1) := by decide +kernel
theorem dX13_tests_75 : decode cX13_tests 75 = .ok (.istore_n 3, 1) := by decide +kernel
theorem dX13_tests_76 : decode cX13_tests 76 = .ok (.iload_n 1, 1) := by decide +kernel
theorem dX13_tests_77 : decode cX13_tests 77 = .ok (.bipush (-2), 2) := by decide +kernel
theorem dX13_tests_79 : decode cX13_tests 79 = .ok (.if_icmp .eq 14, 3) := by decide +kernel
theorem dX13_tests_82 : decode cX13_tests 82 = .ok (.iload_n 3, 1) := by decide +kernel
theorem dX13_tests_83 : decode cX13_tests 83 = .ok (.aload_n 0, 1) := by decide +kernel
theorem dX13_tests_84 : decode cX13_tests 84 = .ok (.getfield 472, 3) := by decide +kernel
theorem dX13_tests_87 : decode cX13_tests 87 = .ok (.if_icmp .lt 6, 3) := by decide +kernel
theorem dX13_tests_90 : decode cX13_tests 90 = .ok (.goto 10, 3) := by decide +kernel
theorem dX13_tests_93 : decode cX13_tests 93 = .ok (.iload_n 2, 1) := by decide +kernel
theorem dX13_tests_94 : decode cX13_tests 94 = .ok (.istore_n 1, 1) := by decide +kernel
theorem dX13_tests_95 : decode cX13_tests 95 = .ok (.aload_n 0, 1) := by decide +kernel
theorem dX13_tests_96 : decode cX13_tests 96 = .ok (.iload_n 3, 1) := by decide +kernel
theorem dX13_tests_97 : decode cX13_tests 97 = .ok (.putfield 472, 3) := by decide +kernel
theorem dX13_tests_100 : decode cX13_tests 100 = .ok (.iinc 2 1, 3) := by decide +kernel
theorem dX13_tests_103 : decode cX13_tests 103 = .ok (.goto (-86), 3) := by decide +kernel
theorem dX13_tests_106 : decode cX13_tests 106 = .ok (.iload_n 1, 1) := by decide +kernel
theorem dX13_tests_107 : decode cX13_tests 107 = .ok (.ireturn, 1) := by decide +kernel
theorem dX13_test_0 : decode cX13_test 0 = .ok (.aload_n 0, 1) := by decide +kernel
theorem dX13_test_1 : decode cX13_test 1 = .ok (.iconst 0, 1) := by decide +kernel
theorem dX13_test_2 : decode cX13_test 2 = .ok (.putfield 46, 3) := by decide +kernel
theorem dX13_test_5 : decode cX13_test 5 = .ok (.aload_n 0, 1) := by decide +kernel
theorem dX13_test_6 : decode cX13_test 6 = .ok (.getfield 343, 3) := by decide +kernel
theorem dX13_test_9 : decode cX13_test 9 = .ok (.ifnonnull 11, 3) := by decide +kernel
theorem dX13_test_12 : decode cX13_test 12 = .ok (.aload_n 0, 1) := by decide +kernel
theorem dX13_test_13 : decode cX13_test 13 = .ok (.iconst 1, 1) := by decide +kernel
theorem dX13_test_14 : decode cX13_test 14 = .ok (.invokevirtual 52, 3) := by decide +kernel
theorem dX13_test_17 : decode cX13_test 17 = .ok (.goto 11, 3) := by decide +kernel
theorem dX13_test_20 : decode cX13_test 20 = .ok (.aload_n 0, 1) := by decide +kernel
theorem dX13_test_21 : decode cX13_test 21 = .ok (.aload_n 0, 1) := by decide +kernel
theorem dX13_test_22 : decode cX13_test 22 = .ok (.invokevirtual 475, 3) := by decide +kernel
theorem dX13_test_25 : decode cX13_test 25 = .ok (.invokevirtual 56, 3) := by decide +kernel
theorem dX13_test_28 : decode cX13_test 28 = .ok (.ireturn, 1) := by decide +kernel
theorem dX13_testLeaves_0 : decode cX13_testLeaves 0 = .ok (.aload_n 0, 1) := by decide +kernel
theorem dX13_testLeaves_1 : decode cX13_testLeaves 1 = .ok (.iconst 0, 1) := by decide +kernel
theorem dX13_testLeaves_2 : decode cX13_testLeaves 2 = .ok (.putfield 46, 3) := by decide +kernel
theorem dX13_testLeaves_5 : decode cX13_testLeaves 5 = .ok (.aload_n 0, 1) := by decide +kernel
theorem dX13_testLeaves_6 : decode cX13_testLeaves 6 = .ok (.getfield 343, 3) := by decide +kernel
theorem dX13_testLeaves_9 : decode cX13_testLeaves 9 = .ok (.ifnonnull 9, 3) := by decide +kernel
theorem dX13_testLeaves_12 : decode cX13_testLeaves 12 = .ok (.aload_n 0, 1) := by decide +kernel
theorem dX13_testLeaves_13 : decode cX13_testLeaves 13 = .ok (.iconst 1, 1) := by decide +kernel
theorem dX13_testLeaves_14 : decode cX13_testLeaves 14 = .ok (.invokevirtual 52, 3) := by decide +kernel
theorem dX13_testLeaves_17 : decode cX13_testLeaves 17 = .ok (.ireturn, 1) := by decide +kernel
theorem dX13_testLeaves_18 : decode cX13_testLeaves 18 = .ok (.aload_n 0, 1) := by decide +kernel
theorem dX13_testLeaves_19 : decode cX13_testLeaves 19 = .ok (.invokevirtual 475, 3) := by decide +kernel
theorem dX13_testLeaves_22 : decode cX13_testLeaves 22 = .ok (.pop, 1) := by decide +kernel
theorem dX13_testLeaves_23 : decode cX13_testLeaves 23 = .ok (.aload_n 0, 1) := by decide +kernel
theorem dX13_testLeaves_24 : decode cX13_testLeaves 24 = .ok (.aload_n 0, 1) := by decide +kernel
theorem dX13_testLeaves_25 : decode cX13_testLeaves 25 = .ok (.getfield 472, 3) := by decide +kernel
theorem dX13_testLeaves_28 : decode cX13_testLeaves 28 = .ok (.invokevirtual 56, 3) := by decide +kernel
theorem dX13_testLeaves_31 : decode cX13_testLeaves 31 = .ok (.ireturn, 1) := by decide +kernel
theorem dX13_isLiedNow_0 : decode cX13_isLiedNow 0 = .ok (.aload_n 0, 1) := by decide +kernel
theorem dX13_isLiedNow_1 : decode cX13_isLiedNow 1 = .ok (.getfield 17, 3) := by decide +kernel
theorem dX13_isLiedNow_4 : decode cX13_isLiedNow 4 = .ok (.iconst 0, 1) := by decide +kernel
theorem dX13_isLiedNow_5 : decode cX13_isLiedNow 5 = .ok (.iload_n 1, 1) := by decide +kernel
theorem dX13_isLiedNow_6 : decode cX13_isLiedNow 6 = .ok (.iadd, 1) := by decide +kernel
theorem dX13_isLiedNow_7 : decode cX13_isLiedNow 7 = .ok (.iaload, 1) := by decide +kernel
theorem dX13_isLiedNow_8 : decode cX13_isLiedNow 8 = .ok (.iconst (-1), 1) := by decide +kernel
theorem dX13_isLiedNow_9 : decode cX13_isLiedNow 9 = .ok (.if_icmp .ne 16, 3) := by decide +kernel
theorem dX13_isLiedNow_12 : decode cX13_isLiedNow 12 = .ok (.aload_n 0, 1) := by decide +kernel
theorem dX13_isLiedNow_13 : decode cX13_isLiedNow 13 = .ok (.iload_n 1, 1) := by decide +kernel
theorem dX13_isLiedNow_14 : decode cX13_isLiedNow 14 = .ok (.iload_n 2, 1) := by decide +kernel
theorem dX13_isLiedNow_15 : decode cX13_isLiedNow 15 = .ok (.invokevirtual 449, 3) := by decide +kernel
theorem dX13_isLiedNow_18 : decode cX13_isLiedNow 18 = .ok (.ifCond .eq 7, 3) := by decide +kernel
theorem dX13_isLiedNow_21 : decode cX13_isLiedNow 21 = .ok (.iconst 1, 1) := by decide +kernel
theorem dX13_isLiedNow_22 : decode cX13_isLiedNow 22 = .ok (.goto 4, 3) := by decide +kernel
theorem dX13_isLiedNow_25 : decode cX13_isLiedNow 25 = .ok (.iconst 0, 1) := by decide +kernel
theorem dX13_isLiedNow_26 : decode cX13_isLiedNow 26 = .ok (.ireturn, 1) := by decide +kernel
theorem dX13_brown_0 : decode cX13_brown 0 = .ok (.aload_n 0, 1) := by decide +kernel
theorem dX13_brown_1 : decode cX13_brown 1 = .ok (.iconst 0, 1) := by decide +kernel
theorem dX13_brown_2 : decode cX13_brown 2 = .ok (.putfield 46, 3) := by decide +kernel
theorem dX13_brown_5 : decode cX13_brown 5 = .ok (.aload_n 0, 1) := by decide +kernel
theorem dX13_brown_6 : decode cX13_brown 6 = .ok (.iload_n 1, 1) := by decide +kernel
theorem dX13_brown_7 : decode cX13_brown 7 = .ok (.invokevirtual 392, 3) := by decide +kernel
theorem dX13_brown_10 : decode cX13_brown 10 = .ok (.ifCond .eq 11, 3) := by decide +kernel
theorem dX13_brown_13 : decode cX13_brown 13 = .ok (.aload_n 0, 1) := by decide +kernel
theorem dX13_brown_14 : decode cX13_brown 14 = .ok (.iload_n 2, 1) := by decide +kernel
theorem dX13_brown_15 : decode cX13_brown 15 = .ok (.invokevirtual 392, 3) := by decide +kernel
theorem dX13_brown_18 : decode cX13_brown 18 = .ok (.ifCond .ne 10, 3) := by decide +kernel
theorem dX13_brown_21 : decode cX13_brown 21 = .ok (.aload_n 0, 1) := by decide +kernel
theorem dX13_brown_22 : decode cX13_brown 22 = .ok (.iconst 1, 1) := by decide +kernel
theorem dX13_brown_23 : decode cX13_brown 23 = .ok (.invokevirtual 52, 3) := by decide +kernel
theorem dX13_brown_26 : decode cX13_brown 26 = .ok (.i2l, 1) := by decide +kernel
theorem dX13_brown_27 : decode cX13_brown 27 = .ok (.lreturn, 1) := by decide +kernel
theorem dX13_brown_28 : decode cX13_brown 28 = .ok (.lconst 0, 1) := by decide +kernel
theorem dX13_brown_29 : decode cX13_brown 29 = .ok (.lstore 4, 2) := by decide +kernel
theorem dX13_brown_31 : decode cX13_brown 31 = .ok (.lconst 0, 1) := by decide +kernel
theorem dX13_brown_32 : decode cX13_brown 32 = .ok (.lstore 6, 2) := by decide +kernel
theorem dX13_brown_34 : decode cX13_brown 34 = .ok (.iconst 0, 1) := by decide +kernel
theorem dX13_brown_35 : decode cX13_brown 35 = .ok (.istore 8, 2) := by decide +kernel
theorem dX13_brown_37 : decode cX13_brown 37 = .ok (.iload 8, 2) := by decide +kernel
theorem dX13_brown_39 : decode cX13_brown 39 = .ok (.aload_n 0, 1) := by decide +kernel
theorem dX13_brown_40 : decode cX13_brown 40 = .ok (.invokevirtual 458, 3) := by decide +kernel
theorem dX13_brown_43 : decode cX13_brown 43 = .ok (.if_icmp .ge 55, 3) := by decide +kernel
theorem dX13_brown_46 : decode cX13_brown 46 = .ok (.lload 6, 2) := by decide +kernel
theorem dX13_brown_48 : decode cX13_brown 48 = .ok (.aload_n 0, 1) := by decide +kernel
theorem dX13_brown_49 : decode cX13_brown 49 = .ok (.iload 8, 2) := by decide +kernel
theorem dX13_brown_51 : decode cX13_brown 51 = .ok (.invokevirtual 461, 3) := by decide +kernel
theorem dX13_brown_54 : decode cX13_brown 54 = .ok (.ladd, 1) := by decide +kernel
theorem dX13_brown_55 : decode cX13_brown 55 = .ok (.lstore 6, 2) := by decide +kernel
theorem dX13_brown_57 : decode cX13_brown 57 = .ok (.lload 4, 2) := by decide +kernel
theorem dX13_brown_59 : decode cX13_brown 59 = .ok (.aload_n 0, 1) := by decide +kernel
theorem dX13_brown_60 : decode cX13_brown 60 = .ok (.iload_n 1, 1) := by decide +kernel
theorem dX13_brown_61 : decode cX13_brown 61 = .ok (.iload 8, 2) := by decide +kernel
theorem dX13_brown_63 : decode cX13_brown 63 = .ok (.invokevirtual 478, 3) := by decide +kernel
theorem dX13_brown_66 : decode cX13_brown 66 = .ok (.ifCond .ne 13, 3) := by decide +kernel
theorem dX13_brown_69 : decode cX13_brown 69 = .ok (.aload_n 0, 1) := by decide +kernel
theorem dX13_brown_70 : decode cX13_brown 70 = .ok (.iload_n 2, 1) := by decide +kernel
theorem dX13_brown_71 : decode cX13_brown 71 = .ok (.iload 8, 2) := by decide +kernel
theorem dX13_brown_73 : decode cX13_brown 73 = .ok (.invokevirtual 478, 3) := by decide +kernel
theorem dX13_brown_76 : decode cX13_brown 76 = .ok (.ifCond .eq 12, 3) := by decide +kernel
theorem dX13_brown_79 : decode cX13_brown 79 = .ok (.aload_n 0, 1) := by decide +kernel
theorem dX13_brown_80 : decode cX13_brown 80 = .ok (.iload 8, 2) := by decide +kernel
theorem dX13_brown_82 : decode cX13_brown 82 = .ok (.invokevirtual 461, 3) := by decide +kernel
theorem dX13_brown_85 : decode cX13_brown 85 = .ok (.goto 4, 3) := by decide +kernel
theorem dX13_brown_88 : decode cX13_brown 88 = .ok (.lconst 0, 1) := by decide +kernel
theorem dX13_brown_89 : decode cX13_brown 89 = .ok (.ladd, 1) := by decide +kernel
theorem dX13_brown_90 : decode cX13_brown 90 = .ok (.lstore 4, 2) := by decide +kernel
theorem dX13_brown_92 : decode cX13_brown 92 = .ok (.iinc 8 1, 3) := by decide +kernel
theorem dX13_brown_95 : decode cX13_brown 95 = .ok (.goto (-58), 3) := by decide +kernel
theorem dX13_brown_98 : decode cX13_brown 98 = .ok (.aload_n 0, 1) := by decide +kernel
theorem dX13_brown_99 : decode cX13_brown 99 = .ok (.lload 4, 2) := by decide +kernel
theorem dX13_brown_101 : decode cX13_brown 101 = .ok (.lload 6, 2) := by decide +kernel
theorem dX13_brown_103 : decode cX13_brown 103 = .ok (.iload_n 3, 1) := by decide +kernel
theorem dX13_brown_104 : decode cX13_brown 104 = .ok (.invokevirtual 468, 3) := by decide +kernel
theorem dX13_brown_107 : decode cX13_brown 107 = .ok (.lreturn, 1) := by decide +kernel
theorem dX13_judge_0 : decode cX13_judge 0 = .ok (.aload_n 0, 1) := by decide +kernel
theorem dX13_judge_1 : decode cX13_judge 1 = .ok (.iconst 0, 1) := by decide +kernel
theorem dX13_judge_2 : decode cX13_judge 2 = .ok (.putfield 46, 3) := by decide +kernel
theorem dX13_judge_5 : decode cX13_judge 5 = .ok (.aload_n 0, 1) := by decide +kernel
theorem dX13_judge_6 : decode cX13_judge 6 = .ok (.getfield 343, 3) := by decide +kernel
theorem dX13_judge_9 : decode cX13_judge 9 = .ok (.ifnonnull 9, 3) := by decide +kernel
theorem dX13_judge_12 : decode cX13_judge 12 = .ok (.aload_n 0, 1) := by decide +kernel
theorem dX13_judge_13 : decode cX13_judge 13 = .ok (.iconst 1, 1) := by decide +kernel
theorem dX13_judge_14 : decode cX13_judge 14 = .ok (.invokevirtual 52, 3) := by decide +kernel
theorem dX13_judge_17 : decode cX13_judge 17 = .ok (.ireturn, 1) := by decide +kernel
theorem dX13_judge_18 : decode cX13_judge 18 = .ok (.iconst 0, 1) := by decide +kernel
theorem dX13_judge_19 : decode cX13_judge 19 = .ok (.istore_n 1, 1) := by decide +kernel
theorem dX13_judge_20 : decode cX13_judge 20 = .ok (.iload_n 1, 1) := by decide +kernel
theorem dX13_judge_21 : decode cX13_judge 21 = .ok (.aload_n 0, 1) := by decide +kernel
theorem dX13_judge_22 : decode cX13_judge 22 = .ok (.getfield 343, 3) := by decide +kernel
theorem dX13_judge_25 : decode cX13_judge 25 = .ok (.getfield 321, 3) := by decide +kernel
theorem dX13_judge_28 : decode cX13_judge 28 = .ok (.if_icmp .ge 24, 3) := by decide +kernel
theorem dX13_judge_31 : decode cX13_judge 31 = .ok (.aload_n 0, 1) := by decide +kernel
theorem dX13_judge_32 : decode cX13_judge 32 = .ok (.iload_n 1, 1) := by decide +kernel
theorem dX13_judge_33 : decode cX13_judge 33 = .ok (.iconst (-1), 1) := by decide +kernel
theorem dX13_judge_34 : decode cX13_judge 34 = .ok (.invokevirtual 452, 3) := by decide +kernel
theorem dX13_judge_37 : decode cX13_judge 37 = .ok (.ifCond .ne 9, 3) := by decide +kernel
theorem dX13_judge_40 : decode cX13_judge 40 = .ok (.aload_n 0, 1) := by decide +kernel
theorem dX13_judge_41 : decode cX13_judge 41 = .ok (.iload_n 1, 1) := by decide +kernel
theorem dX13_judge_42 : decode cX13_judge 42 = .ok (.invokevirtual 56, 3) := by decide +kernel
theorem dX13_judge_45 : decode cX13_judge 45 = .ok (.ireturn, 1) := by decide +kernel
theorem dX13_judge_46 : decode cX13_judge 46 = .ok (.iinc 1 1, 3) := by decide +kernel
theorem dX13_judge_49 : decode cX13_judge 49 = .ok (.goto (-29), 3) := by decide +kernel
theorem dX13_judge_52 : decode cX13_judge 52 = .ok (.aload_n 0, 1) := by decide +kernel
theorem dX13_judge_53 : decode cX13_judge 53 = .ok (.bipush (-2), 2) := by decide +kernel
theorem dX13_judge_55 : decode cX13_judge 55 = .ok (.invokevirtual 56, 3) := by decide +kernel
theorem dX13_judge_58 : decode cX13_judge 58 = .ok (.ireturn, 1) := by decide +kernel
theorem dX13_snapping_0 : decode cX13_snapping 0 = .ok (.aload_n 0, 1) := by decide +kernel
theorem dX13_snapping_1 : decode cX13_snapping 1 = .ok (.iconst 0, 1) := by decide +kernel
theorem dX13_snapping_2 : decode cX13_snapping 2 = .ok (.invokevirtual 398, 3) := by decide +kernel
theorem dX13_snapping_5 : decode cX13_snapping 5 = .ok (.iconst 1, 1) := by decide +kernel
theorem dX13_snapping_6 : decode cX13_snapping 6 = .ok (.aload_n 0, 1) := by decide +kernel
theorem dX13_snapping_7 : decode cX13_snapping 7 = .ok (.getfield 360, 3) := by decide +kernel
theorem dX13_snapping_10 : decode cX13_snapping 10 = .ok (.ishl, 1) := by decide +kernel
theorem dX13_snapping_11 : decode cX13_snapping 11 = .ok (.iconst 1, 1) := by decide +kernel
theorem dX13_snapping_12 : decode cX13_snapping 12 = .ok (.isub, 1) := by decide +kernel
theorem dX13_snapping_13 : decode cX13_snapping 13 = .ok (.istore_n 3, 1) := by decide +kernel
theorem dX13_snapping_14 : decode cX13_snapping 14 = .ok (.iconst 0, 1) := by decide +kernel
theorem dX13_snapping_15 : decode cX13_snapping 15 = .ok (.istore 4, 2) := by decide +kernel
theorem dX13_snapping_17 : decode cX13_snapping 17 = .ok (.iload 4, 2) := by decide +kernel
theorem dX13_snapping_19 : decode cX13_snapping 19 = .ok (.iload_n 3, 1) := by decide +kernel
theorem dX13_snapping_20 : decode cX13_snapping 20 = .ok (.if_icmp .gt 112, 3) := by decide +kernel
theorem dX13_snapping_23 : decode cX13_snapping 23 = .ok (.aload_n 0, 1) := by decide +kernel
theorem dX13_snapping_24 : decode cX13_snapping 24 = .ok (.getfield 42, 3) := by decide +kernel
theorem dX13_snapping_27 : decode cX13_snapping 27 = .ok (.iload 4, 2) := by decide +kernel
theorem dX13_snapping_29 : decode cX13_snapping 29 = .ok (.aload_n 0, 1) := by decide +kernel
theorem dX13_snapping_30 : decode cX13_snapping 30 = .ok (.iload_n 1, 1) := by decide +kernel
theorem dX13_snapping_31 : decode cX13_snapping 31 = .ok (.iload_n 3, 1) := by decide +kernel
theorem dX13_snapping_32 : decode cX13_snapping 32 = .ok (.iload 4, 2) := by decide +kernel
theorem dX13_snapping_34 : decode cX13_snapping 34 = .ok (.iconst (-1), 1) := by decide +kernel
theorem dX13_snapping_35 : decode cX13_snapping 35 = .ok (.ixor, 1) := by decide +kernel
theorem dX13_snapping_36 : decode cX13_snapping 36 = .ok (.iand, 1) := by decide +kernel
theorem dX13_snapping_37 : decode cX13_snapping 37 = .ok (.invokevirtual 389, 3) := by decide +kernel
theorem dX13_snapping_40 : decode cX13_snapping 40 = .ok (.iload_n 2, 1) := by decide +kernel
theorem dX13_snapping_41 : decode cX13_snapping 41 = .ok (.invokestatic 277, 3) := by decide +kernel
theorem dX13_snapping_44 : decode cX13_snapping 44 = .ok (.ifCond .ne 7, 3) := by decide +kernel
theorem dX13_snapping_47 : decode cX13_snapping 47 = .ok (.iconst 1, 1) := by decide +kernel
theorem dX13_snapping_48 : decode cX13_snapping 48 = .ok (.goto 4, 3) := by decide +kernel
theorem dX13_snapping_51 : decode cX13_snapping 51 = .ok (.iconst 0, 1) := by decide +kernel
theorem dX13_snapping_52 : decode cX13_snapping 52 = .ok (.bastore, 1) := by decide +kernel
theorem dX13_snapping_53 : decode cX13_snapping 53 = .ok (.iconst 0, 1) := by decide +kernel
theorem dX13_snapping_54 : decode cX13_snapping 54 = .ok (.istore 5, 2) := by decide +kernel
theorem dX13_snapping_56 : decode cX13_snapping 56 = .ok (.iload 5, 2) := by decide +kernel
theorem dX13_snapping_58 : decode cX13_snapping 58 = .ok (.aload_n 0, 1) := by decide +kernel
theorem dX13_snapping_59 : decode cX13_snapping 59 = .ok (.getfield 360, 3) := by decide +kernel
theorem dX13_snapping_62 : decode cX13_snapping 62 = .ok (.if_icmp .ge 64, 3) := by decide +kernel
theorem dX13_snapping_65 : decode cX13_snapping 65 = .ok (.aload_n 0, 1) := by decide +kernel
theorem dX13_snapping_66 : decode cX13_snapping 66 = .ok (.getfield 42, 3) := by decide +kernel
theorem dX13_snapping_69 : decode cX13_snapping 69 = .ok (.iload 4, 2) := by decide +kernel
theorem dX13_snapping_71 : decode cX13_snapping 71 = .ok (.baload, 1) := by decide +kernel
theorem dX13_snapping_72 : decode cX13_snapping 72 = .ok (.ifCond .ne 48, 3) := by decide +kernel
theorem dX13_snapping_75 : decode cX13_snapping 75 = .ok (.iload 4, 2) := by decide +kernel
theorem dX13_snapping_77 : decode cX13_snapping 77 = .ok (.iload 5, 2) := by decide +kernel
theorem dX13_snapping_79 : decode cX13_snapping 79 = .ok (.invokestatic 277, 3) := by decide +kernel
theorem dX13_snapping_82 : decode cX13_snapping 82 = .ok (.ifCond .eq 38, 3) := by decide +kernel
theorem dX13_snapping_85 : decode cX13_snapping 85 = .ok (.aload_n 0, 1) := by decide +kernel
theorem dX13_snapping_86 : decode cX13_snapping 86 = .ok (.getfield 36, 3) := by decide +kernel
theorem dX13_snapping_89 : decode cX13_snapping 89 = .ok (.iload 5, 2) := by decide +kernel
theorem dX13_snapping_91 : decode cX13_snapping 91 = .ok (.iaload, 1) := by decide +kernel
theorem dX13_snapping_92 : decode cX13_snapping 92 = .ok (.ifCond .le 28, 3) := by decide +kernel
theorem dX13_snapping_95 : decode cX13_snapping 95 = .ok (.aload_n 0, 1) := by decide +kernel
theorem dX13_snapping_96 : decode cX13_snapping 96 = .ok (.getfield 42, 3) := by decide +kernel
theorem dX13_snapping_99 : decode cX13_snapping 99 = .ok (.iload 4, 2) := by decide +kernel
theorem dX13_snapping_101 : decode cX13_snapping 101 = .ok (.iconst 1, 1) := by decide +kernel
theorem dX13_snapping_102 : decode cX13_snapping 102 = .ok (.iload 5, 2) := by decide +kernel
theorem dX13_snapping_104 : decode cX13_snapping 104 = .ok (.ishl, 1) := by decide +kernel
theorem dX13_snapping_105 : decode cX13_snapping 105 = .ok (.iconst (-1), 1) := by decide +kernel
theorem dX13_snapping_106 : decode cX13_snapping 106 = .ok (.ixor, 1) := by decide +kernel
theorem dX13_snapping_107 : decode cX13_snapping 107 = .ok (.iand, 1) := by decide +kernel
theorem dX13_snapping_108 : decode cX13_snapping 108 = .ok (.baload, 1) := by decide +kernel
theorem dX13_snapping_109 : decode cX13_snapping 109 = .ok (.ifCond .ne 11, 3) := by decide +kernel
theorem dX13_snapping_112 : decode cX13_snapping 112 = .ok (.aload_n 0, 1) := by decide +kernel
theorem dX13_snapping_113 : decode cX13_snapping 113 = .ok (.getfield 42, 3) := by decide +kernel
theorem dX13_snapping_116 : decode cX13_snapping 116 = .ok (.iload 4, 2) := by decide +kernel
theorem dX13_snapping_118 : decode cX13_snapping 118 = .ok (.iconst 1, 1) := by decide +kernel
theorem dX13_snapping_119 : decode cX13_snapping 119 = .ok (.bastore, 1) := by decide +kernel
theorem dX13_snapping_120 : decode cX13_snapping 120 = .ok (.iinc 5 1, 3) := by decide +kernel
theorem dX13_snapping_123 : decode cX13_snapping 123 = .ok (.goto (-67), 3) := by decide +kernel
theorem dX13_snapping_126 : decode cX13_snapping 126 = .ok (.iinc 4 1, 3) := by decide +kernel
theorem dX13_snapping_129 : decode cX13_snapping 129 = .ok (.goto (-112), 3) := by decide +kernel
theorem dX13_snapping_132 : decode cX13_snapping 132 = .ok (.return_, 1) := by decide +kernel
theorem dX13_snaps_0 : decode cX13_snaps 0 = .ok (.aload_n 0, 1) := by decide +kernel
theorem dX13_snaps_1 : decode cX13_snaps 1 = .ok (.iconst 0, 1) := by decide +kernel
theorem dX13_snaps_2 : decode cX13_snaps 2 = .ok (.putfield 46, 3) := by decide +kernel
theorem dX13_snaps_5 : decode cX13_snaps 5 = .ok (.aload_n 0, 1) := by decide +kernel
theorem dX13_snaps_6 : decode cX13_snaps 6 = .ok (.iload_n 1, 1) := by decide +kernel
theorem dX13_snaps_7 : decode cX13_snaps 7 = .ok (.iload_n 2, 1) := by decide +kernel
theorem dX13_snaps_8 : decode cX13_snaps 8 = .ok (.invokevirtual 408, 3) := by decide +kernel
theorem dX13_snaps_11 : decode cX13_snaps 11 = .ok (.ifCond .ne 9, 3) := by decide +kernel
theorem dX13_snaps_14 : decode cX13_snaps 14 = .ok (.aload_n 0, 1) := by decide +kernel
theorem dX13_snaps_15 : decode cX13_snaps 15 = .ok (.iconst 1, 1) := by decide +kernel
theorem dX13_snaps_16 : decode cX13_snaps 16 = .ok (.invokevirtual 52, 3) := by decide +kernel
theorem dX13_snaps_19 : decode cX13_snaps 19 = .ok (.ireturn, 1) := by decide +kernel
theorem dX13_snaps_20 : decode cX13_snaps 20 = .ok (.aload_n 0, 1) := by decide +kernel
theorem dX13_snaps_21 : decode cX13_snaps 21 = .ok (.iload_n 1, 1) := by decide +kernel
theorem dX13_snaps_22 : decode cX13_snaps 22 = .ok (.iload_n 2, 1) := by decide +kernel
theorem dX13_snaps_23 : decode cX13_snaps 23 = .ok (.invokevirtual 481, 3) := by decide +kernel
theorem dX13_snaps_26 : decode cX13_snaps 26 = .ok (.aload_n 0, 1) := by decide +kernel
theorem dX13_snaps_27 : decode cX13_snaps 27 = .ok (.aload_n 0, 1) := by decide +kernel
theorem dX13_snaps_28 : decode cX13_snaps 28 = .ok (.getfield 42, 3) := by decide +kernel
theorem dX13_snaps_31 : decode cX13_snaps 31 = .ok (.aload_n 0, 1) := by decide +kernel
theorem dX13_snaps_32 : decode cX13_snaps 32 = .ok (.invokevirtual 405, 3) := by decide +kernel
theorem dX13_snaps_35 : decode cX13_snaps 35 = .ok (.baload, 1) := by decide +kernel
theorem dX13_snaps_36 : decode cX13_snaps 36 = .ok (.ifCond .eq 7, 3) := by decide +kernel
theorem dX13_snaps_39 : decode cX13_snaps 39 = .ok (.iconst 1, 1) := by decide +kernel
theorem dX13_snaps_40 : decode cX13_snaps 40 = .ok (.goto 4, 3) := by decide +kernel
theorem dX13_snaps_43 : decode cX13_snaps 43 = .ok (.iconst 0, 1) := by decide +kernel
theorem dX13_snaps_44 : decode cX13_snaps 44 = .ok (.invokevirtual 56, 3) := by decide +kernel
theorem dX13_snaps_47 : decode cX13_snaps 47 = .ok (.ireturn, 1) := by decide +kernel
theorem dX13_snapsBy_0 : decode cX13_snapsBy 0 = .ok (.aload_n 0, 1) := by decide +kernel
theorem dX13_snapsBy_1 : decode cX13_snapsBy 1 = .ok (.iconst 0, 1) := by decide +kernel
theorem dX13_snapsBy_2 : decode cX13_snapsBy 2 = .ok (.putfield 46, 3) := by decide +kernel
theorem dX13_snapsBy_5 : decode cX13_snapsBy 5 = .ok (.aload_n 0, 1) := by decide +kernel
theorem dX13_snapsBy_6 : decode cX13_snapsBy 6 = .ok (.iload_n 1, 1) := by decide +kernel
theorem dX13_snapsBy_7 : decode cX13_snapsBy 7 = .ok (.iload_n 2, 1) := by decide +kernel
theorem dX13_snapsBy_8 : decode cX13_snapsBy 8 = .ok (.invokevirtual 408, 3) := by decide +kernel
theorem dX13_snapsBy_11 : decode cX13_snapsBy 11 = .ok (.ifCond .ne 9, 3) := by decide +kernel
theorem dX13_snapsBy_14 : decode cX13_snapsBy 14 = .ok (.aload_n 0, 1) := by decide +kernel
theorem dX13_snapsBy_15 : decode cX13_snapsBy 15 = .ok (.iconst 1, 1) := by decide +kernel
theorem dX13_snapsBy_16 : decode cX13_snapsBy 16 = .ok (.invokevirtual 52, 3) := by decide +kernel
theorem dX13_snapsBy_19 : decode cX13_snapsBy 19 = .ok (.ireturn, 1) := by decide +kernel
theorem dX13_snapsBy_20 : decode cX13_snapsBy 20 = .ok (.aload_n 0, 1) := by decide +kernel
theorem dX13_snapsBy_21 : decode cX13_snapsBy 21 = .ok (.iload_n 1, 1) := by decide +kernel
theorem dX13_snapsBy_22 : decode cX13_snapsBy 22 = .ok (.iload_n 2, 1) := by decide +kernel
theorem dX13_snapsBy_23 : decode cX13_snapsBy 23 = .ok (.invokevirtual 481, 3) := by decide +kernel
theorem dX13_snapsBy_26 : decode cX13_snapsBy 26 = .ok (.aload_n 0, 1) := by decide +kernel
theorem dX13_snapsBy_27 : decode cX13_snapsBy 27 = .ok (.invokevirtual 405, 3) := by decide +kernel
theorem dX13_snapsBy_30 : decode cX13_snapsBy 30 = .ok (.istore_n 3, 1) := by decide +kernel
theorem dX13_snapsBy_31 : decode cX13_snapsBy 31 = .ok (.aload_n 0, 1) := by decide +kernel
theorem dX13_snapsBy_32 : decode cX13_snapsBy 32 = .ok (.iload_n 1, 1) := by decide +kernel
theorem dX13_snapsBy_33 : decode cX13_snapsBy 33 = .ok (.iconst 0, 1) := by decide +kernel
theorem dX13_snapsBy_34 : decode cX13_snapsBy 34 = .ok (.invokevirtual 389, 3) := by decide +kernel
theorem dX13_snapsBy_37 : decode cX13_snapsBy 37 = .ok (.iload_n 2, 1) := by decide +kernel
theorem dX13_snapsBy_38 : decode cX13_snapsBy 38 = .ok (.invokestatic 277, 3) := by decide +kernel
theorem dX13_snapsBy_41 : decode cX13_snapsBy 41 = .ok (.ifCond .ne 10, 3) := by decide +kernel
theorem dX13_snapsBy_44 : decode cX13_snapsBy 44 = .ok (.aload_n 0, 1) := by decide +kernel
theorem dX13_snapsBy_45 : decode cX13_snapsBy 45 = .ok (.bipush (-2), 2) := by decide +kernel
theorem dX13_snapsBy_47 : decode cX13_snapsBy 47 = .ok (.invokevirtual 56, 3) := by decide +kernel
theorem dX13_snapsBy_50 : decode cX13_snapsBy 50 = .ok (.ireturn, 1) := by decide +kernel
theorem dX13_snapsBy_51 : decode cX13_snapsBy 51 = .ok (.iconst 0, 1) := by decide +kernel
theorem dX13_snapsBy_52 : decode cX13_snapsBy 52 = .ok (.istore 4, 2) := by decide +kernel
theorem dX13_snapsBy_54 : decode cX13_snapsBy 54 = .ok (.iload 4, 2) := by decide +kernel
theorem dX13_snapsBy_56 : decode cX13_snapsBy 56 = .ok (.aload_n 0, 1) := by decide +kernel
theorem dX13_snapsBy_57 : decode cX13_snapsBy 57 = .ok (.getfield 360, 3) := by decide +kernel
theorem dX13_snapsBy_60 : decode cX13_snapsBy 60 = .ok (.if_icmp .ge 41, 3) := by decide +kernel
theorem dX13_snapsBy_63 : decode cX13_snapsBy 63 = .ok (.iload_n 3, 1) := by decide +kernel
theorem dX13_snapsBy_64 : decode cX13_snapsBy 64 = .ok (.iload 4, 2) := by decide +kernel
theorem dX13_snapsBy_66 : decode cX13_snapsBy 66 = .ok (.invokestatic 277, 3) := by decide +kernel
theorem dX13_snapsBy_69 : decode cX13_snapsBy 69 = .ok (.ifCond .eq 26, 3) := by decide +kernel
theorem dX13_snapsBy_72 : decode cX13_snapsBy 72 = .ok (.aload_n 0, 1) := by decide +kernel
theorem dX13_snapsBy_73 : decode cX13_snapsBy 73 = .ok (.getfield 42, 3) := by decide +kernel
theorem dX13_snapsBy_76 : decode cX13_snapsBy 76 = .ok (.iload_n 3, 1) := by decide +kernel
theorem dX13_snapsBy_77 : decode cX13_snapsBy 77 = .ok (.iconst 1, 1) := by decide +kernel
theorem dX13_snapsBy_78 : decode cX13_snapsBy 78 = .ok (.iload 4, 2) := by decide +kernel
theorem dX13_snapsBy_80 : decode cX13_snapsBy 80 = .ok (.ishl, 1) := by decide +kernel
theorem dX13_snapsBy_81 : decode cX13_snapsBy 81 = .ok (.iconst (-1), 1) := by decide +kernel
theorem dX13_snapsBy_82 : decode cX13_snapsBy 82 = .ok (.ixor, 1) := by decide +kernel
theorem dX13_snapsBy_83 : decode cX13_snapsBy 83 = .ok (.iand, 1) := by decide +kernel
theorem dX13_snapsBy_84 : decode cX13_snapsBy 84 = .ok (.baload, 1) := by decide +kernel
theorem dX13_snapsBy_85 : decode cX13_snapsBy 85 = .ok (.ifCond .ne 10, 3) := by decide +kernel
theorem dX13_snapsBy_88 : decode cX13_snapsBy 88 = .ok (.aload_n 0, 1) := by decide +kernel
theorem dX13_snapsBy_89 : decode cX13_snapsBy 89 = .ok (.iload 4, 2) := by decide +kernel
theorem dX13_snapsBy_91 : decode cX13_snapsBy 91 = .ok (.invokevirtual 56, 3) := by decide +kernel
theorem dX13_snapsBy_94 : decode cX13_snapsBy 94 = .ok (.ireturn, 1) := by decide +kernel
theorem dX13_snapsBy_95 : decode cX13_snapsBy 95 = .ok (.iinc 4 1, 3) := by decide +kernel
theorem dX13_snapsBy_98 : decode cX13_snapsBy 98 = .ok (.goto (-44), 3) := by decide +kernel
theorem dX13_snapsBy_101 : decode cX13_snapsBy 101 = .ok (.aload_n 0, 1) := by decide +kernel
theorem dX13_snapsBy_102 : decode cX13_snapsBy 102 = .ok (.bipush (-2), 2) := by decide +kernel
theorem dX13_snapsBy_104 : decode cX13_snapsBy 104 = .ok (.invokevirtual 56, 3) := by decide +kernel
theorem dX13_snapsBy_107 : decode cX13_snapsBy 107 = .ok (.ireturn, 1) := by decide +kernel
theorem dX13_blown_0 : decode cX13_blown 0 = .ok (.iload_n 1, 1) := by decide +kernel
theorem dX13_blown_1 : decode cX13_blown 1 = .ok (.ifCond .eq 17, 3) := by decide +kernel
theorem dX13_blown_4 : decode cX13_blown 4 = .ok (.iload_n 2, 1) := by decide +kernel
theorem dX13_blown_5 : decode cX13_blown 5 = .ok (.ifCond .eq 9, 3) := by decide +kernel
theorem dX13_blown_8 : decode cX13_blown 8 = .ok (.iconst 1, 1) := by decide +kernel
theorem dX13_blown_9 : decode cX13_blown 9 = .ok (.iload_n 0, 1) := by decide +kernel
theorem dX13_blown_10 : decode cX13_blown 10 = .ok (.isub, 1) := by decide +kernel
theorem dX13_blown_11 : decode cX13_blown 11 = .ok (.goto 16, 3) := by decide +kernel
theorem dX13_blown_14 : decode cX13_blown 14 = .ok (.iconst 2, 1) := by decide +kernel
theorem dX13_blown_15 : decode cX13_blown 15 = .ok (.goto 12, 3) := by decide +kernel
theorem dX13_blown_18 : decode cX13_blown 18 = .ok (.iload_n 2, 1) := by decide +kernel
theorem dX13_blown_19 : decode cX13_blown 19 = .ok (.ifCond .eq 7, 3) := by decide +kernel
theorem dX13_blown_22 : decode cX13_blown 22 = .ok (.iconst (-1), 1) := by decide +kernel
theorem dX13_blown_23 : decode cX13_blown 23 = .ok (.goto 4, 3) := by decide +kernel
theorem dX13_blown_26 : decode cX13_blown 26 = .ok (.iconst 1, 1) := by decide +kernel
theorem dX13_blown_27 : decode cX13_blown 27 = .ok (.ireturn, 1) := by decide +kernel
theorem dX13_refusesWeb_0 : decode cX13_refusesWeb 0 = .ok (.aload_n 0, 1) := by decide +kernel
theorem dX13_refusesWeb_1 : decode cX13_refusesWeb 1 = .ok (.getfield 343, 3) := by decide +kernel
theorem dX13_refusesWeb_4 : decode cX13_refusesWeb 4 = .ok (.ifnonnull 7, 3) := by decide +kernel
theorem dX13_refusesWeb_7 : decode cX13_refusesWeb 7 = .ok (.iconst 1, 1) := by decide +kernel
theorem dX13_refusesWeb_8 : decode cX13_refusesWeb 8 = .ok (.goto 18, 3) := by decide +kernel
theorem dX13_refusesWeb_11 : decode cX13_refusesWeb 11 = .ok (.iload_n 1, 1) := by decide +kernel
theorem dX13_refusesWeb_12 : decode cX13_refusesWeb 12 = .ok (.iconst 0, 1) := by decide +kernel
theorem dX13_refusesWeb_13 : decode cX13_refusesWeb 13 = .ok (.bipush 9, 2) := by decide +kernel
theorem dX13_refusesWeb_15 : decode cX13_refusesWeb 15 = .ok (.invokestatic 121, 3) := by decide +kernel
theorem dX13_refusesWeb_18 : decode cX13_refusesWeb 18 = .ok (.ifCond .eq 7, 3) := by decide +kernel
theorem dX13_refusesWeb_21 : decode cX13_refusesWeb 21 = .ok (.iconst 0, 1) := by decide +kernel
theorem dX13_refusesWeb_22 : decode cX13_refusesWeb 22 = .ok (.goto 4, 3) := by decide +kernel
theorem dX13_refusesWeb_25 : decode cX13_refusesWeb 25 = .ok (.iconst 2, 1) := by decide +kernel
theorem dX13_refusesWeb_26 : decode cX13_refusesWeb 26 = .ok (.ireturn, 1) := by decide +kernel
theorem dX13_blows_0 : decode cX13_blows 0 = .ok (.aload_n 0, 1) := by decide +kernel
theorem dX13_blows_1 : decode cX13_blows 1 = .ok (.iconst 0, 1) := by decide +kernel
theorem dX13_blows_2 : decode cX13_blows 2 = .ok (.putfield 46, 3) := by decide +kernel
theorem dX13_blows_5 : decode cX13_blows 5 = .ok (.aload_n 0, 1) := by decide +kernel
theorem dX13_blows_6 : decode cX13_blows 6 = .ok (.iload_n 1, 1) := by decide +kernel
theorem dX13_blows_7 : decode cX13_blows 7 = .ok (.invokevirtual 484, 3) := by decide +kernel
theorem dX13_blows_10 : decode cX13_blows 10 = .ok (.istore 5, 2) := by decide +kernel
theorem dX13_blows_12 : decode cX13_blows 12 = .ok (.iload 5, 2) := by decide +kernel
theorem dX13_blows_14 : decode cX13_blows 14 = .ok (.ifCond .le 14, 3) := by decide +kernel
theorem dX13_blows_17 : decode cX13_blows 17 = .ok (.aload_n 0, 1) := by decide +kernel
theorem dX13_blows_18 : decode cX13_blows 18 = .ok (.iload 5, 2) := by decide +kernel
theorem dX13_blows_20 : decode cX13_blows 20 = .ok (.bipush (-100), 2) := by decide +kernel
theorem dX13_blows_22 : decode cX13_blows 22 = .ok (.invokevirtual 427, 3) := by decide +kernel
theorem dX13_blows_25 : decode cX13_blows 25 = .ok (.goto 27, 3) := by decide +kernel
theorem dX13_blows_28 : decode cX13_blows 28 = .ok (.aload_n 0, 1) := by decide +kernel
theorem dX13_blows_29 : decode cX13_blows 29 = .ok (.iload 4, 2) := by decide +kernel
theorem dX13_blows_31 : decode cX13_blows 31 = .ok (.ifCond .eq 12, 3) := by decide +kernel
theorem dX13_blows_34 : decode cX13_blows 34 = .ok (.iload_n 1, 1) := by decide +kernel
theorem dX13_blows_35 : decode cX13_blows 35 = .ok (.iload_n 3, 1) := by decide +kernel
theorem dX13_blows_36 : decode cX13_blows 36 = .ok (.iload_n 2, 1) := by decide +kernel
theorem dX13_blows_37 : decode cX13_blows 37 = .ok (.invokestatic 487, 3) := by decide +kernel
theorem dX13_blows_40 : decode cX13_blows 40 = .ok (.goto 9, 3) := by decide +kernel
theorem dX13_blows_43 : decode cX13_blows 43 = .ok (.iload_n 1, 1) := by decide +kernel
theorem dX13_blows_44 : decode cX13_blows 44 = .ok (.iload_n 2, 1) := by decide +kernel
theorem dX13_blows_45 : decode cX13_blows 45 = .ok (.iload_n 3, 1) := by decide +kernel
theorem dX13_blows_46 : decode cX13_blows 46 = .ok (.invokestatic 487, 3) := by decide +kernel
theorem dX13_blows_49 : decode cX13_blows 49 = .ok (.invokevirtual 56, 3) := by decide +kernel
theorem dX13_blows_52 : decode cX13_blows 52 = .ok (.ireturn, 1) := by decide +kernel
theorem dX13_isRest_0 : decode cX13_isRest 0 = .ok (.iload_n 1, 1) := by decide +kernel
theorem dX13_isRest_1 : decode cX13_isRest 1 = .ok (.iconst 1, 1) := by decide +kernel
theorem dX13_isRest_2 : decode cX13_isRest 2 = .ok (.if_icmp .le 7, 3) := by decide +kernel
theorem dX13_isRest_5 : decode cX13_isRest 5 = .ok (.iconst 1, 1) := by decide +kernel
theorem dX13_isRest_6 : decode cX13_isRest 6 = .ok (.goto 4, 3) := by decide +kernel
theorem dX13_isRest_9 : decode cX13_isRest 9 = .ok (.iconst 0, 1) := by decide +kernel
theorem dX13_isRest_10 : decode cX13_isRest 10 = .ok (.istore_n 2, 1) := by decide +kernel
theorem dX13_isRest_11 : decode cX13_isRest 11 = .ok (.iload_n 1, 1) := by decide +kernel
theorem dX13_isRest_12 : decode cX13_isRest 12 = .ok (.iconst 2, 1) := by decide +kernel
theorem dX13_isRest_13 : decode cX13_isRest 13 = .ok (.irem, 1) := by decide +kernel
theorem dX13_isRest_14 : decode cX13_isRest 14 = .ok (.iconst 1, 1) := by decide +kernel
theorem dX13_isRest_15 : decode cX13_isRest 15 = .ok (.if_icmp .ne 7, 3) := by decide +kernel
theorem dX13_isRest_18 : decode cX13_isRest 18 = .ok (.iconst 1, 1) := by decide +kernel
theorem dX13_isRest_19 : decode cX13_isRest 19 = .ok (.goto 4, 3) := by decide +kernel
theorem dX13_isRest_22 : decode cX13_isRest 22 = .ok (.iconst 0, 1) := by decide +kernel
theorem dX13_isRest_23 : decode cX13_isRest 23 = .ok (.istore_n 3, 1) := by decide +kernel
theorem dX13_isRest_24 : decode cX13_isRest 24 = .ok (.iload_n 0, 1) := by decide +kernel
theorem dX13_isRest_25 : decode cX13_isRest 25 = .ok (.iload_n 2, 1) := by decide +kernel
theorem dX13_isRest_26 : decode cX13_isRest 26 = .ok (.ifCond .ne 7, 3) := by decide +kernel
theorem dX13_isRest_29 : decode cX13_isRest 29 = .ok (.iconst 1, 1) := by decide +kernel
theorem dX13_isRest_30 : decode cX13_isRest 30 = .ok (.goto 4, 3) := by decide +kernel
theorem dX13_isRest_33 : decode cX13_isRest 33 = .ok (.iconst 0, 1) := by decide +kernel
theorem dX13_isRest_34 : decode cX13_isRest 34 = .ok (.iload_n 3, 1) := by decide +kernel
theorem dX13_isRest_35 : decode cX13_isRest 35 = .ok (.invokestatic 487, 3) := by decide +kernel
theorem dX13_isRest_38 : decode cX13_isRest 38 = .ok (.iload_n 0, 1) := by decide +kernel
theorem dX13_isRest_39 : decode cX13_isRest 39 = .ok (.iload_n 2, 1) := by decide +kernel
theorem dX13_isRest_40 : decode cX13_isRest 40 = .ok (.iload_n 3, 1) := by decide +kernel
theorem dX13_isRest_41 : decode cX13_isRest 41 = .ok (.invokestatic 487, 3) := by decide +kernel
theorem dX13_isRest_44 : decode cX13_isRest 44 = .ok (.if_icmp .gt 30, 3) := by decide +kernel
theorem dX13_isRest_47 : decode cX13_isRest 47 = .ok (.iload_n 0, 1) := by decide +kernel
theorem dX13_isRest_48 : decode cX13_isRest 48 = .ok (.iload_n 3, 1) := by decide +kernel
theorem dX13_isRest_49 : decode cX13_isRest 49 = .ok (.ifCond .ne 7, 3) := by decide +kernel
theorem dX13_isRest_52 : decode cX13_isRest 52 = .ok (.iconst 1, 1) := by decide +kernel
theorem dX13_isRest_53 : decode cX13_isRest 53 = .ok (.goto 4, 3) := by decide +kernel
theorem dX13_isRest_56 : decode cX13_isRest 56 = .ok (.iconst 0, 1) := by decide +kernel
theorem dX13_isRest_57 : decode cX13_isRest 57 = .ok (.iload_n 2, 1) := by decide +kernel
theorem dX13_isRest_58 : decode cX13_isRest 58 = .ok (.invokestatic 487, 3) := by decide +kernel
theorem dX13_isRest_61 : decode cX13_isRest 61 = .ok (.iload_n 0, 1) := by decide +kernel
theorem dX13_isRest_62 : decode cX13_isRest 62 = .ok (.iload_n 3, 1) := by decide +kernel
theorem dX13_isRest_63 : decode cX13_isRest 63 = .ok (.iload_n 2, 1) := by decide +kernel
theorem dX13_isRest_64 : decode cX13_isRest 64 = .ok (.invokestatic 487, 3) := by decide +kernel
theorem dX13_isRest_67 : decode cX13_isRest 67 = .ok (.if_icmp .gt 7, 3) := by decide +kernel
theorem dX13_isRest_70 : decode cX13_isRest 70 = .ok (.iconst 1, 1) := by decide +kernel
theorem dX13_isRest_71 : decode cX13_isRest 71 = .ok (.goto 4, 3) := by decide +kernel
theorem dX13_isRest_74 : decode cX13_isRest 74 = .ok (.iconst 0, 1) := by decide +kernel
theorem dX13_isRest_75 : decode cX13_isRest 75 = .ok (.ireturn, 1) := by decide +kernel
theorem dX13_rests_0 : decode cX13_rests 0 = .ok (.aload_n 0, 1) := by decide +kernel
theorem dX13_rests_1 : decode cX13_rests 1 = .ok (.iconst 0, 1) := by decide +kernel
theorem dX13_rests_2 : decode cX13_rests 2 = .ok (.putfield 46, 3) := by decide +kernel
theorem dX13_rests_5 : decode cX13_rests 5 = .ok (.aload_n 0, 1) := by decide +kernel
theorem dX13_rests_6 : decode cX13_rests 6 = .ok (.iload_n 1, 1) := by decide +kernel
theorem dX13_rests_7 : decode cX13_rests 7 = .ok (.invokevirtual 484, 3) := by decide +kernel
theorem dX13_rests_10 : decode cX13_rests 10 = .ok (.istore_n 2, 1) := by decide +kernel
theorem dX13_rests_11 : decode cX13_rests 11 = .ok (.iload_n 2, 1) := by decide +kernel
theorem dX13_rests_12 : decode cX13_rests 12 = .ok (.ifCond .le 9, 3) := by decide +kernel
theorem dX13_rests_15 : decode cX13_rests 15 = .ok (.aload_n 0, 1) := by decide +kernel
theorem dX13_rests_16 : decode cX13_rests 16 = .ok (.iload_n 2, 1) := by decide +kernel
theorem dX13_rests_17 : decode cX13_rests 17 = .ok (.invokevirtual 52, 3) := by decide +kernel
theorem dX13_rests_20 : decode cX13_rests 20 = .ok (.ireturn, 1) := by decide +kernel
theorem dX13_rests_21 : decode cX13_rests 21 = .ok (.iconst 0, 1) := by decide +kernel
theorem dX13_rests_22 : decode cX13_rests 22 = .ok (.istore_n 3, 1) := by decide +kernel
theorem dX13_rests_23 : decode cX13_rests 23 = .ok (.iconst 0, 1) := by decide +kernel
theorem dX13_rests_24 : decode cX13_rests 24 = .ok (.istore 4, 2) := by decide +kernel
theorem dX13_rests_26 : decode cX13_rests 26 = .ok (.iload 4, 2) := by decide +kernel
theorem dX13_rests_28 : decode cX13_rests 28 = .ok (.iconst 4, 1) := by decide +kernel
theorem dX13_rests_29 : decode cX13_rests 29 = .ok (.if_icmp .ge 26, 3) := by decide +kernel
theorem dX13_rests_32 : decode cX13_rests 32 = .ok (.iload_n 3, 1) := by decide +kernel
theorem dX13_rests_33 : decode cX13_rests 33 = .ok (.iload_n 1, 1) := by decide +kernel
theorem dX13_rests_34 : decode cX13_rests 34 = .ok (.iload 4, 2) := by decide +kernel
theorem dX13_rests_36 : decode cX13_rests 36 = .ok (.invokestatic 491, 3) := by decide +kernel
theorem dX13_rests_39 : decode cX13_rests 39 = .ok (.ifCond .eq 7, 3) := by decide +kernel
theorem dX13_rests_42 : decode cX13_rests 42 = .ok (.iconst 1, 1) := by decide +kernel
theorem dX13_rests_43 : decode cX13_rests 43 = .ok (.goto 4, 3) := by decide +kernel
theorem dX13_rests_46 : decode cX13_rests 46 = .ok (.iconst 0, 1) := by decide +kernel
theorem dX13_rests_47 : decode cX13_rests 47 = .ok (.iadd, 1) := by decide +kernel
theorem dX13_rests_48 : decode cX13_rests 48 = .ok (.istore_n 3, 1) := by decide +kernel
theorem dX13_rests_49 : decode cX13_rests 49 = .ok (.iinc 4 1, 3) := by decide +kernel
theorem dX13_rests_52 : decode cX13_rests 52 = .ok (.goto (-26), 3) := by decide +kernel
theorem dX13_rests_55 : decode cX13_rests 55 = .ok (.aload_n 0, 1) := by decide +kernel
theorem dX13_rests_56 : decode cX13_rests 56 = .ok (.iload_n 3, 1) := by decide +kernel
theorem dX13_rests_57 : decode cX13_rests 57 = .ok (.invokevirtual 56, 3) := by decide +kernel
theorem dX13_rests_60 : decode cX13_rests 60 = .ok (.ireturn, 1) := by decide +kernel
theorem dX13_rest_0 : decode cX13_rest 0 = .ok (.aload_n 0, 1) := by decide +kernel
theorem dX13_rest_1 : decode cX13_rest 1 = .ok (.iconst 0, 1) := by decide +kernel
theorem dX13_rest_2 : decode cX13_rest 2 = .ok (.putfield 46, 3) := by decide +kernel
theorem dX13_rest_5 : decode cX13_rest 5 = .ok (.aload_n 0, 1) := by decide +kernel
theorem dX13_rest_6 : decode cX13_rest 6 = .ok (.iload_n 1, 1) := by decide +kernel
theorem dX13_rest_7 : decode cX13_rest 7 = .ok (.invokevirtual 484, 3) := by decide +kernel
theorem dX13_rest_10 : decode cX13_rest 10 = .ok (.istore_n 2, 1) := by decide +kernel
theorem dX13_rest_11 : decode cX13_rest 11 = .ok (.iload_n 2, 1) := by decide +kernel
theorem dX13_rest_12 : decode cX13_rest 12 = .ok (.ifCond .le 9, 3) := by decide +kernel
theorem dX13_rest_15 : decode cX13_rest 15 = .ok (.aload_n 0, 1) := by decide +kernel
theorem dX13_rest_16 : decode cX13_rest 16 = .ok (.iload_n 2, 1) := by decide +kernel
theorem dX13_rest_17 : decode cX13_rest 17 = .ok (.invokevirtual 52, 3) := by decide +kernel
theorem dX13_rest_20 : decode cX13_rest 20 = .ok (.ireturn, 1) := by decide +kernel
theorem dX13_rest_21 : decode cX13_rest 21 = .ok (.iconst 0, 1) := by decide +kernel
theorem dX13_rest_22 : decode cX13_rest 22 = .ok (.istore_n 3, 1) := by decide +kernel
theorem dX13_rest_23 : decode cX13_rest 23 = .ok (.iload_n 3, 1) := by decide +kernel
theorem dX13_rest_24 : decode cX13_rest 24 = .ok (.iconst 4, 1) := by decide +kernel
theorem dX13_rest_25 : decode cX13_rest 25 = .ok (.if_icmp .ge 32, 3) := by decide +kernel
theorem dX13_rest_28 : decode cX13_rest 28 = .ok (.iload_n 1, 1) := by decide +kernel
theorem dX13_rest_29 : decode cX13_rest 29 = .ok (.iload_n 3, 1) := by decide +kernel
theorem dX13_rest_30 : decode cX13_rest 30 = .ok (.invokestatic 491, 3) := by decide +kernel
theorem dX13_rest_33 : decode cX13_rest 33 = .ok (.ifCond .eq 18, 3) := by decide +kernel
theorem dX13_rest_36 : decode cX13_rest 36 = .ok (.aload_n 0, 1) := by decide +kernel
theorem dX13_rest_37 : decode cX13_rest 37 = .ok (.bipush 10, 2) := by decide +kernel
theorem dX13_rest_39 : decode cX13_rest 39 = .ok (.iload_n 3, 1) := by decide +kernel
theorem dX13_rest_40 : decode cX13_rest 40 = .ok (.iconst 2, 1) := by decide +kernel
theorem dX13_rest_41 : decode cX13_rest 41 = .ok (.idiv, 1) := by decide +kernel
theorem dX13_rest_42 : decode cX13_rest 42 = .ok (.imul, 1) := by decide +kernel
theorem dX13_rest_43 : decode cX13_rest 43 = .ok (.iload_n 3, 1) := by decide +kernel
theorem dX13_rest_44 : decode cX13_rest 44 = .ok (.iconst 2, 1) := by decide +kernel
theorem dX13_rest_45 : decode cX13_rest 45 = .ok (.irem, 1) := by decide +kernel
theorem dX13_rest_46 : decode cX13_rest 46 = .ok (.iadd, 1) := by decide +kernel
theorem dX13_rest_47 : decode cX13_rest 47 = .ok (.invokevirtual 56, 3) := by decide +kernel
theorem dX13_rest_50 : decode cX13_rest 50 = .ok (.ireturn, 1) := by decide +kernel
theorem dX13_rest_51 : decode cX13_rest 51 = .ok (.iinc 3 1, 3) := by decide +kernel
theorem dX13_rest_54 : decode cX13_rest 54 = .ok (.goto (-31), 3) := by decide +kernel
theorem dX13_rest_57 : decode cX13_rest 57 = .ok (.aload_n 0, 1) := by decide +kernel
theorem dX13_rest_58 : decode cX13_rest 58 = .ok (.bipush (-2), 2) := by decide +kernel
theorem dX13_rest_60 : decode cX13_rest 60 = .ok (.invokevirtual 56, 3) := by decide +kernel
theorem dX13_rest_63 : decode cX13_rest 63 = .ok (.ireturn, 1) := by decide +kernel
theorem dX13_partOf_0 : decode cX13_partOf 0 = .ok (.lconst 1, 1) := by decide +kernel
theorem dX13_partOf_1 : decode cX13_partOf 1 = .ok (.lstore_n 3, 1) := by decide +kernel
theorem dX13_partOf_2 : decode cX13_partOf 2 = .ok (.aload_n 0, 1) := by decide +kernel
theorem dX13_partOf_3 : decode cX13_partOf 3 = .ok (.lconst 1, 1) := by decide +kernel
theorem dX13_partOf_4 : decode cX13_partOf 4 = .ok (.putfield 494, 3) := by decide +kernel
theorem dX13_partOf_7 : decode cX13_partOf 7 = .ok (.iconst 0, 1) := by decide +kernel
theorem dX13_partOf_8 : decode cX13_partOf 8 = .ok (.istore 5, 2) := by decide +kernel
theorem dX13_partOf_10 : decode cX13_partOf 10 = .ok (.iload 5, 2) := by decide +kernel
theorem dX13_partOf_12 : decode cX13_partOf 12 = .ok (.aload_n 0, 1) := by decide +kernel
theorem dX13_partOf_13 : decode cX13_partOf 13 = .ok (.getfield 360, 3) := by decide +kernel
theorem dX13_partOf_16 : decode cX13_partOf 16 = .ok (.if_icmp .ge 67, 3) := by decide +kernel
theorem dX13_partOf_19 : decode cX13_partOf 19 = .ok (.iload_n 1, 1) := by decide +kernel
theorem dX13_partOf_20 : decode cX13_partOf 20 = .ok (.iload 5, 2) := by decide +kernel
theorem dX13_partOf_22 : decode cX13_partOf 22 = .ok (.invokestatic 277, 3) := by decide +kernel
theorem dX13_partOf_25 : decode cX13_partOf 25 = .ok (.ifCond .ne 6, 3) := by decide +kernel
theorem dX13_partOf_28 : decode cX13_partOf 28 = .ok (.goto 49, 3) := by decide +kernel
theorem dX13_partOf_31 : decode cX13_partOf 31 = .ok (.lload_n 3, 1) := by decide +kernel
theorem dX13_partOf_32 : decode cX13_partOf 32 = .ok (.iload_n 2, 1) := by decide +kernel
theorem dX13_partOf_33 : decode cX13_partOf 33 = .ok (.iload 5, 2) := by decide +kernel
theorem dX13_partOf_35 : decode cX13_partOf 35 = .ok (.invokestatic 277, 3) := by decide +kernel
theorem dX13_partOf_38 : decode cX13_partOf 38 = .ok (.ifCond .eq 14, 3) := by decide +kernel
theorem dX13_partOf_41 : decode cX13_partOf 41 = .ok (.aload_n 0, 1) := by decide +kernel
theorem dX13_partOf_42 : decode cX13_partOf 42 = .ok (.getfield 343, 3) := by decide +kernel
theorem dX13_partOf_45 : decode cX13_partOf 45 = .ok (.getfield 228, 3) := by decide +kernel
theorem dX13_partOf_48 : decode cX13_partOf 48 = .ok (.i2l, 1) := by decide +kernel
theorem dX13_partOf_49 : decode cX13_partOf 49 = .ok (.goto 14, 3) := by decide +kernel
theorem dX13_partOf_52 : decode cX13_partOf 52 = .ok (.bipush 100, 2) := by decide +kernel
theorem dX13_partOf_54 : decode cX13_partOf 54 = .ok (.aload_n 0, 1) := by decide +kernel
theorem dX13_partOf_55 : decode cX13_partOf 55 = .ok (.getfield 343, 3) := by decide +kernel
theorem dX13_partOf_58 : decode cX13_partOf 58 = .ok (.getfield 228, 3) := by decide +kernel
theorem dX13_partOf_61 : decode cX13_partOf 61 = .ok (.isub, 1) := by decide +kernel
theorem dX13_partOf_62 : decode cX13_partOf 62 = .ok (.i2l, 1) := by decide +kernel
theorem dX13_partOf_63 : decode cX13_partOf 63 = .ok (.lmul, 1) := by decide +kernel
theorem dX13_partOf_64 : decode cX13_partOf 64 = .ok (.lstore_n 3, 1) := by decide +kernel
theorem dX13_partOf_65 : decode cX13_partOf 65 = .ok (.aload_n 0, 1) := by decide +kernel
theorem dX13_partOf_66 : decode cX13_partOf 66 = .ok (.dup, 1) := by decide +kernel
theorem dX13_partOf_67 : decode cX13_partOf 67 = .ok (.getfield 494, 3) := by decide +kernel
theorem dX13_partOf_70 : decode cX13_partOf 70 = .ok (.ldc2_w 497, 3) := by decide +kernel
theorem dX13_partOf_73 : decode cX13_partOf 73 = .ok (.lmul, 1) := by decide +kernel
theorem dX13_partOf_74 : decode cX13_partOf 74 = .ok (.putfield 494, 3) := by decide +kernel
theorem dX13_partOf_77 : decode cX13_partOf 77 = .ok (.iinc 5 1, 3) := by decide +kernel
theorem dX13_partOf_80 : decode cX13_partOf 80 = .ok (.goto (-70), 3) := by decide +kernel
theorem dX13_partOf_83 : decode cX13_partOf 83 = .ok (.lload_n 3, 1) := by decide +kernel
theorem dX13_partOf_84 : decode cX13_partOf 84 = .ok (.lreturn, 1) := by decide +kernel
theorem dX13_bearOdds_0 : decode cX13_bearOdds 0 = .ok (.aload_n 0, 1) := by decide +kernel
theorem dX13_bearOdds_1 : decode cX13_bearOdds 1 = .ok (.iconst 0, 1) := by decide +kernel
theorem dX13_bearOdds_2 : decode cX13_bearOdds 2 = .ok (.putfield 46, 3) := by decide +kernel
theorem dX13_bearOdds_5 : decode cX13_bearOdds 5 = .ok (.aload_n 0, 1) := by decide +kernel
theorem dX13_bearOdds_6 : decode cX13_bearOdds 6 = .ok (.iload_n 1, 1) := by decide +kernel
theorem dX13_bearOdds_7 : decode cX13_bearOdds 7 = .ok (.iload_n 2, 1) := by decide +kernel
theorem dX13_bearOdds_8 : decode cX13_bearOdds 8 = .ok (.invokevirtual 408, 3) := by decide +kernel
theorem dX13_bearOdds_11 : decode cX13_bearOdds 11 = .ok (.ifCond .ne 10, 3) := by decide +kernel
theorem dX13_bearOdds_14 : decode cX13_bearOdds 14 = .ok (.aload_n 0, 1) := by decide +kernel
theorem dX13_bearOdds_15 : decode cX13_bearOdds 15 = .ok (.iconst 1, 1) := by decide +kernel
theorem dX13_bearOdds_16 : decode cX13_bearOdds 16 = .ok (.invokevirtual 52, 3) := by decide +kernel
theorem dX13_bearOdds_19 : decode cX13_bearOdds 19 = .ok (.i2l, 1) := by decide +kernel
theorem dX13_bearOdds_20 : decode cX13_bearOdds 20 = .ok (.lreturn, 1) := by decide +kernel
theorem dX13_bearOdds_21 : decode cX13_bearOdds 21 = .ok (.iload_n 3, 1) := by decide +kernel
theorem dX13_bearOdds_22 : decode cX13_bearOdds 22 = .ok (.iconst 0, 1) := by decide +kernel
theorem dX13_bearOdds_23 : decode cX13_bearOdds 23 = .ok (.sipush 800, 3) := by decide +kernel
theorem dX13_bearOdds_26 : decode cX13_bearOdds 26 = .ok (.invokestatic 121, 3) := by decide +kernel
theorem dX13_bearOdds_29 : decode cX13_bearOdds 29 = .ok (.ifCond .ne 10, 3) := by decide +kernel
theorem dX13_bearOdds_32 : decode cX13_bearOdds 32 = .ok (.aload_n 0, 1) := by decide +kernel
theorem dX13_bearOdds_33 : decode cX13_bearOdds 33 = .ok (.iconst 2, 1) := by decide +kernel
theorem dX13_bearOdds_34 : decode cX13_bearOdds 34 = .ok (.invokevirtual 52, 3) := by decide +kernel
theorem dX13_bearOdds_37 : decode cX13_bearOdds 37 = .ok (.i2l, 1) := by decide +kernel
theorem dX13_bearOdds_38 : decode cX13_bearOdds 38 = .ok (.lreturn, 1) := by decide +kernel
theorem dX13_bearOdds_39 : decode cX13_bearOdds 39 = .ok (.aload_n 0, 1) := by decide +kernel
theorem dX13_bearOdds_40 : decode cX13_bearOdds 40 = .ok (.iconst 0, 1) := by decide +kernel
theorem dX13_bearOdds_41 : decode cX13_bearOdds 41 = .ok (.invokevirtual 398, 3) := by decide +kernel
theorem dX13_bearOdds_44 : decode cX13_bearOdds 44 = .ok (.aload_n 0, 1) := by decide +kernel
theorem dX13_bearOdds_45 : decode cX13_bearOdds 45 = .ok (.invokevirtual 405, 3) := by decide +kernel
theorem dX13_bearOdds_48 : decode cX13_bearOdds 48 = .ok (.istore 5, 2) := by decide +kernel
theorem dX13_bearOdds_50 : decode cX13_bearOdds 50 = .ok (.lconst 0, 1) := by decide +kernel
theorem dX13_bearOdds_51 : decode cX13_bearOdds 51 = .ok (.lstore 6, 2) := by decide +kernel
theorem dX13_bearOdds_53 : decode cX13_bearOdds 53 = .ok (.iconst 0, 1) := by decide +kernel
theorem dX13_bearOdds_54 : decode cX13_bearOdds 54 = .ok (.istore 8, 2) := by decide +kernel
theorem dX13_bearOdds_56 : decode cX13_bearOdds 56 = .ok (.iload 8, 2) := by decide +kernel
theorem dX13_bearOdds_58 : decode cX13_bearOdds 58 = .ok (.iload 5, 2) := by decide +kernel
theorem dX13_bearOdds_60 : decode cX13_bearOdds 60 = .ok (.if_icmp .gt 62, 3) := by decide +kernel
theorem dX13_bearOdds_63 : decode cX13_bearOdds 63 = .ok (.iload 8, 2) := by decide +kernel
theorem dX13_bearOdds_65 : decode cX13_bearOdds 65 = .ok (.iload 5, 2) := by decide +kernel
theorem dX13_bearOdds_67 : decode cX13_bearOdds 67 = .ok (.iconst (-1), 1) := by decide +kernel
theorem dX13_bearOdds_68 : decode cX13_bearOdds 68 = .ok (.ixor, 1) := by decide +kernel
theorem dX13_bearOdds_69 : decode cX13_bearOdds 69 = .ok (.iand, 1) := by decide +kernel
theorem dX13_bearOdds_70 : decode cX13_bearOdds 70 = .ok (.ifCond .eq 6, 3) := by decide +kernel
theorem dX13_bearOdds_73 : decode cX13_bearOdds 73 = .ok (.goto 43, 3) := by decide +kernel
theorem dX13_bearOdds_76 : decode cX13_bearOdds 76 = .ok (.aload_n 0, 1) := by decide +kernel
theorem dX13_bearOdds_77 : decode cX13_bearOdds 77 = .ok (.iload 5, 2) := by decide +kernel
theorem dX13_bearOdds_79 : decode cX13_bearOdds 79 = .ok (.iload 8, 2) := by decide +kernel
theorem dX13_bearOdds_81 : decode cX13_bearOdds 81 = .ok (.invokevirtual 499, 3) := by decide +kernel
theorem dX13_bearOdds_84 : decode cX13_bearOdds 84 = .ok (.lstore 9, 2) := by decide +kernel
theorem dX13_bearOdds_86 : decode cX13_bearOdds 86 = .ok (.lload 6, 2) := by decide +kernel
theorem dX13_bearOdds_88 : decode cX13_bearOdds 88 = .ok (.lload 9, 2) := by decide +kernel
theorem dX13_bearOdds_90 : decode cX13_bearOdds 90 = .ok (.lconst 0, 1) := by decide +kernel
theorem dX13_bearOdds_91 : decode cX13_bearOdds 91 = .ok (.lcmp, 1) := by decide +kernel
theorem dX13_bearOdds_92 : decode cX13_bearOdds 92 = .ok (.ifCond .le 20, 3) := by decide +kernel
theorem dX13_bearOdds_95 : decode cX13_bearOdds 95 = .ok (.aload_n 0, 1) := by decide +kernel
theorem dX13_bearOdds_96 : decode cX13_bearOdds 96 = .ok (.iload_n 1, 1) := by decide +kernel
theorem dX13_bearOdds_97 : decode cX13_bearOdds 97 = .ok (.iload_n 2, 1) := by decide +kernel
theorem dX13_bearOdds_98 : decode cX13_bearOdds 98 = .ok (.iload 8, 2) := by decide +kernel
theorem dX13_bearOdds_100 : decode cX13_bearOdds 100 = .ok (.invokevirtual 411, 3) := by decide +kernel
theorem dX13_bearOdds_103 : decode cX13_bearOdds 103 = .ok (.iload_n 3, 1) := by decide +kernel
theorem dX13_bearOdds_104 : decode cX13_bearOdds 104 = .ok (.if_icmp .lt 8, 3) := by decide +kernel
theorem dX13_bearOdds_107 : decode cX13_bearOdds 107 = .ok (.lload 9, 2) := by decide +kernel
theorem dX13_bearOdds_109 : decode cX13_bearOdds 109 = .ok (.goto 4, 3) := by decide +kernel
theorem dX13_bearOdds_112 : decode cX13_bearOdds 112 = .ok (.lconst 0, 1) := by decide +kernel
theorem dX13_bearOdds_113 : decode cX13_bearOdds 113 = .ok (.ladd, 1) := by decide +kernel
theorem dX13_bearOdds_114 : decode cX13_bearOdds 114 = .ok (.lstore 6, 2) := by decide +kernel
theorem dX13_bearOdds_116 : decode cX13_bearOdds 116 = .ok (.iinc 8 1, 3) := by decide +kernel
theorem dX13_bearOdds_119 : decode cX13_bearOdds 119 = .ok (.goto (-63), 3) := by decide +kernel
theorem dX13_bearOdds_122 : decode cX13_bearOdds 122 = .ok (.aload_n 0, 1) := by decide +kernel
theorem dX13_bearOdds_123 : decode cX13_bearOdds 123 = .ok (.lload 6, 2) := by decide +kernel
theorem dX13_bearOdds_125 : decode cX13_bearOdds 125 = .ok (.aload_n 0, 1) := by decide +kernel
theorem dX13_bearOdds_126 : decode cX13_bearOdds 126 = .ok (.getfield 494, 3) := by decide +kernel
theorem dX13_bearOdds_129 : decode cX13_bearOdds 129 = .ok (.iload 4, 2) := by decide +kernel
theorem dX13_bearOdds_131 : decode cX13_bearOdds 131 = .ok (.invokevirtual 468, 3) := by decide +kernel
theorem dX13_bearOdds_134 : decode cX13_bearOdds 134 = .ok (.lreturn, 1) := by decide +kernel
theorem dX13_mean_0 : decode cX13_mean 0 = .ok (.aload_n 0, 1) := by decide +kernel
theorem dX13_mean_1 : decode cX13_mean 1 = .ok (.iconst 0, 1) := by decide +kernel
theorem dX13_mean_2 : decode cX13_mean 2 = .ok (.putfield 46, 3) := by decide +kernel
theorem dX13_mean_5 : decode cX13_mean 5 = .ok (.aload_n 0, 1) := by decide +kernel
theorem dX13_mean_6 : decode cX13_mean 6 = .ok (.iload_n 1, 1) := by decide +kernel
theorem dX13_mean_7 : decode cX13_mean 7 = .ok (.iload_n 2, 1) := by decide +kernel
theorem dX13_mean_8 : decode cX13_mean 8 = .ok (.invokevirtual 408, 3) := by decide +kernel
theorem dX13_mean_11 : decode cX13_mean 11 = .ok (.ifCond .ne 10, 3) := by decide +kernel
theorem dX13_mean_14 : decode cX13_mean 14 = .ok (.aload_n 0, 1) := by decide +kernel
theorem dX13_mean_15 : decode cX13_mean 15 = .ok (.iconst 1, 1) := by decide +kernel
theorem dX13_mean_16 : decode cX13_mean 16 = .ok (.invokevirtual 52, 3) := by decide +kernel
theorem dX13_mean_19 : decode cX13_mean 19 = .ok (.i2l, 1) := by decide +kernel
theorem dX13_mean_20 : decode cX13_mean 20 = .ok (.lreturn, 1) := by decide +kernel
theorem dX13_mean_21 : decode cX13_mean 21 = .ok (.aload_n 0, 1) := by decide +kernel
theorem dX13_mean_22 : decode cX13_mean 22 = .ok (.iconst 0, 1) := by decide +kernel
theorem dX13_mean_23 : decode cX13_mean 23 = .ok (.invokevirtual 398, 3) := by decide +kernel
theorem dX13_mean_26 : decode cX13_mean 26 = .ok (.aload_n 0, 1) := by decide +kernel
theorem dX13_mean_27 : decode cX13_mean 27 = .ok (.invokevirtual 405, 3) := by decide +kernel
theorem dX13_mean_30 : decode cX13_mean 30 = .ok (.istore 4, 2) := by decide +kernel
theorem dX13_mean_32 : decode cX13_mean 32 = .ok (.lconst 0, 1) := by decide +kernel
theorem dX13_mean_33 : decode cX13_mean 33 = .ok (.lstore 5, 2) := by decide +kernel
theorem dX13_mean_35 : decode cX13_mean 35 = .ok (.iconst 0, 1) := by decide +kernel
theorem dX13_mean_36 : decode cX13_mean 36 = .ok (.istore 7, 2) := by decide +kernel
theorem dX13_mean_38 : decode cX13_mean 38 = .ok (.iload 7, 2) := by decide +kernel
theorem dX13_mean_40 : decode cX13_mean 40 = .ok (.iload 4, 2) := by decide +kernel
theorem dX13_mean_42 : decode cX13_mean 42 = .ok (.if_icmp .gt 60, 3) := by decide +kernel
theorem dX13_mean_45 : decode cX13_mean 45 = .ok (.iload 7, 2) := by decide +kernel
theorem dX13_mean_47 : decode cX13_mean 47 = .ok (.iload 4, 2) := by decide +kernel
theorem dX13_mean_49 : decode cX13_mean 49 = .ok (.iconst (-1), 1) := by decide +kernel
theorem dX13_mean_50 : decode cX13_mean 50 = .ok (.ixor, 1) := by decide +kernel
theorem dX13_mean_51 : decode cX13_mean 51 = .ok (.iand, 1) := by decide +kernel
theorem dX13_mean_52 : decode cX13_mean 52 = .ok (.ifCond .eq 6, 3) := by decide +kernel
theorem dX13_mean_55 : decode cX13_mean 55 = .ok (.goto 41, 3) := by decide +kernel
theorem dX13_mean_58 : decode cX13_mean 58 = .ok (.aload_n 0, 1) := by decide +kernel
theorem dX13_mean_59 : decode cX13_mean 59 = .ok (.iload 4, 2) := by decide +kernel
theorem dX13_mean_61 : decode cX13_mean 61 = .ok (.iload 7, 2) := by decide +kernel
theorem dX13_mean_63 : decode cX13_mean 63 = .ok (.invokevirtual 499, 3) := by decide +kernel
theorem dX13_mean_66 : decode cX13_mean 66 = .ok (.lstore 8, 2) := by decide +kernel
theorem dX13_mean_68 : decode cX13_mean 68 = .ok (.lload 5, 2) := by decide +kernel
theorem dX13_mean_70 : decode cX13_mean 70 = .ok (.lload 8, 2) := by decide +kernel
theorem dX13_mean_72 : decode cX13_mean 72 = .ok (.lconst 0, 1) := by decide +kernel
theorem dX13_mean_73 : decode cX13_mean 73 = .ok (.lcmp, 1) := by decide +kernel
theorem dX13_mean_74 : decode cX13_mean 74 = .ok (.ifCond .le 18, 3) := by decide +kernel
theorem dX13_mean_77 : decode cX13_mean 77 = .ok (.lload 8, 2) := by decide +kernel
theorem dX13_mean_79 : decode cX13_mean 79 = .ok (.aload_n 0, 1) := by decide +kernel
theorem dX13_mean_80 : decode cX13_mean 80 = .ok (.iload_n 1, 1) := by decide +kernel
theorem dX13_mean_81 : decode cX13_mean 81 = .ok (.iload_n 2, 1) := by decide +kernel
theorem dX13_mean_82 : decode cX13_mean 82 = .ok (.iload 7, 2) := by decide +kernel
theorem dX13_mean_84 : decode cX13_mean 84 = .ok (.invokevirtual 411, 3) := by decide +kernel
theorem dX13_mean_87 : decode cX13_mean 87 = .ok (.i2l, 1) := by decide +kernel
theorem dX13_mean_88 : decode cX13_mean 88 = .ok (.lmul, 1) := by decide +kernel
theorem dX13_mean_89 : decode cX13_mean 89 = .ok (.goto 4, 3) := by decide +kernel
theorem dX13_mean_92 : decode cX13_mean 92 = .ok (.lconst 0, 1) := by decide +kernel
theorem dX13_mean_93 : decode cX13_mean 93 = .ok (.ladd, 1) := by decide +kernel
theorem dX13_mean_94 : decode cX13_mean 94 = .ok (.lstore 5, 2) := by decide +kernel
theorem dX13_mean_96 : decode cX13_mean 96 = .ok (.iinc 7 1, 3) := by decide +kernel
theorem dX13_mean_99 : decode cX13_mean 99 = .ok (.goto (-61), 3) := by decide +kernel
theorem dX13_mean_102 : decode cX13_mean 102 = .ok (.aload_n 0, 1) := by decide +kernel
theorem dX13_mean_103 : decode cX13_mean 103 = .ok (.lload 5, 2) := by decide +kernel
theorem dX13_mean_105 : decode cX13_mean 105 = .ok (.aload_n 0, 1) := by decide +kernel
theorem dX13_mean_106 : decode cX13_mean 106 = .ok (.getfield 494, 3) := by decide +kernel
theorem dX13_mean_109 : decode cX13_mean 109 = .ok (.iload_n 3, 1) := by decide +kernel
theorem dX13_mean_110 : decode cX13_mean 110 = .ok (.invokevirtual 468, 3) := by decide +kernel
theorem dX13_mean_113 : decode cX13_mean 113 = .ok (.lreturn, 1) := by decide +kernel
theorem dX13_clerksYear_0 : decode cX13_clerksYear 0 = .ok (.aload_n 0, 1) := by decide +kernel
theorem dX13_clerksYear_1 : decode cX13_clerksYear 1 = .ok (.getfield 21, 3) := by decide +kernel
theorem dX13_clerksYear_4 : decode cX13_clerksYear 4 = .ok (.bipush 25, 2) := by decide +kernel
theorem dX13_clerksYear_6 : decode cX13_clerksYear 6 = .ok (.dup2, 1) := by decide +kernel
theorem dX13_clerksYear_7 : decode cX13_clerksYear 7 = .ok (.iaload, 1) := by decide +kernel
theorem dX13_clerksYear_8 : decode cX13_clerksYear 8 = .ok (.iconst 1, 1) := by decide +kernel
theorem dX13_clerksYear_9 : decode cX13_clerksYear 9 = .ok (.iadd, 1) := by decide +kernel
theorem dX13_clerksYear_10 : decode cX13_clerksYear 10 = .ok (.iastore, 1) := by decide +kernel
theorem dX13_clerksYear_11 : decode cX13_clerksYear 11 = .ok (.aload_n 0, 1) := by decide +kernel
theorem dX13_clerksYear_12 : decode cX13_clerksYear 12 = .ok (.iconst 0, 1) := by decide +kernel
theorem dX13_clerksYear_13 : decode cX13_clerksYear 13 = .ok (.invokevirtual 379, 3) := by decide +kernel
theorem dX13_clerksYear_16 : decode cX13_clerksYear 16 = .ok (.aload_n 0, 1) := by decide +kernel
theorem dX13_clerksYear_17 : decode cX13_clerksYear 17 = .ok (.invokevirtual 405, 3) := by decide +kernel
theorem dX13_clerksYear_20 : decode cX13_clerksYear 20 = .ok (.istore_n 1, 1) := by decide +kernel
theorem dX13_clerksYear_21 : decode cX13_clerksYear 21 = .ok (.iconst 0, 1) := by decide +kernel
theorem dX13_clerksYear_22 : decode cX13_clerksYear 22 = .ok (.istore_n 2, 1) := by decide +kernel
theorem dX13_clerksYear_23 : decode cX13_clerksYear 23 = .ok (.iload_n 2, 1) := by decide +kernel
theorem dX13_clerksYear_24 : decode cX13_clerksYear 24 = .ok (.aload_n 0, 1) := by decide +kernel
theorem dX13_clerksYear_25 : decode cX13_clerksYear 25 = .ok (.getfield 21, 3) := by decide +kernel
theorem dX13_clerksYear_28 : decode cX13_clerksYear 28 = .ok (.bipush 24, 2) := by decide +kernel
theorem dX13_clerksYear_30 : decode cX13_clerksYear 30 = .ok (.iaload, 1) := by decide +kernel
theorem dX13_clerksYear_31 : decode cX13_clerksYear 31 = .ok (.if_icmp .ge 69, 3) := by decide +kernel
theorem dX13_clerksYear_34 : decode cX13_clerksYear 34 = .ok (.iload_n 1, 1) := by decide +kernel
theorem dX13_clerksYear_35 : decode cX13_clerksYear 35 = .ok (.iload_n 2, 1) := by decide +kernel
theorem dX13_clerksYear_36 : decode cX13_clerksYear 36 = .ok (.invokestatic 277, 3) := by decide +kernel
theorem dX13_clerksYear_39 : decode cX13_clerksYear 39 = .ok (.ifCond .ne 6, 3) := by decide +kernel
theorem dX13_clerksYear_42 : decode cX13_clerksYear 42 = .ok (.goto 52, 3) := by decide +kernel
theorem dX13_clerksYear_45 : decode cX13_clerksYear 45 = .ok (.aload_n 0, 1) := by decide +kernel
theorem dX13_clerksYear_46 : decode cX13_clerksYear 46 = .ok (.ldc2_w 503, 3) := by decide +kernel
theorem dX13_clerksYear_49 : decode cX13_clerksYear 49 = .ok (.aload_n 0, 1) := by decide +kernel
theorem dX13_clerksYear_50 : decode cX13_clerksYear 50 = .ok (.getfield 505, 3) := by decide +kernel
theorem dX13_clerksYear_53 : decode cX13_clerksYear 53 = .ok (.i2l, 1) := by decide +kernel
theorem dX13_clerksYear_54 : decode cX13_clerksYear 54 = .ok (.lmul, 1) := by decide +kernel
theorem dX13_clerksYear_55 : decode cX13_clerksYear 55 = .ok (.ldc2_w 508, 3) := by decide +kernel
theorem dX13_clerksYear_58 : decode cX13_clerksYear 58 = .ok (.ladd, 1) := by decide +kernel
theorem dX13_clerksYear_59 : decode cX13_clerksYear 59 = .ok (.ldc2_w 510, 3) := by decide +kernel
theorem dX13_clerksYear_62 : decode cX13_clerksYear 62 = .ok (.lrem, 1) := by decide +kernel
theorem dX13_clerksYear_63 : decode cX13_clerksYear 63 = .ok (.l2i, 1) := by decide +kernel
theorem dX13_clerksYear_64 : decode cX13_clerksYear 64 = .ok (.putfield 505, 3) := by decide +kernel
theorem dX13_clerksYear_67 : decode cX13_clerksYear 67 = .ok (.aload_n 0, 1) := by decide +kernel
theorem dX13_clerksYear_68 : decode cX13_clerksYear 68 = .ok (.getfield 505, 3) := by decide +kernel
theorem dX13_clerksYear_71 : decode cX13_clerksYear 71 = .ok (.bipush 100, 2) := by decide +kernel
theorem dX13_clerksYear_73 : decode cX13_clerksYear 73 = .ok (.irem, 1) := by decide +kernel
theorem dX13_clerksYear_74 : decode cX13_clerksYear 74 = .ok (.aload_n 0, 1) := by decide +kernel
theorem dX13_clerksYear_75 : decode cX13_clerksYear 75 = .ok (.getfield 343, 3) := by decide +kernel
theorem dX13_clerksYear_78 : decode cX13_clerksYear 78 = .ok (.getfield 228, 3) := by decide +kernel
theorem dX13_clerksYear_81 : decode cX13_clerksYear 81 = .ok (.if_icmp .ge 13, 3) := by decide +kernel
theorem dX13_clerksYear_84 : decode cX13_clerksYear 84 = .ok (.aload_n 0, 1) := by decide +kernel
theorem dX13_clerksYear_85 : decode cX13_clerksYear 85 = .ok (.getfield 21, 3) := by decide +kernel
theorem dX13_clerksYear_88 : decode cX13_clerksYear 88 = .ok (.bipush 16, 2) := by decide +kernel
theorem dX13_clerksYear_90 : decode cX13_clerksYear 90 = .ok (.iload_n 2, 1) := by decide +kernel
theorem dX13_clerksYear_91 : decode cX13_clerksYear 91 = .ok (.iadd, 1) := by decide +kernel
theorem dX13_clerksYear_92 : decode cX13_clerksYear 92 = .ok (.iconst 1, 1) := by decide +kernel
theorem dX13_clerksYear_93 : decode cX13_clerksYear 93 = .ok (.iastore, 1) := by decide +kernel
theorem dX13_clerksYear_94 : decode cX13_clerksYear 94 = .ok (.iinc 2 1, 3) := by decide +kernel
theorem dX13_clerksYear_97 : decode cX13_clerksYear 97 = .ok (.goto (-74), 3) := by decide +kernel
theorem dX13_clerksYear_100 : decode cX13_clerksYear 100 = .ok (.aload_n 0, 1) := by decide +kernel
theorem dX13_clerksYear_101 : decode cX13_clerksYear 101 = .ok (.iconst 0, 1) := by decide +kernel
theorem dX13_clerksYear_102 : decode cX13_clerksYear 102 = .ok (.invokevirtual 379, 3) := by decide +kernel
theorem dX13_clerksYear_105 : decode cX13_clerksYear 105 = .ok (.return_, 1) := by decide +kernel
theorem dX13_refusesSeed_0 : decode cX13_refusesSeed 0 = .ok (.iload_n 1, 1) := by decide +kernel
theorem dX13_refusesSeed_1 : decode cX13_refusesSeed 1 = .ok (.ifCond .ne 7, 3) := by decide +kernel
theorem dX13_refusesSeed_4 : decode cX13_refusesSeed 4 = .ok (.iconst 1, 1) := by decide +kernel
theorem dX13_refusesSeed_5 : decode cX13_refusesSeed 5 = .ok (.goto 29, 3) := by decide +kernel
theorem dX13_refusesSeed_8 : decode cX13_refusesSeed 8 = .ok (.iload_n 2, 1) := by decide +kernel
theorem dX13_refusesSeed_9 : decode cX13_refusesSeed 9 = .ok (.iconst 0, 1) := by decide +kernel
theorem dX13_refusesSeed_10 : decode cX13_refusesSeed 10 = .ok (.ldc_w 512, 3) := by decide +kernel
theorem dX13_refusesSeed_13 : decode cX13_refusesSeed 13 = .ok (.invokestatic 121, 3) := by decide +kernel
theorem dX13_refusesSeed_16 : decode cX13_refusesSeed 16 = .ok (.ifCond .eq 17, 3) := by decide +kernel
theorem dX13_refusesSeed_19 : decode cX13_refusesSeed 19 = .ok (.iload_n 3, 1) := by decide +kernel
theorem dX13_refusesSeed_20 : decode cX13_refusesSeed 20 = .ok (.iconst 0, 1) := by decide +kernel
theorem dX13_refusesSeed_21 : decode cX13_refusesSeed 21 = .ok (.bipush 60, 2) := by decide +kernel
theorem dX13_refusesSeed_23 : decode cX13_refusesSeed 23 = .ok (.invokestatic 121, 3) := by decide +kernel
theorem dX13_refusesSeed_26 : decode cX13_refusesSeed 26 = .ok (.ifCond .eq 7, 3) := by decide +kernel
theorem dX13_refusesSeed_29 : decode cX13_refusesSeed 29 = .ok (.iconst 0, 1) := by decide +kernel
theorem dX13_refusesSeed_30 : decode cX13_refusesSeed 30 = .ok (.goto 4, 3) := by decide +kernel
theorem dX13_refusesSeed_33 : decode cX13_refusesSeed 33 = .ok (.iconst 2, 1) := by decide +kernel
theorem dX13_refusesSeed_34 : decode cX13_refusesSeed 34 = .ok (.ireturn, 1) := by decide +kernel
theorem dX13_years_0 : decode cX13_years 0 = .ok (.aload_n 0, 1) := by decide +kernel
theorem dX13_years_1 : decode cX13_years 1 = .ok (.iconst 0, 1) := by decide +kernel
theorem dX13_years_2 : decode cX13_years 2 = .ok (.putfield 46, 3) := by decide +kernel
theorem dX13_years_5 : decode cX13_years 5 = .ok (.aload_n 0, 1) := by decide +kernel
theorem dX13_years_6 : decode cX13_years 6 = .ok (.aload_n 0, 1) := by decide +kernel
theorem dX13_years_7 : decode cX13_years 7 = .ok (.getfield 343, 3) := by decide +kernel
theorem dX13_years_10 : decode cX13_years 10 = .ok (.ifnull 7, 3) := by decide +kernel
theorem dX13_years_13 : decode cX13_years 13 = .ok (.iconst 1, 1) := by decide +kernel
theorem dX13_years_14 : decode cX13_years 14 = .ok (.goto 4, 3) := by decide +kernel
theorem dX13_years_17 : decode cX13_years 17 = .ok (.iconst 0, 1) := by decide +kernel
theorem dX13_years_18 : decode cX13_years 18 = .ok (.iload_n 1, 1) := by decide +kernel
theorem dX13_years_19 : decode cX13_years 19 = .ok (.iload_n 2, 1) := by decide +kernel
theorem dX13_years_20 : decode cX13_years 20 = .ok (.invokevirtual 513, 3) := by decide +kernel
theorem dX13_years_23 : decode cX13_years 23 = .ok (.istore_n 3, 1) := by decide +kernel
theorem dX13_years_24 : decode cX13_years 24 = .ok (.iload_n 3, 1) := by decide +kernel
theorem dX13_years_25 : decode cX13_years 25 = .ok (.ifCond .le 9, 3) := by decide +kernel
theorem dX13_years_28 : decode cX13_years 28 = .ok (.aload_n 0, 1) := by decide +kernel
theorem dX13_years_29 : decode cX13_years 29 = .ok (.iload_n 3, 1) := by decide +kernel
theorem dX13_years_30 : decode cX13_years 30 = .ok (.invokevirtual 52, 3) := by decide +kernel
theorem dX13_years_33 : decode cX13_years 33 = .ok (.ireturn, 1) := by decide +kernel
theorem dX13_years_34 : decode cX13_years 34 = .ok (.aload_n 0, 1) := by decide +kernel
theorem dX13_years_35 : decode cX13_years 35 = .ok (.iconst 0, 1) := by decide +kernel
theorem dX13_years_36 : decode cX13_years 36 = .ok (.invokevirtual 398, 3) := by decide +kernel
theorem dX13_years_39 : decode cX13_years 39 = .ok (.aload_n 0, 1) := by decide +kernel
theorem dX13_years_40 : decode cX13_years 40 = .ok (.iload_n 1, 1) := by decide +kernel
theorem dX13_years_41 : decode cX13_years 41 = .ok (.putfield 505, 3) := by decide +kernel
theorem dX13_years_44 : decode cX13_years 44 = .ok (.iconst 0, 1) := by decide +kernel
theorem dX13_years_45 : decode cX13_years 45 = .ok (.istore 4, 2) := by decide +kernel
theorem dX13_years_47 : decode cX13_years 47 = .ok (.iload 4, 2) := by decide +kernel
theorem dX13_years_49 : decode cX13_years 49 = .ok (.iload_n 2, 1) := by decide +kernel
theorem dX13_years_50 : decode cX13_years 50 = .ok (.if_icmp .ge 13, 3) := by decide +kernel
theorem dX13_years_53 : decode cX13_years 53 = .ok (.aload_n 0, 1) := by decide +kernel
theorem dX13_years_54 : decode cX13_years 54 = .ok (.invokevirtual 517, 3) := by decide +kernel
theorem dX13_years_57 : decode cX13_years 57 = .ok (.iinc 4 1, 3) := by decide +kernel
theorem dX13_years_60 : decode cX13_years 60 = .ok (.goto (-13), 3) := by decide +kernel
theorem dX13_years_63 : decode cX13_years 63 = .ok (.aload_n 0, 1) := by decide +kernel
theorem dX13_years_64 : decode cX13_years 64 = .ok (.aload_n 0, 1) := by decide +kernel
theorem dX13_years_65 : decode cX13_years 65 = .ok (.invokevirtual 405, 3) := by decide +kernel
theorem dX13_years_68 : decode cX13_years 68 = .ok (.invokevirtual 56, 3) := by decide +kernel
theorem dX13_years_71 : decode cX13_years 71 = .ok (.ireturn, 1) := by decide +kernel
theorem dX13_fallsBy_0 : decode cX13_fallsBy 0 = .ok (.aload_n 0, 1) := by decide +kernel
theorem dX13_fallsBy_1 : decode cX13_fallsBy 1 = .ok (.iconst 0, 1) := by decide +kernel
theorem dX13_fallsBy_2 : decode cX13_fallsBy 2 = .ok (.putfield 46, 3) := by decide +kernel
theorem dX13_fallsBy_5 : decode cX13_fallsBy 5 = .ok (.aload_n 0, 1) := by decide +kernel
theorem dX13_fallsBy_6 : decode cX13_fallsBy 6 = .ok (.aload_n 0, 1) := by decide +kernel
theorem dX13_fallsBy_7 : decode cX13_fallsBy 7 = .ok (.iload_n 1, 1) := by decide +kernel
theorem dX13_fallsBy_8 : decode cX13_fallsBy 8 = .ok (.invokevirtual 424, 3) := by decide +kernel
theorem dX13_fallsBy_11 : decode cX13_fallsBy 11 = .ok (.iload_n 2, 1) := by decide +kernel
theorem dX13_fallsBy_12 : decode cX13_fallsBy 12 = .ok (.iload_n 3, 1) := by decide +kernel
theorem dX13_fallsBy_13 : decode cX13_fallsBy 13 = .ok (.invokevirtual 513, 3) := by decide +kernel
theorem dX13_fallsBy_16 : decode cX13_fallsBy 16 = .ok (.istore 4, 2) := by decide +kernel
theorem dX13_fallsBy_18 : decode cX13_fallsBy 18 = .ok (.iload 4, 2) := by decide +kernel
theorem dX13_fallsBy_20 : decode cX13_fallsBy 20 = .ok (.ifCond .le 10, 3) := by decide +kernel
theorem dX13_fallsBy_23 : decode cX13_fallsBy 23 = .ok (.aload_n 0, 1) := by decide +kernel
theorem dX13_fallsBy_24 : decode cX13_fallsBy 24 = .ok (.iload 4, 2) := by decide +kernel
theorem dX13_fallsBy_26 : decode cX13_fallsBy 26 = .ok (.invokevirtual 52, 3) := by decide +kernel
theorem dX13_fallsBy_29 : decode cX13_fallsBy 29 = .ok (.ireturn, 1) := by decide +kernel
theorem dX13_fallsBy_30 : decode cX13_fallsBy 30 = .ok (.aload_n 0, 1) := by decide +kernel
theorem dX13_fallsBy_31 : decode cX13_fallsBy 31 = .ok (.invokevirtual 376, 3) := by decide +kernel
theorem dX13_fallsBy_34 : decode cX13_fallsBy 34 = .ok (.aload_n 0, 1) := by decide +kernel
theorem dX13_fallsBy_35 : decode cX13_fallsBy 35 = .ok (.iload_n 2, 1) := by decide +kernel
theorem dX13_fallsBy_36 : decode cX13_fallsBy 36 = .ok (.putfield 505, 3) := by decide +kernel
theorem dX13_fallsBy_39 : decode cX13_fallsBy 39 = .ok (.iconst 1, 1) := by decide +kernel
theorem dX13_fallsBy_40 : decode cX13_fallsBy 40 = .ok (.istore 5, 2) := by decide +kernel
theorem dX13_fallsBy_42 : decode cX13_fallsBy 42 = .ok (.iload 5, 2) := by decide +kernel
theorem dX13_fallsBy_44 : decode cX13_fallsBy 44 = .ok (.iload_n 3, 1) := by decide +kernel
theorem dX13_fallsBy_45 : decode cX13_fallsBy 45 = .ok (.if_icmp .gt 31, 3) := by decide +kernel
theorem dX13_fallsBy_48 : decode cX13_fallsBy 48 = .ok (.aload_n 0, 1) := by decide +kernel
theorem dX13_fallsBy_49 : decode cX13_fallsBy 49 = .ok (.invokevirtual 517, 3) := by decide +kernel
theorem dX13_fallsBy_52 : decode cX13_fallsBy 52 = .ok (.aload_n 0, 1) := by decide +kernel
theorem dX13_fallsBy_53 : decode cX13_fallsBy 53 = .ok (.invokevirtual 421, 3) := by decide +kernel
theorem dX13_fallsBy_56 : decode cX13_fallsBy 56 = .ok (.iload_n 1, 1) := by decide +kernel
theorem dX13_fallsBy_57 : decode cX13_fallsBy 57 = .ok (.invokestatic 277, 3) := by decide +kernel
theorem dX13_fallsBy_60 : decode cX13_fallsBy 60 = .ok (.ifCond .ne 10, 3) := by decide +kernel
theorem dX13_fallsBy_63 : decode cX13_fallsBy 63 = .ok (.aload_n 0, 1) := by decide +kernel
theorem dX13_fallsBy_64 : decode cX13_fallsBy 64 = .ok (.iload 5, 2) := by decide +kernel
theorem dX13_fallsBy_66 : decode cX13_fallsBy 66 = .ok (.invokevirtual 56, 3) := by decide +kernel
theorem dX13_fallsBy_69 : decode cX13_fallsBy 69 = .ok (.ireturn, 1) := by decide +kernel
theorem dX13_fallsBy_70 : decode cX13_fallsBy 70 = .ok (.iinc 5 1, 3) := by decide +kernel
theorem dX13_fallsBy_73 : decode cX13_fallsBy 73 = .ok (.goto (-31), 3) := by decide +kernel
theorem dX13_fallsBy_76 : decode cX13_fallsBy 76 = .ok (.aload_n 0, 1) := by decide +kernel
theorem dX13_fallsBy_77 : decode cX13_fallsBy 77 = .ok (.bipush (-2), 2) := by decide +kernel
theorem dX13_fallsBy_79 : decode cX13_fallsBy 79 = .ok (.invokevirtual 56, 3) := by decide +kernel
theorem dX13_fallsBy_82 : decode cX13_fallsBy 82 = .ok (.ireturn, 1) := by decide +kernel
theorem dX13_remembers_0 : decode cX13_remembers 0 = .ok (.aload_n 0, 1) := by decide +kernel
theorem dX13_remembers_1 : decode cX13_remembers 1 = .ok (.getfield 345, 3) := by decide +kernel
theorem dX13_remembers_4 : decode cX13_remembers 4 = .ok (.bipush 16, 2) := by decide +kernel
theorem dX13_remembers_6 : decode cX13_remembers 6 = .ok (.if_icmp .ne 43, 3) := by decide +kernel
theorem dX13_remembers_9 : decode cX13_remembers 9 = .ok (.iconst 0, 1) := by decide +kernel
theorem dX13_remembers_10 : decode cX13_remembers 10 = .ok (.istore_n 1, 1) := by decide +kernel
theorem dX13_remembers_11 : decode cX13_remembers 11 = .ok (.iload_n 1, 1) := by decide +kernel
theorem dX13_remembers_12 : decode cX13_remembers 12 = .ok (.sipush 390, 3) := by decide +kernel
theorem dX13_remembers_15 : decode cX13_remembers 15 = .ok (.if_icmp .ge 24, 3) := by decide +kernel
theorem dX13_remembers_18 : decode cX13_remembers 18 = .ok (.aload_n 0, 1) := by decide +kernel
theorem dX13_remembers_19 : decode cX13_remembers 19 = .ok (.getfield 24, 3) := by decide +kernel
theorem dX13_remembers_22 : decode cX13_remembers 22 = .ok (.iload_n 1, 1) := by decide +kernel
theorem dX13_remembers_23 : decode cX13_remembers 23 = .ok (.aload_n 0, 1) := by decide +kernel
theorem dX13_remembers_24 : decode cX13_remembers 24 = .ok (.getfield 24, 3) := by decide +kernel
theorem dX13_remembers_27 : decode cX13_remembers 27 = .ok (.iload_n 1, 1) := by decide +kernel
theorem dX13_remembers_28 : decode cX13_remembers 28 = .ok (.bipush 26, 2) := by decide +kernel
theorem dX13_remembers_30 : decode cX13_remembers 30 = .ok (.iadd, 1) := by decide +kernel
theorem dX13_remembers_31 : decode cX13_remembers 31 = .ok (.iaload, 1) := by decide +kernel
theorem dX13_remembers_32 : decode cX13_remembers 32 = .ok (.iastore, 1) := by decide +kernel
theorem dX13_remembers_33 : decode cX13_remembers 33 = .ok (.iinc 1 1, 3) := by decide +kernel
theorem dX13_remembers_36 : decode cX13_remembers 36 = .ok (.goto (-25), 3) := by decide +kernel
theorem dX13_remembers_39 : decode cX13_remembers 39 = .ok (.aload_n 0, 1) := by decide +kernel
theorem dX13_remembers_40 : decode cX13_remembers 40 = .ok (.dup, 1) := by decide +kernel
theorem dX13_remembers_41 : decode cX13_remembers 41 = .ok (.getfield 345, 3) := by decide +kernel
theorem dX13_remembers_44 : decode cX13_remembers 44 = .ok (.iconst 1, 1) := by decide +kernel
theorem dX13_remembers_45 : decode cX13_remembers 45 = .ok (.isub, 1) := by decide +kernel
theorem dX13_remembers_46 : decode cX13_remembers 46 = .ok (.putfield 345, 3) := by decide +kernel
theorem dX13_remembers_49 : decode cX13_remembers 49 = .ok (.iconst 0, 1) := by decide +kernel
theorem dX13_remembers_50 : decode cX13_remembers 50 = .ok (.istore_n 1, 1) := by decide +kernel
theorem dX13_remembers_51 : decode cX13_remembers 51 = .ok (.iload_n 1, 1) := by decide +kernel
theorem dX13_remembers_52 : decode cX13_remembers 52 = .ok (.bipush 26, 2) := by decide +kernel
theorem dX13_remembers_54 : decode cX13_remembers 54 = .ok (.if_icmp .ge 29, 3) := by decide +kernel
theorem dX13_remembers_57 : decode cX13_remembers 57 = .ok (.aload_n 0, 1) := by decide +kernel
theorem dX13_remembers_58 : decode cX13_remembers 58 = .ok (.getfield 24, 3) := by decide +kernel
theorem dX13_remembers_61 : decode cX13_remembers 61 = .ok (.bipush 26, 2) := by decide +kernel
theorem dX13_remembers_63 : decode cX13_remembers 63 = .ok (.aload_n 0, 1) := by decide +kernel
theorem dX13_remembers_64 : decode cX13_remembers 64 = .ok (.getfield 345, 3) := by decide +kernel
theorem dX13_remembers_67 : decode cX13_remembers 67 = .ok (.imul, 1) := by decide +kernel
theorem dX13_remembers_68 : decode cX13_remembers 68 = .ok (.iload_n 1, 1) := by decide +kernel
theorem dX13_remembers_69 : decode cX13_remembers 69 = .ok (.iadd, 1) := by decide +kernel
theorem dX13_remembers_70 : decode cX13_remembers 70 = .ok (.aload_n 0, 1) := by decide +kernel
theorem dX13_remembers_71 : decode cX13_remembers 71 = .ok (.getfield 17, 3) := by decide +kernel
theorem dX13_remembers_74 : decode cX13_remembers 74 = .ok (.iload_n 1, 1) := by decide +kernel
theorem dX13_remembers_75 : decode cX13_remembers 75 = .ok (.iaload, 1) := by decide +kernel
theorem dX13_remembers_76 : decode cX13_remembers 76 = .ok (.iastore, 1) := by decide +kernel
theorem dX13_remembers_77 : decode cX13_remembers 77 = .ok (.iinc 1 1, 3) := by decide +kernel
theorem dX13_remembers_80 : decode cX13_remembers 80 = .ok (.goto (-29), 3) := by decide +kernel
theorem dX13_remembers_83 : decode cX13_remembers 83 = .ok (.aload_n 0, 1) := by decide +kernel
theorem dX13_remembers_84 : decode cX13_remembers 84 = .ok (.dup, 1) := by decide +kernel
theorem dX13_remembers_85 : decode cX13_remembers 85 = .ok (.getfield 345, 3) := by decide +kernel
theorem dX13_remembers_88 : decode cX13_remembers 88 = .ok (.iconst 1, 1) := by decide +kernel
theorem dX13_remembers_89 : decode cX13_remembers 89 = .ok (.iadd, 1) := by decide +kernel
theorem dX13_remembers_90 : decode cX13_remembers 90 = .ok (.putfield 345, 3) := by decide +kernel
theorem dX13_remembers_93 : decode cX13_remembers 93 = .ok (.return_, 1) := by decide +kernel
theorem dX13_year_0 : decode cX13_year 0 = .ok (.aload_n 0, 1) := by decide +kernel
theorem dX13_year_1 : decode cX13_year 1 = .ok (.iconst 0, 1) := by decide +kernel
theorem dX13_year_2 : decode cX13_year 2 = .ok (.putfield 46, 3) := by decide +kernel
theorem dX13_year_5 : decode cX13_year 5 = .ok (.aload_n 0, 1) := by decide +kernel
theorem dX13_year_6 : decode cX13_year 6 = .ok (.getfield 343, 3) := by decide +kernel
theorem dX13_year_9 : decode cX13_year 9 = .ok (.ifnonnull 9, 3) := by decide +kernel
theorem dX13_year_12 : decode cX13_year 12 = .ok (.aload_n 0, 1) := by decide +kernel
theorem dX13_year_13 : decode cX13_year 13 = .ok (.iconst 1, 1) := by decide +kernel
theorem dX13_year_14 : decode cX13_year 14 = .ok (.invokevirtual 52, 3) := by decide +kernel
theorem dX13_year_17 : decode cX13_year 17 = .ok (.ireturn, 1) := by decide +kernel
theorem dX13_year_18 : decode cX13_year 18 = .ok (.aload_n 0, 1) := by decide +kernel
theorem dX13_year_19 : decode cX13_year 19 = .ok (.getfield 17, 3) := by decide +kernel
theorem dX13_year_22 : decode cX13_year 22 = .ok (.bipush 25, 2) := by decide +kernel
theorem dX13_year_24 : decode cX13_year 24 = .ok (.iaload, 1) := by decide +kernel
theorem dX13_year_25 : decode cX13_year 25 = .ok (.sipush 999, 3) := by decide +kernel
theorem dX13_year_28 : decode cX13_year 28 = .ok (.if_icmp .ne 9, 3) := by decide +kernel
theorem dX13_year_31 : decode cX13_year 31 = .ok (.aload_n 0, 1) := by decide +kernel
theorem dX13_year_32 : decode cX13_year 32 = .ok (.iconst 3, 1) := by decide +kernel
theorem dX13_year_33 : decode cX13_year 33 = .ok (.invokevirtual 52, 3) := by decide +kernel
theorem dX13_year_36 : decode cX13_year 36 = .ok (.ireturn, 1) := by decide +kernel
theorem dX13_year_37 : decode cX13_year 37 = .ok (.aload_n 0, 1) := by decide +kernel
theorem dX13_year_38 : decode cX13_year 38 = .ok (.invokevirtual 520, 3) := by decide +kernel
theorem dX13_year_41 : decode cX13_year 41 = .ok (.aload_n 0, 1) := by decide +kernel
theorem dX13_year_42 : decode cX13_year 42 = .ok (.iconst 0, 1) := by decide +kernel
theorem dX13_year_43 : decode cX13_year 43 = .ok (.invokevirtual 398, 3) := by decide +kernel
theorem dX13_year_46 : decode cX13_year 46 = .ok (.aload_n 0, 1) := by decide +kernel
theorem dX13_year_47 : decode cX13_year 47 = .ok (.invokevirtual 405, 3) := by decide +kernel
theorem dX13_year_50 : decode cX13_year 50 = .ok (.istore_n 1, 1) := by decide +kernel
theorem dX13_year_51 : decode cX13_year 51 = .ok (.aload_n 0, 1) := by decide +kernel
theorem dX13_year_52 : decode cX13_year 52 = .ok (.getfield 17, 3) := by decide +kernel
theorem dX13_year_55 : decode cX13_year 55 = .ok (.bipush 25, 2) := by decide +kernel
theorem dX13_year_57 : decode cX13_year 57 = .ok (.dup2, 1) := by decide +kernel
theorem dX13_year_58 : decode cX13_year 58 = .ok (.iaload, 1) := by decide +kernel
theorem dX13_year_59 : decode cX13_year 59 = .ok (.iconst 1, 1) := by decide +kernel
theorem dX13_year_60 : decode cX13_year 60 = .ok (.iadd, 1) := by decide +kernel
theorem dX13_year_61 : decode cX13_year 61 = .ok (.iastore, 1) := by decide +kernel
theorem dX13_year_62 : decode cX13_year 62 = .ok (.aload_n 0, 1) := by decide +kernel
theorem dX13_year_63 : decode cX13_year 63 = .ok (.iconst 0, 1) := by decide +kernel
theorem dX13_year_64 : decode cX13_year 64 = .ok (.invokevirtual 398, 3) := by decide +kernel
theorem dX13_year_67 : decode cX13_year 67 = .ok (.aload_n 0, 1) := by decide +kernel
theorem dX13_year_68 : decode cX13_year 68 = .ok (.iload_n 1, 1) := by decide +kernel
theorem dX13_year_69 : decode cX13_year 69 = .ok (.aload_n 0, 1) := by decide +kernel
theorem dX13_year_70 : decode cX13_year 70 = .ok (.invokevirtual 405, 3) := by decide +kernel
theorem dX13_year_73 : decode cX13_year 73 = .ok (.iconst (-1), 1) := by decide +kernel
theorem dX13_year_74 : decode cX13_year 74 = .ok (.ixor, 1) := by decide +kernel
theorem dX13_year_75 : decode cX13_year 75 = .ok (.iand, 1) := by decide +kernel
theorem dX13_year_76 : decode cX13_year 76 = .ok (.invokevirtual 56, 3) := by decide +kernel
theorem dX13_year_79 : decode cX13_year 79 = .ok (.ireturn, 1) := by decide +kernel
theorem dX13_snap_0 : decode cX13_snap 0 = .ok (.aload_n 0, 1) := by decide +kernel
theorem dX13_snap_1 : decode cX13_snap 1 = .ok (.iconst 0, 1) := by decide +kernel
theorem dX13_snap_2 : decode cX13_snap 2 = .ok (.putfield 46, 3) := by decide +kernel
theorem dX13_snap_5 : decode cX13_snap 5 = .ok (.aload_n 0, 1) := by decide +kernel
theorem dX13_snap_6 : decode cX13_snap 6 = .ok (.iload_n 1, 1) := by decide +kernel
theorem dX13_snap_7 : decode cX13_snap 7 = .ok (.invokevirtual 392, 3) := by decide +kernel
theorem dX13_snap_10 : decode cX13_snap 10 = .ok (.ifCond .ne 9, 3) := by decide +kernel
theorem dX13_snap_13 : decode cX13_snap 13 = .ok (.aload_n 0, 1) := by decide +kernel
theorem dX13_snap_14 : decode cX13_snap 14 = .ok (.iconst 1, 1) := by decide +kernel
theorem dX13_snap_15 : decode cX13_snap 15 = .ok (.invokevirtual 523, 3) := by decide +kernel
theorem dX13_snap_18 : decode cX13_snap 18 = .ok (.ireturn, 1) := by decide +kernel
theorem dX13_snap_19 : decode cX13_snap 19 = .ok (.aload_n 0, 1) := by decide +kernel
theorem dX13_snap_20 : decode cX13_snap 20 = .ok (.invokevirtual 376, 3) := by decide +kernel
theorem dX13_snap_23 : decode cX13_snap 23 = .ok (.aload_n 0, 1) := by decide +kernel
theorem dX13_snap_24 : decode cX13_snap 24 = .ok (.iload_n 1, 1) := by decide +kernel
theorem dX13_snap_25 : decode cX13_snap 25 = .ok (.iconst 0, 1) := by decide +kernel
theorem dX13_snap_26 : decode cX13_snap 26 = .ok (.invokevirtual 369, 3) := by decide +kernel
theorem dX13_snap_29 : decode cX13_snap 29 = .ok (.ifCond .ne 9, 3) := by decide +kernel
theorem dX13_snap_32 : decode cX13_snap 32 = .ok (.aload_n 0, 1) := by decide +kernel
theorem dX13_snap_33 : decode cX13_snap 33 = .ok (.iconst 5, 1) := by decide +kernel
theorem dX13_snap_34 : decode cX13_snap 34 = .ok (.invokevirtual 523, 3) := by decide +kernel
theorem dX13_snap_37 : decode cX13_snap 37 = .ok (.ireturn, 1) := by decide +kernel
theorem dX13_snap_38 : decode cX13_snap 38 = .ok (.aload_n 0, 1) := by decide +kernel
theorem dX13_snap_39 : decode cX13_snap 39 = .ok (.invokevirtual 520, 3) := by decide +kernel
theorem dX13_snap_42 : decode cX13_snap 42 = .ok (.aload_n 0, 1) := by decide +kernel
theorem dX13_snap_43 : decode cX13_snap 43 = .ok (.getfield 17, 3) := by decide +kernel
theorem dX13_snap_46 : decode cX13_snap 46 = .ok (.bipush 16, 2) := by decide +kernel
theorem dX13_snap_48 : decode cX13_snap 48 = .ok (.iload_n 1, 1) := by decide +kernel
theorem dX13_snap_49 : decode cX13_snap 49 = .ok (.iadd, 1) := by decide +kernel
theorem dX13_snap_50 : decode cX13_snap 50 = .ok (.iconst 1, 1) := by decide +kernel
theorem dX13_snap_51 : decode cX13_snap 51 = .ok (.iastore, 1) := by decide +kernel
theorem dX13_snap_52 : decode cX13_snap 52 = .ok (.aload_n 0, 1) := by decide +kernel
theorem dX13_snap_53 : decode cX13_snap 53 = .ok (.invokevirtual 526, 3) := by decide +kernel
theorem dX13_snap_56 : decode cX13_snap 56 = .ok (.ireturn, 1) := by decide +kernel
theorem dX13_spin_0 : decode cX13_spin 0 = .ok (.aload_n 0, 1) := by decide +kernel
theorem dX13_spin_1 : decode cX13_spin 1 = .ok (.iconst 0, 1) := by decide +kernel
theorem dX13_spin_2 : decode cX13_spin 2 = .ok (.putfield 46, 3) := by decide +kernel
theorem dX13_spin_5 : decode cX13_spin 5 = .ok (.aload_n 0, 1) := by decide +kernel
theorem dX13_spin_6 : decode cX13_spin 6 = .ok (.getfield 343, 3) := by decide +kernel
theorem dX13_spin_9 : decode cX13_spin 9 = .ok (.ifnull 18, 3) := by decide +kernel
theorem dX13_spin_12 : decode cX13_spin 12 = .ok (.iload_n 1, 1) := by decide +kernel
theorem dX13_spin_13 : decode cX13_spin 13 = .ok (.ifCond .lt 14, 3) := by decide +kernel
theorem dX13_spin_16 : decode cX13_spin 16 = .ok (.iload_n 1, 1) := by decide +kernel
theorem dX13_spin_17 : decode cX13_spin 17 = .ok (.aload_n 0, 1) := by decide +kernel
theorem dX13_spin_18 : decode cX13_spin 18 = .ok (.getfield 343, 3) := by decide +kernel
theorem dX13_spin_21 : decode cX13_spin 21 = .ok (.getfield 298, 3) := by decide +kernel
theorem dX13_spin_24 : decode cX13_spin 24 = .ok (.if_icmp .lt 9, 3) := by decide +kernel
theorem dX13_spin_27 : decode cX13_spin 27 = .ok (.aload_n 0, 1) := by decide +kernel
theorem dX13_spin_28 : decode cX13_spin 28 = .ok (.iconst 1, 1) := by decide +kernel
theorem dX13_spin_29 : decode cX13_spin 29 = .ok (.invokevirtual 52, 3) := by decide +kernel
theorem dX13_spin_32 : decode cX13_spin 32 = .ok (.ireturn, 1) := by decide +kernel
theorem dX13_spin_33 : decode cX13_spin 33 = .ok (.aload_n 0, 1) := by decide +kernel
theorem dX13_spin_34 : decode cX13_spin 34 = .ok (.getfield 17, 3) := by decide +kernel
theorem dX13_spin_37 : decode cX13_spin 37 = .ok (.bipush 24, 2) := by decide +kernel
theorem dX13_spin_39 : decode cX13_spin 39 = .ok (.iaload, 1) := by decide +kernel
theorem dX13_spin_40 : decode cX13_spin 40 = .ok (.bipush 8, 2) := by decide +kernel
theorem dX13_spin_42 : decode cX13_spin 42 = .ok (.if_icmp .ne 9, 3) := by decide +kernel
theorem dX13_spin_45 : decode cX13_spin 45 = .ok (.aload_n 0, 1) := by decide +kernel
theorem dX13_spin_46 : decode cX13_spin 46 = .ok (.iconst 3, 1) := by decide +kernel
theorem dX13_spin_47 : decode cX13_spin 47 = .ok (.invokevirtual 52, 3) := by decide +kernel
theorem dX13_spin_50 : decode cX13_spin 50 = .ok (.ireturn, 1) := by decide +kernel
theorem dX13_spin_51 : decode cX13_spin 51 = .ok (.aload_n 0, 1) := by decide +kernel
theorem dX13_spin_52 : decode cX13_spin 52 = .ok (.invokevirtual 520, 3) := by decide +kernel
theorem dX13_spin_55 : decode cX13_spin 55 = .ok (.aload_n 0, 1) := by decide +kernel
theorem dX13_spin_56 : decode cX13_spin 56 = .ok (.getfield 17, 3) := by decide +kernel
theorem dX13_spin_59 : decode cX13_spin 59 = .ok (.bipush 24, 2) := by decide +kernel
theorem dX13_spin_61 : decode cX13_spin 61 = .ok (.iaload, 1) := by decide +kernel
theorem dX13_spin_62 : decode cX13_spin 62 = .ok (.istore_n 2, 1) := by decide +kernel
theorem dX13_spin_63 : decode cX13_spin 63 = .ok (.aload_n 0, 1) := by decide +kernel
theorem dX13_spin_64 : decode cX13_spin 64 = .ok (.getfield 17, 3) := by decide +kernel
theorem dX13_spin_67 : decode cX13_spin 67 = .ok (.iconst 0, 1) := by decide +kernel
theorem dX13_spin_68 : decode cX13_spin 68 = .ok (.iload_n 2, 1) := by decide +kernel
theorem dX13_spin_69 : decode cX13_spin 69 = .ok (.iadd, 1) := by decide +kernel
theorem dX13_spin_70 : decode cX13_spin 70 = .ok (.iload_n 1, 1) := by decide +kernel
theorem dX13_spin_71 : decode cX13_spin 71 = .ok (.iastore, 1) := by decide +kernel
theorem dX13_spin_72 : decode cX13_spin 72 = .ok (.aload_n 0, 1) := by decide +kernel
theorem dX13_spin_73 : decode cX13_spin 73 = .ok (.getfield 17, 3) := by decide +kernel
theorem dX13_spin_76 : decode cX13_spin 76 = .ok (.bipush 8, 2) := by decide +kernel
theorem dX13_spin_78 : decode cX13_spin 78 = .ok (.iload_n 2, 1) := by decide +kernel
theorem dX13_spin_79 : decode cX13_spin 79 = .ok (.iadd, 1) := by decide +kernel
theorem dX13_spin_80 : decode cX13_spin 80 = .ok (.aload_n 0, 1) := by decide +kernel
theorem dX13_spin_81 : decode cX13_spin 81 = .ok (.getfield 17, 3) := by decide +kernel
theorem dX13_spin_84 : decode cX13_spin 84 = .ok (.bipush 25, 2) := by decide +kernel
theorem dX13_spin_86 : decode cX13_spin 86 = .ok (.iaload, 1) := by decide +kernel
theorem dX13_spin_87 : decode cX13_spin 87 = .ok (.iastore, 1) := by decide +kernel
theorem dX13_spin_88 : decode cX13_spin 88 = .ok (.aload_n 0, 1) := by decide +kernel
theorem dX13_spin_89 : decode cX13_spin 89 = .ok (.getfield 17, 3) := by decide +kernel
theorem dX13_spin_92 : decode cX13_spin 92 = .ok (.bipush 16, 2) := by decide +kernel
theorem dX13_spin_94 : decode cX13_spin 94 = .ok (.iload_n 2, 1) := by decide +kernel
theorem dX13_spin_95 : decode cX13_spin 95 = .ok (.iadd, 1) := by decide +kernel
theorem dX13_spin_96 : decode cX13_spin 96 = .ok (.iconst 0, 1) := by decide +kernel
theorem dX13_spin_97 : decode cX13_spin 97 = .ok (.iastore, 1) := by decide +kernel
theorem dX13_spin_98 : decode cX13_spin 98 = .ok (.aload_n 0, 1) := by decide +kernel
theorem dX13_spin_99 : decode cX13_spin 99 = .ok (.getfield 17, 3) := by decide +kernel
theorem dX13_spin_102 : decode cX13_spin 102 = .ok (.bipush 24, 2) := by decide +kernel
theorem dX13_spin_104 : decode cX13_spin 104 = .ok (.dup2, 1) := by decide +kernel
theorem dX13_spin_105 : decode cX13_spin 105 = .ok (.iaload, 1) := by decide +kernel
theorem dX13_spin_106 : decode cX13_spin 106 = .ok (.iconst 1, 1) := by decide +kernel
theorem dX13_spin_107 : decode cX13_spin 107 = .ok (.iadd, 1) := by decide +kernel
theorem dX13_spin_108 : decode cX13_spin 108 = .ok (.iastore, 1) := by decide +kernel
theorem dX13_spin_109 : decode cX13_spin 109 = .ok (.aload_n 0, 1) := by decide +kernel
theorem dX13_spin_110 : decode cX13_spin 110 = .ok (.iload_n 2, 1) := by decide +kernel
theorem dX13_spin_111 : decode cX13_spin 111 = .ok (.invokevirtual 56, 3) := by decide +kernel
theorem dX13_spin_114 : decode cX13_spin 114 = .ok (.ireturn, 1) := by decide +kernel
theorem dX13_darn_0 : decode cX13_darn 0 = .ok (.aload_n 0, 1) := by decide +kernel
theorem dX13_darn_1 : decode cX13_darn 1 = .ok (.iconst 0, 1) := by decide +kernel
theorem dX13_darn_2 : decode cX13_darn 2 = .ok (.putfield 46, 3) := by decide +kernel
theorem dX13_darn_5 : decode cX13_darn 5 = .ok (.aload_n 0, 1) := by decide +kernel
theorem dX13_darn_6 : decode cX13_darn 6 = .ok (.iload_n 1, 1) := by decide +kernel
theorem dX13_darn_7 : decode cX13_darn 7 = .ok (.invokevirtual 392, 3) := by decide +kernel
theorem dX13_darn_10 : decode cX13_darn 10 = .ok (.ifCond .ne 9, 3) := by decide +kernel
theorem dX13_darn_13 : decode cX13_darn 13 = .ok (.aload_n 0, 1) := by decide +kernel
theorem dX13_darn_14 : decode cX13_darn 14 = .ok (.iconst 1, 1) := by decide +kernel
theorem dX13_darn_15 : decode cX13_darn 15 = .ok (.invokevirtual 52, 3) := by decide +kernel
theorem dX13_darn_18 : decode cX13_darn 18 = .ok (.ireturn, 1) := by decide +kernel
theorem dX13_darn_19 : decode cX13_darn 19 = .ok (.aload_n 0, 1) := by decide +kernel
theorem dX13_darn_20 : decode cX13_darn 20 = .ok (.getfield 17, 3) := by decide +kernel
theorem dX13_darn_23 : decode cX13_darn 23 = .ok (.bipush 16, 2) := by decide +kernel
theorem dX13_darn_25 : decode cX13_darn 25 = .ok (.iload_n 1, 1) := by decide +kernel
theorem dX13_darn_26 : decode cX13_darn 26 = .ok (.iadd, 1) := by decide +kernel
theorem dX13_darn_27 : decode cX13_darn 27 = .ok (.iaload, 1) := by decide +kernel
theorem dX13_darn_28 : decode cX13_darn 28 = .ok (.ifCond .ne 28, 3) := by decide +kernel
theorem dX13_darn_31 : decode cX13_darn 31 = .ok (.aload_n 0, 1) := by decide +kernel
theorem dX13_darn_32 : decode cX13_darn 32 = .ok (.getfield 17, 3) := by decide +kernel
theorem dX13_darn_35 : decode cX13_darn 35 = .ok (.bipush 8, 2) := by decide +kernel
theorem dX13_darn_37 : decode cX13_darn 37 = .ok (.iload_n 1, 1) := by decide +kernel
theorem dX13_darn_38 : decode cX13_darn 38 = .ok (.iadd, 1) := by decide +kernel
theorem dX13_darn_39 : decode cX13_darn 39 = .ok (.iaload, 1) := by decide +kernel
theorem dX13_darn_40 : decode cX13_darn 40 = .ok (.aload_n 0, 1) := by decide +kernel
theorem dX13_darn_41 : decode cX13_darn 41 = .ok (.getfield 17, 3) := by decide +kernel
theorem dX13_darn_44 : decode cX13_darn 44 = .ok (.bipush 25, 2) := by decide +kernel
theorem dX13_darn_46 : decode cX13_darn 46 = .ok (.iaload, 1) := by decide +kernel
theorem dX13_darn_47 : decode cX13_darn 47 = .ok (.if_icmp .ne 9, 3) := by decide +kernel
theorem dX13_darn_50 : decode cX13_darn 50 = .ok (.aload_n 0, 1) := by decide +kernel
theorem dX13_darn_51 : decode cX13_darn 51 = .ok (.iconst 5, 1) := by decide +kernel
theorem dX13_darn_52 : decode cX13_darn 52 = .ok (.invokevirtual 52, 3) := by decide +kernel
theorem dX13_darn_55 : decode cX13_darn 55 = .ok (.ireturn, 1) := by decide +kernel
theorem dX13_darn_56 : decode cX13_darn 56 = .ok (.aload_n 0, 1) := by decide +kernel
theorem dX13_darn_57 : decode cX13_darn 57 = .ok (.invokevirtual 520, 3) := by decide +kernel
theorem dX13_darn_60 : decode cX13_darn 60 = .ok (.aload_n 0, 1) := by decide +kernel
theorem dX13_darn_61 : decode cX13_darn 61 = .ok (.getfield 17, 3) := by decide +kernel
theorem dX13_darn_64 : decode cX13_darn 64 = .ok (.bipush 8, 2) := by decide +kernel
theorem dX13_darn_66 : decode cX13_darn 66 = .ok (.iload_n 1, 1) := by decide +kernel
theorem dX13_darn_67 : decode cX13_darn 67 = .ok (.iadd, 1) := by decide +kernel
theorem dX13_darn_68 : decode cX13_darn 68 = .ok (.aload_n 0, 1) := by decide +kernel
theorem dX13_darn_69 : decode cX13_darn 69 = .ok (.getfield 17, 3) := by decide +kernel
theorem dX13_darn_72 : decode cX13_darn 72 = .ok (.bipush 25, 2) := by decide +kernel
theorem dX13_darn_74 : decode cX13_darn 74 = .ok (.iaload, 1) := by decide +kernel
theorem dX13_darn_75 : decode cX13_darn 75 = .ok (.iastore, 1) := by decide +kernel
theorem dX13_darn_76 : decode cX13_darn 76 = .ok (.aload_n 0, 1) := by decide +kernel
theorem dX13_darn_77 : decode cX13_darn 77 = .ok (.getfield 17, 3) := by decide +kernel
theorem dX13_darn_80 : decode cX13_darn 80 = .ok (.bipush 16, 2) := by decide +kernel
theorem dX13_darn_82 : decode cX13_darn 82 = .ok (.iload_n 1, 1) := by decide +kernel
theorem dX13_darn_83 : decode cX13_darn 83 = .ok (.iadd, 1) := by decide +kernel
theorem dX13_darn_84 : decode cX13_darn 84 = .ok (.iconst 0, 1) := by decide +kernel
theorem dX13_darn_85 : decode cX13_darn 85 = .ok (.iastore, 1) := by decide +kernel
theorem dX13_darn_86 : decode cX13_darn 86 = .ok (.aload_n 0, 1) := by decide +kernel
theorem dX13_darn_87 : decode cX13_darn 87 = .ok (.invokevirtual 376, 3) := by decide +kernel
theorem dX13_darn_90 : decode cX13_darn 90 = .ok (.aload_n 0, 1) := by decide +kernel
theorem dX13_darn_91 : decode cX13_darn 91 = .ok (.aload_n 0, 1) := by decide +kernel
theorem dX13_darn_92 : decode cX13_darn 92 = .ok (.iload_n 1, 1) := by decide +kernel
theorem dX13_darn_93 : decode cX13_darn 93 = .ok (.iconst 0, 1) := by decide +kernel
theorem dX13_darn_94 : decode cX13_darn 94 = .ok (.invokevirtual 369, 3) := by decide +kernel
theorem dX13_darn_97 : decode cX13_darn 97 = .ok (.invokevirtual 56, 3) := by decide +kernel
theorem dX13_darn_100 : decode cX13_darn 100 = .ok (.ireturn, 1) := by decide +kernel
theorem dX13_undo_0 : decode cX13_undo 0 = .ok (.aload_n 0, 1) := by decide +kernel
theorem dX13_undo_1 : decode cX13_undo 1 = .ok (.iconst 0, 1) := by decide +kernel
theorem dX13_undo_2 : decode cX13_undo 2 = .ok (.putfield 46, 3) := by decide +kernel
theorem dX13_undo_5 : decode cX13_undo 5 = .ok (.aload_n 0, 1) := by decide +kernel
theorem dX13_undo_6 : decode cX13_undo 6 = .ok (.getfield 343, 3) := by decide +kernel
theorem dX13_undo_9 : decode cX13_undo 9 = .ok (.ifnull 10, 3) := by decide +kernel
theorem dX13_undo_12 : decode cX13_undo 12 = .ok (.aload_n 0, 1) := by decide +kernel
theorem dX13_undo_13 : decode cX13_undo 13 = .ok (.getfield 345, 3) := by decide +kernel
theorem dX13_undo_16 : decode cX13_undo 16 = .ok (.ifCond .ne 10, 3) := by decide +kernel
theorem dX13_undo_19 : decode cX13_undo 19 = .ok (.aload_n 0, 1) := by decide +kernel
theorem dX13_undo_20 : decode cX13_undo 20 = .ok (.bipush 6, 2) := by decide +kernel
theorem dX13_undo_22 : decode cX13_undo 22 = .ok (.invokevirtual 523, 3) := by decide +kernel
theorem dX13_undo_25 : decode cX13_undo 25 = .ok (.ireturn, 1) := by decide +kernel
theorem dX13_undo_26 : decode cX13_undo 26 = .ok (.aload_n 0, 1) := by decide +kernel
theorem dX13_undo_27 : decode cX13_undo 27 = .ok (.dup, 1) := by decide +kernel
theorem dX13_undo_28 : decode cX13_undo 28 = .ok (.getfield 345, 3) := by decide +kernel
theorem dX13_undo_31 : decode cX13_undo 31 = .ok (.iconst 1, 1) := by decide +kernel
theorem dX13_undo_32 : decode cX13_undo 32 = .ok (.isub, 1) := by decide +kernel
theorem dX13_undo_33 : decode cX13_undo 33 = .ok (.putfield 345, 3) := by decide +kernel
theorem dX13_undo_36 : decode cX13_undo 36 = .ok (.iconst 0, 1) := by decide +kernel
theorem dX13_undo_37 : decode cX13_undo 37 = .ok (.istore_n 1, 1) := by decide +kernel
theorem dX13_undo_38 : decode cX13_undo 38 = .ok (.iload_n 1, 1) := by decide +kernel
theorem dX13_undo_39 : decode cX13_undo 39 = .ok (.bipush 26, 2) := by decide +kernel
theorem dX13_undo_41 : decode cX13_undo 41 = .ok (.if_icmp .ge 29, 3) := by decide +kernel
theorem dX13_undo_44 : decode cX13_undo 44 = .ok (.aload_n 0, 1) := by decide +kernel
theorem dX13_undo_45 : decode cX13_undo 45 = .ok (.getfield 17, 3) := by decide +kernel
theorem dX13_undo_48 : decode cX13_undo 48 = .ok (.iload_n 1, 1) := by decide +kernel
theorem dX13_undo_49 : decode cX13_undo 49 = .ok (.aload_n 0, 1) := by decide +kernel
theorem dX13_undo_50 : decode cX13_undo 50 = .ok (.getfield 24, 3) := by decide +kernel
theorem dX13_undo_53 : decode cX13_undo 53 = .ok (.bipush 26, 2) := by decide +kernel
theorem dX13_undo_55 : decode cX13_undo 55 = .ok (.aload_n 0, 1) := by decide +kernel
theorem dX13_undo_56 : decode cX13_undo 56 = .ok (.getfield 345, 3) := by decide +kernel
theorem dX13_undo_59 : decode cX13_undo 59 = .ok (.imul, 1) := by decide +kernel
theorem dX13_undo_60 : decode cX13_undo 60 = .ok (.iload_n 1, 1) := by decide +kernel
theorem dX13_undo_61 : decode cX13_undo 61 = .ok (.iadd, 1) := by decide +kernel
theorem dX13_undo_62 : decode cX13_undo 62 = .ok (.iaload, 1) := by decide +kernel
theorem dX13_undo_63 : decode cX13_undo 63 = .ok (.iastore, 1) := by decide +kernel
theorem dX13_undo_64 : decode cX13_undo 64 = .ok (.iinc 1 1, 3) := by decide +kernel
theorem dX13_undo_67 : decode cX13_undo 67 = .ok (.goto (-29), 3) := by decide +kernel
theorem dX13_undo_70 : decode cX13_undo 70 = .ok (.aload_n 0, 1) := by decide +kernel
theorem dX13_undo_71 : decode cX13_undo 71 = .ok (.invokevirtual 526, 3) := by decide +kernel
theorem dX13_undo_74 : decode cX13_undo 74 = .ok (.ireturn, 1) := by decide +kernel
theorem dX13_image_0 : decode cX13_image 0 = .ok (.aload_n 0, 1) := by decide +kernel
theorem dX13_image_1 : decode cX13_image 1 = .ok (.iconst 0, 1) := by decide +kernel
theorem dX13_image_2 : decode cX13_image 2 = .ok (.putfield 46, 3) := by decide +kernel
theorem dX13_image_5 : decode cX13_image 5 = .ok (.aload_n 0, 1) := by decide +kernel
theorem dX13_image_6 : decode cX13_image 6 = .ok (.getfield 343, 3) := by decide +kernel
theorem dX13_image_9 : decode cX13_image 9 = .ok (.ifnonnull 9, 3) := by decide +kernel
theorem dX13_image_12 : decode cX13_image 12 = .ok (.aload_n 0, 1) := by decide +kernel
theorem dX13_image_13 : decode cX13_image 13 = .ok (.iconst 1, 1) := by decide +kernel
theorem dX13_image_14 : decode cX13_image 14 = .ok (.invokevirtual 52, 3) := by decide +kernel
theorem dX13_image_17 : decode cX13_image 17 = .ok (.ireturn, 1) := by decide +kernel
theorem dX13_image_18 : decode cX13_image 18 = .ok (.aload_n 0, 1) := by decide +kernel
theorem dX13_image_19 : decode cX13_image 19 = .ok (.getfield 348, 3) := by decide +kernel
theorem dX13_image_22 : decode cX13_image 22 = .ok (.iconst 3, 1) := by decide +kernel
theorem dX13_image_23 : decode cX13_image 23 = .ok (.if_icmp .ne 9, 3) := by decide +kernel
theorem dX13_image_26 : decode cX13_image 26 = .ok (.aload_n 0, 1) := by decide +kernel
theorem dX13_image_27 : decode cX13_image 27 = .ok (.iconst 3, 1) := by decide +kernel
theorem dX13_image_28 : decode cX13_image 28 = .ok (.invokevirtual 52, 3) := by decide +kernel
theorem dX13_image_31 : decode cX13_image 31 = .ok (.ireturn, 1) := by decide +kernel
theorem dX13_image_32 : decode cX13_image 32 = .ok (.iconst 0, 1) := by decide +kernel
theorem dX13_image_33 : decode cX13_image 33 = .ok (.istore_n 1, 1) := by decide +kernel
theorem dX13_image_34 : decode cX13_image 34 = .ok (.iload_n 1, 1) := by decide +kernel
theorem dX13_image_35 : decode cX13_image 35 = .ok (.bipush 26, 2) := by decide +kernel
theorem dX13_image_37 : decode cX13_image 37 = .ok (.if_icmp .ge 29, 3) := by decide +kernel
theorem dX13_image_40 : decode cX13_image 40 = .ok (.aload_n 0, 1) := by decide +kernel
theorem dX13_image_41 : decode cX13_image 41 = .ok (.getfield 27, 3) := by decide +kernel
theorem dX13_image_44 : decode cX13_image 44 = .ok (.bipush 26, 2) := by decide +kernel
theorem dX13_image_46 : decode cX13_image 46 = .ok (.aload_n 0, 1) := by decide +kernel
theorem dX13_image_47 : decode cX13_image 47 = .ok (.getfield 348, 3) := by decide +kernel
theorem dX13_image_50 : decode cX13_image 50 = .ok (.imul, 1) := by decide +kernel
theorem dX13_image_51 : decode cX13_image 51 = .ok (.iload_n 1, 1) := by decide +kernel
theorem dX13_image_52 : decode cX13_image 52 = .ok (.iadd, 1) := by decide +kernel
theorem dX13_image_53 : decode cX13_image 53 = .ok (.aload_n 0, 1) := by decide +kernel
theorem dX13_image_54 : decode cX13_image 54 = .ok (.getfield 17, 3) := by decide +kernel
theorem dX13_image_57 : decode cX13_image 57 = .ok (.iload_n 1, 1) := by decide +kernel
theorem dX13_image_58 : decode cX13_image 58 = .ok (.iaload, 1) := by decide +kernel
theorem dX13_image_59 : decode cX13_image 59 = .ok (.iastore, 1) := by decide +kernel
theorem dX13_image_60 : decode cX13_image 60 = .ok (.iinc 1 1, 3) := by decide +kernel
theorem dX13_image_63 : decode cX13_image 63 = .ok (.goto (-29), 3) := by decide +kernel
theorem dX13_image_66 : decode cX13_image 66 = .ok (.aload_n 0, 1) := by decide +kernel
theorem dX13_image_67 : decode cX13_image 67 = .ok (.dup, 1) := by decide +kernel
theorem dX13_image_68 : decode cX13_image 68 = .ok (.getfield 348, 3) := by decide +kernel
theorem dX13_image_71 : decode cX13_image 71 = .ok (.iconst 1, 1) := by decide +kernel
theorem dX13_image_72 : decode cX13_image 72 = .ok (.iadd, 1) := by decide +kernel
theorem dX13_image_73 : decode cX13_image 73 = .ok (.putfield 348, 3) := by decide +kernel
theorem dX13_image_76 : decode cX13_image 76 = .ok (.aload_n 0, 1) := by decide +kernel
theorem dX13_image_77 : decode cX13_image 77 = .ok (.aload_n 0, 1) := by decide +kernel
theorem dX13_image_78 : decode cX13_image 78 = .ok (.getfield 348, 3) := by decide +kernel
theorem dX13_image_81 : decode cX13_image 81 = .ok (.iconst 1, 1) := by decide +kernel
theorem dX13_image_82 : decode cX13_image 82 = .ok (.isub, 1) := by decide +kernel
theorem dX13_image_83 : decode cX13_image 83 = .ok (.invokevirtual 56, 3) := by decide +kernel
theorem dX13_image_86 : decode cX13_image 86 = .ok (.ireturn, 1) := by decide +kernel
theorem dX13_back_0 : decode cX13_back 0 = .ok (.aload_n 0, 1) := by decide +kernel
theorem dX13_back_1 : decode cX13_back 1 = .ok (.iconst 0, 1) := by decide +kernel
theorem dX13_back_2 : decode cX13_back 2 = .ok (.putfield 46, 3) := by decide +kernel
theorem dX13_back_5 : decode cX13_back 5 = .ok (.aload_n 0, 1) := by decide +kernel
theorem dX13_back_6 : decode cX13_back 6 = .ok (.getfield 343, 3) := by decide +kernel
theorem dX13_back_9 : decode cX13_back 9 = .ok (.ifnull 15, 3) := by decide +kernel
theorem dX13_back_12 : decode cX13_back 12 = .ok (.iload_n 1, 1) := by decide +kernel
theorem dX13_back_13 : decode cX13_back 13 = .ok (.ifCond .lt 11, 3) := by decide +kernel
theorem dX13_back_16 : decode cX13_back 16 = .ok (.iload_n 1, 1) := by decide +kernel
theorem dX13_back_17 : decode cX13_back 17 = .ok (.aload_n 0, 1) := by decide +kernel
theorem dX13_back_18 : decode cX13_back 18 = .ok (.getfield 348, 3) := by decide +kernel
theorem dX13_back_21 : decode cX13_back 21 = .ok (.if_icmp .lt 9, 3) := by decide +kernel
theorem dX13_back_24 : decode cX13_back 24 = .ok (.aload_n 0, 1) := by decide +kernel
theorem dX13_back_25 : decode cX13_back 25 = .ok (.iconst 1, 1) := by decide +kernel
theorem dX13_back_26 : decode cX13_back 26 = .ok (.invokevirtual 523, 3) := by decide +kernel
theorem dX13_back_29 : decode cX13_back 29 = .ok (.ireturn, 1) := by decide +kernel
theorem dX13_back_30 : decode cX13_back 30 = .ok (.iconst 0, 1) := by decide +kernel
theorem dX13_back_31 : decode cX13_back 31 = .ok (.istore_n 2, 1) := by decide +kernel
theorem dX13_back_32 : decode cX13_back 32 = .ok (.iload_n 2, 1) := by decide +kernel
theorem dX13_back_33 : decode cX13_back 33 = .ok (.bipush 26, 2) := by decide +kernel
theorem dX13_back_35 : decode cX13_back 35 = .ok (.if_icmp .ge 26, 3) := by decide +kernel
theorem dX13_back_38 : decode cX13_back 38 = .ok (.aload_n 0, 1) := by decide +kernel
theorem dX13_back_39 : decode cX13_back 39 = .ok (.getfield 17, 3) := by decide +kernel
theorem dX13_back_42 : decode cX13_back 42 = .ok (.iload_n 2, 1) := by decide +kernel
theorem dX13_back_43 : decode cX13_back 43 = .ok (.aload_n 0, 1) := by decide +kernel
theorem dX13_back_44 : decode cX13_back 44 = .ok (.getfield 27, 3) := by decide +kernel
theorem dX13_back_47 : decode cX13_back 47 = .ok (.bipush 26, 2) := by decide +kernel
theorem dX13_back_49 : decode cX13_back 49 = .ok (.iload_n 1, 1) := by decide +kernel
theorem dX13_back_50 : decode cX13_back 50 = .ok (.imul, 1) := by decide +kernel
theorem dX13_back_51 : decode cX13_back 51 = .ok (.iload_n 2, 1) := by decide +kernel
theorem dX13_back_52 : decode cX13_back 52 = .ok (.iadd, 1) := by decide +kernel
theorem dX13_back_53 : decode cX13_back 53 = .ok (.iaload, 1) := by decide +kernel
theorem dX13_back_54 : decode cX13_back 54 = .ok (.iastore, 1) := by decide +kernel
theorem dX13_back_55 : decode cX13_back 55 = .ok (.iinc 2 1, 3) := by decide +kernel
theorem dX13_back_58 : decode cX13_back 58 = .ok (.goto (-26), 3) := by decide +kernel
theorem dX13_back_61 : decode cX13_back 61 = .ok (.aload_n 0, 1) := by decide +kernel
theorem dX13_back_62 : decode cX13_back 62 = .ok (.iconst 0, 1) := by decide +kernel
theorem dX13_back_63 : decode cX13_back 63 = .ok (.putfield 345, 3) := by decide +kernel
theorem dX13_back_66 : decode cX13_back 66 = .ok (.aload_n 0, 1) := by decide +kernel
theorem dX13_back_67 : decode cX13_back 67 = .ok (.invokevirtual 526, 3) := by decide +kernel
theorem dX13_back_70 : decode cX13_back 70 = .ok (.ireturn, 1) := by decide +kernel
theorem dX13_led_0 : decode cX13_led 0 = .ok (.aload_n 0, 1) := by decide +kernel
theorem dX13_led_1 : decode cX13_led 1 = .ok (.iconst 0, 1) := by decide +kernel
theorem dX13_led_2 : decode cX13_led 2 = .ok (.putfield 46, 3) := by decide +kernel
theorem dX13_led_5 : decode cX13_led 5 = .ok (.iconst 0, 1) := by decide +kernel
theorem dX13_led_6 : decode cX13_led 6 = .ok (.istore_n 2, 1) := by decide +kernel
theorem dX13_led_7 : decode cX13_led 7 = .ok (.aload_n 0, 1) := by decide +kernel
theorem dX13_led_8 : decode cX13_led 8 = .ok (.getfield 343, 3) := by decide +kernel
theorem dX13_led_11 : decode cX13_led 11 = .ok (.ifnull 8, 3) := by decide +kernel
theorem dX13_led_14 : decode cX13_led 14 = .ok (.aload_n 0, 1) := by decide +kernel
theorem dX13_led_15 : decode cX13_led 15 = .ok (.iconst 0, 1) := by decide +kernel
theorem dX13_led_16 : decode cX13_led 16 = .ok (.invokevirtual 398, 3) := by decide +kernel
theorem dX13_led_19 : decode cX13_led 19 = .ok (.iconst 0, 1) := by decide +kernel
theorem dX13_led_20 : decode cX13_led 20 = .ok (.istore_n 3, 1) := by decide +kernel
theorem dX13_led_21 : decode cX13_led 21 = .ok (.aload_n 0, 1) := by decide +kernel
theorem dX13_led_22 : decode cX13_led 22 = .ok (.getfield 343, 3) := by decide +kernel
theorem dX13_led_25 : decode cX13_led 25 = .ok (.ifnull 42, 3) := by decide +kernel
theorem dX13_led_28 : decode cX13_led 28 = .ok (.iload_n 3, 1) := by decide +kernel
theorem dX13_led_29 : decode cX13_led 29 = .ok (.aload_n 0, 1) := by decide +kernel
theorem dX13_led_30 : decode cX13_led 30 = .ok (.getfield 17, 3) := by decide +kernel
theorem dX13_led_33 : decode cX13_led 33 = .ok (.bipush 24, 2) := by decide +kernel
theorem dX13_led_35 : decode cX13_led 35 = .ok (.iaload, 1) := by decide +kernel
theorem dX13_led_36 : decode cX13_led 36 = .ok (.if_icmp .ge 31, 3) := by decide +kernel
theorem dX13_led_39 : decode cX13_led 39 = .ok (.aload_n 0, 1) := by decide +kernel
theorem dX13_led_40 : decode cX13_led 40 = .ok (.getfield 36, 3) := by decide +kernel
theorem dX13_led_43 : decode cX13_led 43 = .ok (.iload_n 3, 1) := by decide +kernel
theorem dX13_led_44 : decode cX13_led 44 = .ok (.iaload, 1) := by decide +kernel
theorem dX13_led_45 : decode cX13_led 45 = .ok (.ifCond .le 6, 3) := by decide +kernel
theorem dX13_led_48 : decode cX13_led 48 = .ok (.goto 13, 3) := by decide +kernel
theorem dX13_led_51 : decode cX13_led 51 = .ok (.iload_n 2, 1) := by decide +kernel
theorem dX13_led_52 : decode cX13_led 52 = .ok (.iload_n 1, 1) := by decide +kernel
theorem dX13_led_53 : decode cX13_led 53 = .ok (.if_icmp .ne 5, 3) := by decide +kernel
theorem dX13_led_56 : decode cX13_led 56 = .ok (.iload_n 3, 1) := by decide +kernel
theorem dX13_led_57 : decode cX13_led 57 = .ok (.ireturn, 1) := by decide +kernel
theorem dX13_led_58 : decode cX13_led 58 = .ok (.iinc 2 1, 3) := by decide +kernel
theorem dX13_led_61 : decode cX13_led 61 = .ok (.iinc 3 1, 3) := by decide +kernel
theorem dX13_led_64 : decode cX13_led 64 = .ok (.goto (-43), 3) := by decide +kernel
theorem dX13_led_67 : decode cX13_led 67 = .ok (.aload_n 0, 1) := by decide +kernel
theorem dX13_led_68 : decode cX13_led 68 = .ok (.iconst 1, 1) := by decide +kernel
theorem dX13_led_69 : decode cX13_led 69 = .ok (.putfield 46, 3) := by decide +kernel
theorem dX13_led_72 : decode cX13_led 72 = .ok (.iconst 0, 1) := by decide +kernel
theorem dX13_led_73 : decode cX13_led 73 = .ok (.ireturn, 1) := by decide +kernel
theorem dX13_size_0 : decode cX13_size 0 = .ok (.aload_n 0, 1) := by decide +kernel
theorem dX13_size_1 : decode cX13_size 1 = .ok (.iconst 0, 1) := by decide +kernel
theorem dX13_size_2 : decode cX13_size 2 = .ok (.putfield 46, 3) := by decide +kernel
theorem dX13_size_5 : decode cX13_size 5 = .ok (.iload_n 1, 1) := by decide +kernel
theorem dX13_size_6 : decode cX13_size 6 = .ok (.bipush 12, 2) := by decide +kernel
theorem dX13_size_8 : decode cX13_size 8 = .ok (.if_icmp .ne 8, 3) := by decide +kernel
theorem dX13_size_11 : decode cX13_size 11 = .ok (.aload_n 0, 1) := by decide +kernel
theorem dX13_size_12 : decode cX13_size 12 = .ok (.getfield 336, 3) := by decide +kernel
theorem dX13_size_15 : decode cX13_size 15 = .ok (.ireturn, 1) := by decide +kernel
theorem dX13_size_16 : decode cX13_size 16 = .ok (.iload_n 1, 1) := by decide +kernel
theorem dX13_size_17 : decode cX13_size 17 = .ok (.iconst 0, 1) := by decide +kernel
theorem dX13_size_18 : decode cX13_size 18 = .ok (.bipush 11, 2) := by decide +kernel
theorem dX13_size_20 : decode cX13_size 20 = .ok (.invokestatic 121, 3) := by decide +kernel
theorem dX13_size_23 : decode cX13_size 23 = .ok (.ifCond .ne 5, 3) := by decide +kernel
theorem dX13_size_26 : decode cX13_size 26 = .ok (.iconst (-1), 1) := by decide +kernel
theorem dX13_size_27 : decode cX13_size 27 = .ok (.ireturn, 1) := by decide +kernel
theorem dX13_size_28 : decode cX13_size 28 = .ok (.aload_n 0, 1) := by decide +kernel
theorem dX13_size_29 : decode cX13_size 29 = .ok (.getfield 343, 3) := by decide +kernel
theorem dX13_size_32 : decode cX13_size 32 = .ok (.ifnonnull 5, 3) := by decide +kernel
theorem dX13_size_35 : decode cX13_size 35 = .ok (.iconst 0, 1) := by decide +kernel
theorem dX13_size_36 : decode cX13_size 36 = .ok (.ireturn, 1) := by decide +kernel
theorem dX13_size_37 : decode cX13_size 37 = .ok (.iload_n 1, 1) := by decide +kernel
theorem dX13_size_38 : decode cX13_size 38 = .ok (.tableswitch 143 0 10 #[58, 66, 74, 82, 90, 98, 106, 114, 122, 130, 138], 58) := by decide +kernel
theorem dX13_size_96 : decode cX13_size 96 = .ok (.aload_n 0, 1) := by decide +kernel
theorem dX13_size_97 : decode cX13_size 97 = .ok (.getfield 343, 3) := by decide +kernel
theorem dX13_size_100 : decode cX13_size 100 = .ok (.getfield 153, 3) := by decide +kernel
theorem dX13_size_103 : decode cX13_size 103 = .ok (.ireturn, 1) := by decide +kernel
theorem dX13_size_104 : decode cX13_size 104 = .ok (.aload_n 0, 1) := by decide +kernel
theorem dX13_size_105 : decode cX13_size 105 = .ok (.getfield 343, 3) := by decide +kernel
theorem dX13_size_108 : decode cX13_size 108 = .ok (.getfield 228, 3) := by decide +kernel
theorem dX13_size_111 : decode cX13_size 111 = .ok (.ireturn, 1) := by decide +kernel
theorem dX13_size_112 : decode cX13_size 112 = .ok (.aload_n 0, 1) := by decide +kernel
theorem dX13_size_113 : decode cX13_size 113 = .ok (.getfield 343, 3) := by decide +kernel
theorem dX13_size_116 : decode cX13_size 116 = .ok (.getfield 194, 3) := by decide +kernel
theorem dX13_size_119 : decode cX13_size 119 = .ok (.ireturn, 1) := by decide +kernel
theorem dX13_size_120 : decode cX13_size 120 = .ok (.aload_n 0, 1) := by decide +kernel
theorem dX13_size_121 : decode cX13_size 121 = .ok (.getfield 17, 3) := by decide +kernel
theorem dX13_size_124 : decode cX13_size 124 = .ok (.bipush 24, 2) := by decide +kernel
theorem dX13_size_126 : decode cX13_size 126 = .ok (.iaload, 1) := by decide +kernel
theorem dX13_size_127 : decode cX13_size 127 = .ok (.ireturn, 1) := by decide +kernel
theorem dX13_size_128 : decode cX13_size 128 = .ok (.aload_n 0, 1) := by decide +kernel
theorem dX13_size_129 : decode cX13_size 129 = .ok (.getfield 343, 3) := by decide +kernel
theorem dX13_size_132 : decode cX13_size 132 = .ok (.getfield 271, 3) := by decide +kernel
theorem dX13_size_135 : decode cX13_size 135 = .ok (.ireturn, 1) := by decide +kernel
theorem dX13_size_136 : decode cX13_size 136 = .ok (.aload_n 0, 1) := by decide +kernel
theorem dX13_size_137 : decode cX13_size 137 = .ok (.getfield 343, 3) := by decide +kernel
theorem dX13_size_140 : decode cX13_size 140 = .ok (.getfield 287, 3) := by decide +kernel
theorem dX13_size_143 : decode cX13_size 143 = .ok (.ireturn, 1) := by decide +kernel
theorem dX13_size_144 : decode cX13_size 144 = .ok (.aload_n 0, 1) := by decide +kernel
theorem dX13_size_145 : decode cX13_size 145 = .ok (.getfield 343, 3) := by decide +kernel
theorem dX13_size_148 : decode cX13_size 148 = .ok (.getfield 298, 3) := by decide +kernel
theorem dX13_size_151 : decode cX13_size 151 = .ok (.ireturn, 1) := by decide +kernel
theorem dX13_size_152 : decode cX13_size 152 = .ok (.aload_n 0, 1) := by decide +kernel
theorem dX13_size_153 : decode cX13_size 153 = .ok (.getfield 343, 3) := by decide +kernel
theorem dX13_size_156 : decode cX13_size 156 = .ok (.getfield 313, 3) := by decide +kernel
theorem dX13_size_159 : decode cX13_size 159 = .ok (.ireturn, 1) := by decide +kernel
theorem dX13_size_160 : decode cX13_size 160 = .ok (.aload_n 0, 1) := by decide +kernel
theorem dX13_size_161 : decode cX13_size 161 = .ok (.getfield 343, 3) := by decide +kernel
theorem dX13_size_164 : decode cX13_size 164 = .ok (.getfield 321, 3) := by decide +kernel
theorem dX13_size_167 : decode cX13_size 167 = .ok (.ireturn, 1) := by decide +kernel
theorem dX13_size_168 : decode cX13_size 168 = .ok (.aload_n 0, 1) := by decide +kernel
theorem dX13_size_169 : decode cX13_size 169 = .ok (.getfield 17, 3) := by decide +kernel
theorem dX13_size_172 : decode cX13_size 172 = .ok (.bipush 25, 2) := by decide +kernel
theorem dX13_size_174 : decode cX13_size 174 = .ok (.iaload, 1) := by decide +kernel
theorem dX13_size_175 : decode cX13_size 175 = .ok (.ireturn, 1) := by decide +kernel
theorem dX13_size_176 : decode cX13_size 176 = .ok (.aload_n 0, 1) := by decide +kernel
theorem dX13_size_177 : decode cX13_size 177 = .ok (.getfield 345, 3) := by decide +kernel
theorem dX13_size_180 : decode cX13_size 180 = .ok (.ireturn, 1) := by decide +kernel
theorem dX13_size_181 : decode cX13_size 181 = .ok (.aload_n 0, 1) := by decide +kernel
theorem dX13_size_182 : decode cX13_size 182 = .ok (.getfield 348, 3) := by decide +kernel
theorem dX13_size_185 : decode cX13_size 185 = .ok (.ireturn, 1) := by decide +kernel
theorem dX13_trouble_0 : decode cX13_trouble 0 = .ok (.aload_n 0, 1) := by decide +kernel
theorem dX13_trouble_1 : decode cX13_trouble 1 = .ok (.iconst 0, 1) := by decide +kernel
theorem dX13_trouble_2 : decode cX13_trouble 2 = .ok (.putfield 46, 3) := by decide +kernel
theorem dX13_trouble_5 : decode cX13_trouble 5 = .ok (.aload_n 0, 1) := by decide +kernel
theorem dX13_trouble_6 : decode cX13_trouble 6 = .ok (.getfield 49, 3) := by decide +kernel
theorem dX13_trouble_9 : decode cX13_trouble 9 = .ok (.ireturn, 1) := by decide +kernel
