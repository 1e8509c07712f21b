theorem dX11_init_0 : decode cX11_init 0 = .ok (.aload_n 0, 1) := by decide +kernel
theorem dX11_init_1 : decode cX11_init 1 = .ok (.invokespecial 1, 3) := by decide +kernel
theorem dX11_init_4 : decode cX11_init 4 = .ok (.aload_n 0, 1) := by decide +kernel
theorem dX11_init_5 : decode cX11_init 5 = .ok (.new 7, 3) := by decide +kernel
theorem dX11_init_8 : decode cX11_init 8 = .ok (.dup, 1) := by decide +kernel
theorem dX11_init_9 : decode cX11_init 9 = .ok (.invokespecial 9, 3) := by decide +kernel
theorem dX11_init_12 : decode cX11_init 12 = .ok (.putfield 10, 3) := by decide +kernel
theorem dX11_init_15 : decode cX11_init 15 = .ok (.aload_n 0, 1) := by decide +kernel
theorem dX11_init_16 : decode cX11_init 16 = .ok (.new 16, 3) := by decide +kernel
theorem dX11_init_19 : decode cX11_init 19 = .ok (.dup, 1) := by decide +kernel
theorem dX11_init_20 : decode cX11_init 20 = .ok (.invokespecial 18, 3) := by decide +kernel
theorem dX11_init_23 : decode cX11_init 23 = .ok (.putfield 19, 3) := by decide +kernel
theorem dX11_init_26 : decode cX11_init 26 = .ok (.aload_n 0, 1) := by decide +kernel
theorem dX11_init_27 : decode cX11_init 27 = .ok (.new 23, 3) := by decide +kernel
theorem dX11_init_30 : decode cX11_init 30 = .ok (.dup, 1) := by decide +kernel
theorem dX11_init_31 : decode cX11_init 31 = .ok (.invokespecial 25, 3) := by decide +kernel
theorem dX11_init_34 : decode cX11_init 34 = .ok (.putfield 26, 3) := by decide +kernel
theorem dX11_init_37 : decode cX11_init 37 = .ok (.aload_n 0, 1) := by decide +kernel
theorem dX11_init_38 : decode cX11_init 38 = .ok (.new 30, 3) := by decide +kernel
theorem dX11_init_41 : decode cX11_init 41 = .ok (.dup, 1) := by decide +kernel
theorem dX11_init_42 : decode cX11_init 42 = .ok (.invokespecial 32, 3) := by decide +kernel
theorem dX11_init_45 : decode cX11_init 45 = .ok (.putfield 33, 3) := by decide +kernel
theorem dX11_init_48 : decode cX11_init 48 = .ok (.aload_n 0, 1) := by decide +kernel
theorem dX11_init_49 : decode cX11_init 49 = .ok (.new 37, 3) := by decide +kernel
theorem dX11_init_52 : decode cX11_init 52 = .ok (.dup, 1) := by decide +kernel
theorem dX11_init_53 : decode cX11_init 53 = .ok (.invokespecial 39, 3) := by decide +kernel
theorem dX11_init_56 : decode cX11_init 56 = .ok (.putfield 40, 3) := by decide +kernel
theorem dX11_init_59 : decode cX11_init 59 = .ok (.aload_n 0, 1) := by decide +kernel
theorem dX11_init_60 : decode cX11_init 60 = .ok (.new 44, 3) := by decide +kernel
theorem dX11_init_63 : decode cX11_init 63 = .ok (.dup, 1) := by decide +kernel
theorem dX11_init_64 : decode cX11_init 64 = .ok (.invokespecial 46, 3) := by decide +kernel
theorem dX11_init_67 : decode cX11_init 67 = .ok (.putfield 47, 3) := by decide +kernel
theorem dX11_init_70 : decode cX11_init 70 = .ok (.aload_n 0, 1) := by decide +kernel
theorem dX11_init_71 : decode cX11_init 71 = .ok (.new 51, 3) := by decide +kernel
theorem dX11_init_74 : decode cX11_init 74 = .ok (.dup, 1) := by decide +kernel
theorem dX11_init_75 : decode cX11_init 75 = .ok (.invokespecial 53, 3) := by decide +kernel
theorem dX11_init_78 : decode cX11_init 78 = .ok (.putfield 54, 3) := by decide +kernel
theorem dX11_init_81 : decode cX11_init 81 = .ok (.aload_n 0, 1) := by decide +kernel
theorem dX11_init_82 : decode cX11_init 82 = .ok (.new 58, 3) := by decide +kernel
theorem dX11_init_85 : decode cX11_init 85 = .ok (.dup, 1) := by decide +kernel
theorem dX11_init_86 : decode cX11_init 86 = .ok (.invokespecial 60, 3) := by decide +kernel
theorem dX11_init_89 : decode cX11_init 89 = .ok (.putfield 61, 3) := by decide +kernel
theorem dX11_init_92 : decode cX11_init 92 = .ok (.return_, 1) := by decide +kernel
theorem dX11_feed_0 : decode cX11_feed 0 = .ok (.aload_n 0, 1) := by decide +kernel
theorem dX11_feed_1 : decode cX11_feed 1 = .ok (.getfield 10, 3) := by decide +kernel
theorem dX11_feed_4 : decode cX11_feed 4 = .ok (.getfield 65, 3) := by decide +kernel
theorem dX11_feed_7 : decode cX11_feed 7 = .ok (.astore 6, 2) := by decide +kernel
theorem dX11_feed_9 : decode cX11_feed 9 = .ok (.aload 6, 2) := by decide +kernel
theorem dX11_feed_11 : decode cX11_feed 11 = .ok (.invokevirtual 69, 3) := by decide +kernel
theorem dX11_feed_14 : decode cX11_feed 14 = .ok (.ifCond .ne 5, 3) := by decide +kernel
theorem dX11_feed_17 : decode cX11_feed 17 = .ok (.iconst (-1), 1) := by decide +kernel
theorem dX11_feed_18 : decode cX11_feed 18 = .ok (.ireturn, 1) := by decide +kernel
theorem dX11_feed_19 : decode cX11_feed 19 = .ok (.aload 6, 2) := by decide +kernel
theorem dX11_feed_21 : decode cX11_feed 21 = .ok (.iload_n 1, 1) := by decide +kernel
theorem dX11_feed_22 : decode cX11_feed 22 = .ok (.invokevirtual 75, 3) := by decide +kernel
theorem dX11_feed_25 : decode cX11_feed 25 = .ok (.aload 6, 2) := by decide +kernel
theorem dX11_feed_27 : decode cX11_feed 27 = .ok (.iload_n 2, 1) := by decide +kernel
theorem dX11_feed_28 : decode cX11_feed 28 = .ok (.invokevirtual 75, 3) := by decide +kernel
theorem dX11_feed_31 : decode cX11_feed 31 = .ok (.aload 6, 2) := by decide +kernel
theorem dX11_feed_33 : decode cX11_feed 33 = .ok (.iload_n 3, 1) := by decide +kernel
theorem dX11_feed_34 : decode cX11_feed 34 = .ok (.invokevirtual 75, 3) := by decide +kernel
theorem dX11_feed_37 : decode cX11_feed 37 = .ok (.aload 6, 2) := by decide +kernel
theorem dX11_feed_39 : decode cX11_feed 39 = .ok (.iload 4, 2) := by decide +kernel
theorem dX11_feed_41 : decode cX11_feed 41 = .ok (.invokevirtual 75, 3) := by decide +kernel
theorem dX11_feed_44 : decode cX11_feed 44 = .ok (.aload 6, 2) := by decide +kernel
theorem dX11_feed_46 : decode cX11_feed 46 = .ok (.iload 5, 2) := by decide +kernel
theorem dX11_feed_48 : decode cX11_feed 48 = .ok (.invokevirtual 75, 3) := by decide +kernel
theorem dX11_feed_51 : decode cX11_feed 51 = .ok (.aload 6, 2) := by decide +kernel
theorem dX11_feed_53 : decode cX11_feed 53 = .ok (.getfield 79, 3) := by decide +kernel
theorem dX11_feed_56 : decode cX11_feed 56 = .ok (.ireturn, 1) := by decide +kernel
theorem dX11_web_0 : decode cX11_web 0 = .ok (.aload_n 0, 1) := by decide +kernel
theorem dX11_web_1 : decode cX11_web 1 = .ok (.iload_n 1, 1) := by decide +kernel
theorem dX11_web_2 : decode cX11_web 2 = .ok (.iconst 0, 1) := by decide +kernel
theorem dX11_web_3 : decode cX11_web 3 = .ok (.aload_n 0, 1) := by decide +kernel
theorem dX11_web_4 : decode cX11_web 4 = .ok (.getfield 10, 3) := by decide +kernel
theorem dX11_web_7 : decode cX11_web 7 = .ok (.getfield 65, 3) := by decide +kernel
theorem dX11_web_10 : decode cX11_web 10 = .ok (.getfield 79, 3) := by decide +kernel
theorem dX11_web_13 : decode cX11_web 13 = .ok (.invokestatic 83, 3) := by decide +kernel
theorem dX11_web_16 : decode cX11_web 16 = .ok (.invokevirtual 87, 3) := by decide +kernel
theorem dX11_web_19 : decode cX11_web 19 = .ok (.ifCond .eq 5, 3) := by decide +kernel
theorem dX11_web_22 : decode cX11_web 22 = .ok (.iconst (-1), 1) := by decide +kernel
theorem dX11_web_23 : decode cX11_web 23 = .ok (.ireturn, 1) := by decide +kernel
theorem dX11_web_24 : decode cX11_web 24 = .ok (.aload_n 0, 1) := by decide +kernel
theorem dX11_web_25 : decode cX11_web 25 = .ok (.getfield 10, 3) := by decide +kernel
theorem dX11_web_28 : decode cX11_web 28 = .ok (.iload_n 1, 1) := by decide +kernel
theorem dX11_web_29 : decode cX11_web 29 = .ok (.invokevirtual 91, 3) := by decide +kernel
theorem dX11_web_32 : decode cX11_web 32 = .ok (.aload_n 0, 1) := by decide +kernel
theorem dX11_web_33 : decode cX11_web 33 = .ok (.getfield 10, 3) := by decide +kernel
theorem dX11_web_36 : decode cX11_web 36 = .ok (.getfield 65, 3) := by decide +kernel
theorem dX11_web_39 : decode cX11_web 39 = .ok (.iconst 0, 1) := by decide +kernel
theorem dX11_web_40 : decode cX11_web 40 = .ok (.putfield 79, 3) := by decide +kernel
theorem dX11_web_43 : decode cX11_web 43 = .ok (.aload_n 0, 1) := by decide +kernel
theorem dX11_web_44 : decode cX11_web 44 = .ok (.aload_n 0, 1) := by decide +kernel
theorem dX11_web_45 : decode cX11_web 45 = .ok (.getfield 10, 3) := by decide +kernel
theorem dX11_web_48 : decode cX11_web 48 = .ok (.getfield 94, 3) := by decide +kernel
theorem dX11_web_51 : decode cX11_web 51 = .ok (.ifCond .ne 7, 3) := by decide +kernel
theorem dX11_web_54 : decode cX11_web 54 = .ok (.iconst 0, 1) := by decide +kernel
theorem dX11_web_55 : decode cX11_web 55 = .ok (.goto 4, 3) := by decide +kernel
theorem dX11_web_58 : decode cX11_web 58 = .ok (.iconst 4, 1) := by decide +kernel
theorem dX11_web_59 : decode cX11_web 59 = .ok (.invokevirtual 87, 3) := by decide +kernel
theorem dX11_web_62 : decode cX11_web 62 = .ok (.ifCond .eq 5, 3) := by decide +kernel
theorem dX11_web_65 : decode cX11_web 65 = .ok (.iconst (-1), 1) := by decide +kernel
theorem dX11_web_66 : decode cX11_web 66 = .ok (.ireturn, 1) := by decide +kernel
theorem dX11_web_67 : decode cX11_web 67 = .ok (.aload_n 0, 1) := by decide +kernel
theorem dX11_web_68 : decode cX11_web 68 = .ok (.getfield 19, 3) := by decide +kernel
theorem dX11_web_71 : decode cX11_web 71 = .ok (.aload_n 0, 1) := by decide +kernel
theorem dX11_web_72 : decode cX11_web 72 = .ok (.getfield 10, 3) := by decide +kernel
theorem dX11_web_75 : decode cX11_web 75 = .ok (.getfield 97, 3) := by decide +kernel
theorem dX11_web_78 : decode cX11_web 78 = .ok (.invokevirtual 100, 3) := by decide +kernel
theorem dX11_web_81 : decode cX11_web 81 = .ok (.aload_n 0, 1) := by decide +kernel
theorem dX11_web_82 : decode cX11_web 82 = .ok (.getfield 26, 3) := by decide +kernel
theorem dX11_web_85 : decode cX11_web 85 = .ok (.aload_n 0, 1) := by decide +kernel
theorem dX11_web_86 : decode cX11_web 86 = .ok (.getfield 19, 3) := by decide +kernel
theorem dX11_web_89 : decode cX11_web 89 = .ok (.invokevirtual 104, 3) := by decide +kernel
theorem dX11_web_92 : decode cX11_web 92 = .ok (.aload_n 0, 1) := by decide +kernel
theorem dX11_web_93 : decode cX11_web 93 = .ok (.getfield 33, 3) := by decide +kernel
theorem dX11_web_96 : decode cX11_web 96 = .ok (.invokevirtual 107, 3) := by decide +kernel
theorem dX11_web_99 : decode cX11_web 99 = .ok (.aload_n 0, 1) := by decide +kernel
theorem dX11_web_100 : decode cX11_web 100 = .ok (.getfield 47, 3) := by decide +kernel
theorem dX11_web_103 : decode cX11_web 103 = .ok (.aload_n 0, 1) := by decide +kernel
theorem dX11_web_104 : decode cX11_web 104 = .ok (.getfield 19, 3) := by decide +kernel
theorem dX11_web_107 : decode cX11_web 107 = .ok (.invokevirtual 110, 3) := by decide +kernel
theorem dX11_web_110 : decode cX11_web 110 = .ok (.aload_n 0, 1) := by decide +kernel
theorem dX11_web_111 : decode cX11_web 111 = .ok (.getfield 19, 3) := by decide +kernel
theorem dX11_web_114 : decode cX11_web 114 = .ok (.iconst 1, 1) := by decide +kernel
theorem dX11_web_115 : decode cX11_web 115 = .ok (.invokevirtual 113, 3) := by decide +kernel
theorem dX11_web_118 : decode cX11_web 118 = .ok (.ireturn, 1) := by decide +kernel
theorem dX11_fault_0 : decode cX11_fault 0 = .ok (.aload_n 0, 1) := by decide +kernel
theorem dX11_fault_1 : decode cX11_fault 1 = .ok (.getfield 10, 3) := by decide +kernel
theorem dX11_fault_4 : decode cX11_fault 4 = .ok (.getfield 94, 3) := by decide +kernel
theorem dX11_fault_7 : decode cX11_fault 7 = .ok (.ireturn, 1) := by decide +kernel
theorem dX11_where_0 : decode cX11_where 0 = .ok (.aload_n 0, 1) := by decide +kernel
theorem dX11_where_1 : decode cX11_where 1 = .ok (.getfield 117, 3) := by decide +kernel
theorem dX11_where_4 : decode cX11_where 4 = .ok (.iconst 4, 1) := by decide +kernel
theorem dX11_where_5 : decode cX11_where 5 = .ok (.if_icmp .ne 13, 3) := by decide +kernel
theorem dX11_where_8 : decode cX11_where 8 = .ok (.aload_n 0, 1) := by decide +kernel
theorem dX11_where_9 : decode cX11_where 9 = .ok (.getfield 10, 3) := by decide +kernel
theorem dX11_where_12 : decode cX11_where 12 = .ok (.getfield 120, 3) := by decide +kernel
theorem dX11_where_15 : decode cX11_where 15 = .ok (.goto 4, 3) := by decide +kernel
theorem dX11_where_18 : decode cX11_where 18 = .ok (.iconst (-1), 1) := by decide +kernel
theorem dX11_where_19 : decode cX11_where 19 = .ok (.ireturn, 1) := by decide +kernel
theorem dX11_thread_0 : decode cX11_thread 0 = .ok (.aload_n 0, 1) := by decide +kernel
theorem dX11_thread_1 : decode cX11_thread 1 = .ok (.aload_n 0, 1) := by decide +kernel
theorem dX11_thread_2 : decode cX11_thread 2 = .ok (.iload_n 1, 1) := by decide +kernel
theorem dX11_thread_3 : decode cX11_thread 3 = .ok (.invokevirtual 123, 3) := by decide +kernel
theorem dX11_thread_6 : decode cX11_thread 6 = .ok (.iload_n 2, 1) := by decide +kernel
theorem dX11_thread_7 : decode cX11_thread 7 = .ok (.ifCond .lt 13, 3) := by decide +kernel
theorem dX11_thread_10 : decode cX11_thread 10 = .ok (.iload_n 2, 1) := by decide +kernel
theorem dX11_thread_11 : decode cX11_thread 11 = .ok (.bipush 6, 2) := by decide +kernel
theorem dX11_thread_13 : decode cX11_thread 13 = .ok (.if_icmp .gt 7, 3) := by decide +kernel
theorem dX11_thread_16 : decode cX11_thread 16 = .ok (.iconst 0, 1) := by decide +kernel
theorem dX11_thread_17 : decode cX11_thread 17 = .ok (.goto 4, 3) := by decide +kernel
theorem dX11_thread_20 : decode cX11_thread 20 = .ok (.iconst 1, 1) := by decide +kernel
theorem dX11_thread_21 : decode cX11_thread 21 = .ok (.invokestatic 126, 3) := by decide +kernel
theorem dX11_thread_24 : decode cX11_thread 24 = .ok (.invokevirtual 87, 3) := by decide +kernel
theorem dX11_thread_27 : decode cX11_thread 27 = .ok (.ifCond .eq 5, 3) := by decide +kernel
theorem dX11_thread_30 : decode cX11_thread 30 = .ok (.iconst (-1), 1) := by decide +kernel
theorem dX11_thread_31 : decode cX11_thread 31 = .ok (.ireturn, 1) := by decide +kernel
theorem dX11_thread_32 : decode cX11_thread 32 = .ok (.iload_n 2, 1) := by decide +kernel
theorem dX11_thread_33 : decode cX11_thread 33 = .ok (.tableswitch 67 3 6 #[31, 67, 41, 58], 31) := by decide +kernel
theorem dX11_thread_64 : decode cX11_thread 64 = .ok (.aload_n 0, 1) := by decide +kernel
theorem dX11_thread_65 : decode cX11_thread 65 = .ok (.getfield 26, 3) := by decide +kernel
theorem dX11_thread_68 : decode cX11_thread 68 = .ok (.iload_n 1, 1) := by decide +kernel
theorem dX11_thread_69 : decode cX11_thread 69 = .ok (.iconst 0, 1) := by decide +kernel
theorem dX11_thread_70 : decode cX11_thread 70 = .ok (.invokevirtual 130, 3) := by decide +kernel
theorem dX11_thread_73 : decode cX11_thread 73 = .ok (.ireturn, 1) := by decide +kernel
theorem dX11_thread_74 : decode cX11_thread 74 = .ok (.aload_n 0, 1) := by decide +kernel
theorem dX11_thread_75 : decode cX11_thread 75 = .ok (.getfield 26, 3) := by decide +kernel
theorem dX11_thread_78 : decode cX11_thread 78 = .ok (.iload_n 1, 1) := by decide +kernel
theorem dX11_thread_79 : decode cX11_thread 79 = .ok (.invokevirtual 133, 3) := by decide +kernel
theorem dX11_thread_82 : decode cX11_thread 82 = .ok (.ifCond .eq 7, 3) := by decide +kernel
theorem dX11_thread_85 : decode cX11_thread 85 = .ok (.iconst 1, 1) := by decide +kernel
theorem dX11_thread_86 : decode cX11_thread 86 = .ok (.goto 4, 3) := by decide +kernel
theorem dX11_thread_89 : decode cX11_thread 89 = .ok (.iconst 0, 1) := by decide +kernel
theorem dX11_thread_90 : decode cX11_thread 90 = .ok (.ireturn, 1) := by decide +kernel
theorem dX11_thread_91 : decode cX11_thread 91 = .ok (.aload_n 0, 1) := by decide +kernel
theorem dX11_thread_92 : decode cX11_thread 92 = .ok (.getfield 19, 3) := by decide +kernel
theorem dX11_thread_95 : decode cX11_thread 95 = .ok (.iload_n 1, 1) := by decide +kernel
theorem dX11_thread_96 : decode cX11_thread 96 = .ok (.invokevirtual 136, 3) := by decide +kernel
theorem dX11_thread_99 : decode cX11_thread 99 = .ok (.ireturn, 1) := by decide +kernel
theorem dX11_thread_100 : decode cX11_thread 100 = .ok (.aload_n 0, 1) := by decide +kernel
theorem dX11_thread_101 : decode cX11_thread 101 = .ok (.getfield 26, 3) := by decide +kernel
theorem dX11_thread_104 : decode cX11_thread 104 = .ok (.iload_n 1, 1) := by decide +kernel
theorem dX11_thread_105 : decode cX11_thread 105 = .ok (.iload_n 2, 1) := by decide +kernel
theorem dX11_thread_106 : decode cX11_thread 106 = .ok (.invokevirtual 139, 3) := by decide +kernel
theorem dX11_thread_109 : decode cX11_thread 109 = .ok (.ireturn, 1) := by decide +kernel
theorem dX11_nail_0 : decode cX11_nail 0 = .ok (.aload_n 0, 1) := by decide +kernel
theorem dX11_nail_1 : decode cX11_nail 1 = .ok (.aload_n 0, 1) := by decide +kernel
theorem dX11_nail_2 : decode cX11_nail 2 = .ok (.iload_n 1, 1) := by decide +kernel
theorem dX11_nail_3 : decode cX11_nail 3 = .ok (.invokevirtual 142, 3) := by decide +kernel
theorem dX11_nail_6 : decode cX11_nail 6 = .ok (.iload_n 2, 1) := by decide +kernel
theorem dX11_nail_7 : decode cX11_nail 7 = .ok (.ifCond .eq 8, 3) := by decide +kernel
theorem dX11_nail_10 : decode cX11_nail 10 = .ok (.iload_n 2, 1) := by decide +kernel
theorem dX11_nail_11 : decode cX11_nail 11 = .ok (.iconst 1, 1) := by decide +kernel
theorem dX11_nail_12 : decode cX11_nail 12 = .ok (.if_icmp .ne 7, 3) := by decide +kernel
theorem dX11_nail_15 : decode cX11_nail 15 = .ok (.iconst 0, 1) := by decide +kernel
theorem dX11_nail_16 : decode cX11_nail 16 = .ok (.goto 4, 3) := by decide +kernel
theorem dX11_nail_19 : decode cX11_nail 19 = .ok (.iconst 1, 1) := by decide +kernel
theorem dX11_nail_20 : decode cX11_nail 20 = .ok (.invokestatic 126, 3) := by decide +kernel
theorem dX11_nail_23 : decode cX11_nail 23 = .ok (.invokevirtual 87, 3) := by decide +kernel
theorem dX11_nail_26 : decode cX11_nail 26 = .ok (.ifCond .eq 5, 3) := by decide +kernel
theorem dX11_nail_29 : decode cX11_nail 29 = .ok (.iconst (-1), 1) := by decide +kernel
theorem dX11_nail_30 : decode cX11_nail 30 = .ok (.ireturn, 1) := by decide +kernel
theorem dX11_nail_31 : decode cX11_nail 31 = .ok (.aload_n 0, 1) := by decide +kernel
theorem dX11_nail_32 : decode cX11_nail 32 = .ok (.iconst 0, 1) := by decide +kernel
theorem dX11_nail_33 : decode cX11_nail 33 = .ok (.invokevirtual 145, 3) := by decide +kernel
theorem dX11_nail_36 : decode cX11_nail 36 = .ok (.aload_n 0, 1) := by decide +kernel
theorem dX11_nail_37 : decode cX11_nail 37 = .ok (.getfield 40, 3) := by decide +kernel
theorem dX11_nail_40 : decode cX11_nail 40 = .ok (.iload_n 1, 1) := by decide +kernel
theorem dX11_nail_41 : decode cX11_nail 41 = .ok (.invokevirtual 148, 3) := by decide +kernel
theorem dX11_nail_44 : decode cX11_nail 44 = .ok (.istore_n 3, 1) := by decide +kernel
theorem dX11_nail_45 : decode cX11_nail 45 = .ok (.iload_n 2, 1) := by decide +kernel
theorem dX11_nail_46 : decode cX11_nail 46 = .ok (.ifCond .ne 7, 3) := by decide +kernel
theorem dX11_nail_49 : decode cX11_nail 49 = .ok (.iload_n 3, 1) := by decide +kernel
theorem dX11_nail_50 : decode cX11_nail 50 = .ok (.goto 11, 3) := by decide +kernel
theorem dX11_nail_53 : decode cX11_nail 53 = .ok (.aload_n 0, 1) := by decide +kernel
theorem dX11_nail_54 : decode cX11_nail 54 = .ok (.getfield 40, 3) := by decide +kernel
theorem dX11_nail_57 : decode cX11_nail 57 = .ok (.iload_n 3, 1) := by decide +kernel
theorem dX11_nail_58 : decode cX11_nail 58 = .ok (.invokevirtual 151, 3) := by decide +kernel
theorem dX11_nail_61 : decode cX11_nail 61 = .ok (.ireturn, 1) := by decide +kernel
theorem dX11_strong_0 : decode cX11_strong 0 = .ok (.aload_n 0, 1) := by decide +kernel
theorem dX11_strong_1 : decode cX11_strong 1 = .ok (.aload_n 0, 1) := by decide +kernel
theorem dX11_strong_2 : decode cX11_strong 2 = .ok (.iload_n 1, 1) := by decide +kernel
theorem dX11_strong_3 : decode cX11_strong 3 = .ok (.invokevirtual 123, 3) := by decide +kernel
theorem dX11_strong_6 : decode cX11_strong 6 = .ok (.iload_n 2, 1) := by decide +kernel
theorem dX11_strong_7 : decode cX11_strong 7 = .ok (.invokestatic 154, 3) := by decide +kernel
theorem dX11_strong_10 : decode cX11_strong 10 = .ok (.invokestatic 126, 3) := by decide +kernel
theorem dX11_strong_13 : decode cX11_strong 13 = .ok (.invokevirtual 87, 3) := by decide +kernel
theorem dX11_strong_16 : decode cX11_strong 16 = .ok (.ifCond .eq 5, 3) := by decide +kernel
theorem dX11_strong_19 : decode cX11_strong 19 = .ok (.iconst (-1), 1) := by decide +kernel
theorem dX11_strong_20 : decode cX11_strong 20 = .ok (.ireturn, 1) := by decide +kernel
theorem dX11_strong_21 : decode cX11_strong 21 = .ok (.aload_n 0, 1) := by decide +kernel
theorem dX11_strong_22 : decode cX11_strong 22 = .ok (.getfield 26, 3) := by decide +kernel
theorem dX11_strong_25 : decode cX11_strong 25 = .ok (.iload_n 1, 1) := by decide +kernel
theorem dX11_strong_26 : decode cX11_strong 26 = .ok (.iload_n 2, 1) := by decide +kernel
theorem dX11_strong_27 : decode cX11_strong 27 = .ok (.invokevirtual 130, 3) := by decide +kernel
theorem dX11_strong_30 : decode cX11_strong 30 = .ok (.ireturn, 1) := by decide +kernel
theorem dX11_breaksIn_0 : decode cX11_breaksIn 0 = .ok (.aload_n 0, 1) := by decide +kernel
theorem dX11_breaksIn_1 : decode cX11_breaksIn 1 = .ok (.aload_n 0, 1) := by decide +kernel
theorem dX11_breaksIn_2 : decode cX11_breaksIn 2 = .ok (.iload_n 1, 1) := by decide +kernel
theorem dX11_breaksIn_3 : decode cX11_breaksIn 3 = .ok (.invokevirtual 123, 3) := by decide +kernel
theorem dX11_breaksIn_6 : decode cX11_breaksIn 6 = .ok (.invokevirtual 87, 3) := by decide +kernel
theorem dX11_breaksIn_9 : decode cX11_breaksIn 9 = .ok (.ifCond .eq 5, 3) := by decide +kernel
theorem dX11_breaksIn_12 : decode cX11_breaksIn 12 = .ok (.iconst (-1), 1) := by decide +kernel
theorem dX11_breaksIn_13 : decode cX11_breaksIn 13 = .ok (.ireturn, 1) := by decide +kernel
theorem dX11_breaksIn_14 : decode cX11_breaksIn 14 = .ok (.iconst 0, 1) := by decide +kernel
theorem dX11_breaksIn_15 : decode cX11_breaksIn 15 = .ok (.istore_n 2, 1) := by decide +kernel
theorem dX11_breaksIn_16 : decode cX11_breaksIn 16 = .ok (.iload_n 2, 1) := by decide +kernel
theorem dX11_breaksIn_17 : decode cX11_breaksIn 17 = .ok (.bipush 60, 2) := by decide +kernel
theorem dX11_breaksIn_19 : decode cX11_breaksIn 19 = .ok (.if_icmp .gt 23, 3) := by decide +kernel
theorem dX11_breaksIn_22 : decode cX11_breaksIn 22 = .ok (.aload_n 0, 1) := by decide +kernel
theorem dX11_breaksIn_23 : decode cX11_breaksIn 23 = .ok (.getfield 26, 3) := by decide +kernel
theorem dX11_breaksIn_26 : decode cX11_breaksIn 26 = .ok (.iload_n 1, 1) := by decide +kernel
theorem dX11_breaksIn_27 : decode cX11_breaksIn 27 = .ok (.iload_n 2, 1) := by decide +kernel
theorem dX11_breaksIn_28 : decode cX11_breaksIn 28 = .ok (.invokevirtual 130, 3) := by decide +kernel
theorem dX11_breaksIn_31 : decode cX11_breaksIn 31 = .ok (.ifCond .ne 5, 3) := by decide +kernel
theorem dX11_breaksIn_34 : decode cX11_breaksIn 34 = .ok (.iload_n 2, 1) := by decide +kernel
theorem dX11_breaksIn_35 : decode cX11_breaksIn 35 = .ok (.ireturn, 1) := by decide +kernel
theorem dX11_breaksIn_36 : decode cX11_breaksIn 36 = .ok (.iinc 2 1, 3) := by decide +kernel
theorem dX11_breaksIn_39 : decode cX11_breaksIn 39 = .ok (.goto (-23), 3) := by decide +kernel
theorem dX11_breaksIn_42 : decode cX11_breaksIn 42 = .ok (.bipush (-2), 2) := by decide +kernel
theorem dX11_breaksIn_44 : decode cX11_breaksIn 44 = .ok (.ireturn, 1) := by decide +kernel
theorem dX11_holding_0 : decode cX11_holding 0 = .ok (.aload_n 0, 1) := by decide +kernel
theorem dX11_holding_1 : decode cX11_holding 1 = .ok (.aload_n 0, 1) := by decide +kernel
theorem dX11_holding_2 : decode cX11_holding 2 = .ok (.invokevirtual 157, 3) := by decide +kernel
theorem dX11_holding_5 : decode cX11_holding 5 = .ok (.iload_n 1, 1) := by decide +kernel
theorem dX11_holding_6 : decode cX11_holding 6 = .ok (.invokestatic 154, 3) := by decide +kernel
theorem dX11_holding_9 : decode cX11_holding 9 = .ok (.invokestatic 126, 3) := by decide +kernel
theorem dX11_holding_12 : decode cX11_holding 12 = .ok (.invokevirtual 87, 3) := by decide +kernel
theorem dX11_holding_15 : decode cX11_holding 15 = .ok (.ifCond .eq 5, 3) := by decide +kernel
theorem dX11_holding_18 : decode cX11_holding 18 = .ok (.iconst (-1), 1) := by decide +kernel
theorem dX11_holding_19 : decode cX11_holding 19 = .ok (.ireturn, 1) := by decide +kernel
theorem dX11_holding_20 : decode cX11_holding 20 = .ok (.aload_n 0, 1) := by decide +kernel
theorem dX11_holding_21 : decode cX11_holding 21 = .ok (.iload_n 1, 1) := by decide +kernel
theorem dX11_holding_22 : decode cX11_holding 22 = .ok (.invokevirtual 145, 3) := by decide +kernel
theorem dX11_holding_25 : decode cX11_holding 25 = .ok (.aload_n 0, 1) := by decide +kernel
theorem dX11_holding_26 : decode cX11_holding 26 = .ok (.getfield 40, 3) := by decide +kernel
theorem dX11_holding_29 : decode cX11_holding 29 = .ok (.invokevirtual 161, 3) := by decide +kernel
theorem dX11_holding_32 : decode cX11_holding 32 = .ok (.ireturn, 1) := by decide +kernel
theorem dX11_strongest_0 : decode cX11_strongest 0 = .ok (.aload_n 0, 1) := by decide +kernel
theorem dX11_strongest_1 : decode cX11_strongest 1 = .ok (.aload_n 0, 1) := by decide +kernel
theorem dX11_strongest_2 : decode cX11_strongest 2 = .ok (.invokevirtual 157, 3) := by decide +kernel
theorem dX11_strongest_5 : decode cX11_strongest 5 = .ok (.iload_n 1, 1) := by decide +kernel
theorem dX11_strongest_6 : decode cX11_strongest 6 = .ok (.invokestatic 154, 3) := by decide +kernel
theorem dX11_strongest_9 : decode cX11_strongest 9 = .ok (.invokestatic 126, 3) := by decide +kernel
theorem dX11_strongest_12 : decode cX11_strongest 12 = .ok (.invokevirtual 87, 3) := by decide +kernel
theorem dX11_strongest_15 : decode cX11_strongest 15 = .ok (.ifCond .eq 5, 3) := by decide +kernel
theorem dX11_strongest_18 : decode cX11_strongest 18 = .ok (.iconst (-1), 1) := by decide +kernel
theorem dX11_strongest_19 : decode cX11_strongest 19 = .ok (.ireturn, 1) := by decide +kernel
theorem dX11_strongest_20 : decode cX11_strongest 20 = .ok (.bipush (-2), 2) := by decide +kernel
theorem dX11_strongest_22 : decode cX11_strongest 22 = .ok (.istore_n 2, 1) := by decide +kernel
theorem dX11_strongest_23 : decode cX11_strongest 23 = .ok (.iconst 0, 1) := by decide +kernel
theorem dX11_strongest_24 : decode cX11_strongest 24 = .ok (.istore_n 3, 1) := by decide +kernel
theorem dX11_strongest_25 : decode cX11_strongest 25 = .ok (.iconst 0, 1) := by decide +kernel
theorem dX11_strongest_26 : decode cX11_strongest 26 = .ok (.istore 4, 2) := by decide +kernel
theorem dX11_strongest_28 : decode cX11_strongest 28 = .ok (.iload 4, 2) := by decide +kernel
theorem dX11_strongest_30 : decode cX11_strongest 30 = .ok (.aload_n 0, 1) := by decide +kernel
theorem dX11_strongest_31 : decode cX11_strongest 31 = .ok (.getfield 26, 3) := by decide +kernel
theorem dX11_strongest_34 : decode cX11_strongest 34 = .ok (.invokevirtual 164, 3) := by decide +kernel
theorem dX11_strongest_37 : decode cX11_strongest 37 = .ok (.if_icmp .ge 33, 3) := by decide +kernel
theorem dX11_strongest_40 : decode cX11_strongest 40 = .ok (.aload_n 0, 1) := by decide +kernel
theorem dX11_strongest_41 : decode cX11_strongest 41 = .ok (.getfield 26, 3) := by decide +kernel
theorem dX11_strongest_44 : decode cX11_strongest 44 = .ok (.iload 4, 2) := by decide +kernel
theorem dX11_strongest_46 : decode cX11_strongest 46 = .ok (.iload_n 1, 1) := by decide +kernel
theorem dX11_strongest_47 : decode cX11_strongest 47 = .ok (.invokevirtual 130, 3) := by decide +kernel
theorem dX11_strongest_50 : decode cX11_strongest 50 = .ok (.istore 5, 2) := by decide +kernel
theorem dX11_strongest_52 : decode cX11_strongest 52 = .ok (.iload 5, 2) := by decide +kernel
theorem dX11_strongest_54 : decode cX11_strongest 54 = .ok (.iload_n 3, 1) := by decide +kernel
theorem dX11_strongest_55 : decode cX11_strongest 55 = .ok (.if_icmp .le 9, 3) := by decide +kernel
theorem dX11_strongest_58 : decode cX11_strongest 58 = .ok (.iload 5, 2) := by decide +kernel
theorem dX11_strongest_60 : decode cX11_strongest 60 = .ok (.istore_n 3, 1) := by decide +kernel
theorem dX11_strongest_61 : decode cX11_strongest 61 = .ok (.iload 4, 2) := by decide +kernel
theorem dX11_strongest_63 : decode cX11_strongest 63 = .ok (.istore_n 2, 1) := by decide +kernel
theorem dX11_strongest_64 : decode cX11_strongest 64 = .ok (.iinc 4 1, 3) := by decide +kernel
theorem dX11_strongest_67 : decode cX11_strongest 67 = .ok (.goto (-39), 3) := by decide +kernel
theorem dX11_strongest_70 : decode cX11_strongest 70 = .ok (.iload_n 2, 1) := by decide +kernel
theorem dX11_strongest_71 : decode cX11_strongest 71 = .ok (.ireturn, 1) := by decide +kernel
theorem dX11_bears_0 : decode cX11_bears 0 = .ok (.aload_n 0, 1) := by decide +kernel
theorem dX11_bears_1 : decode cX11_bears 1 = .ok (.aload_n 0, 1) := by decide +kernel
theorem dX11_bears_2 : decode cX11_bears 2 = .ok (.iload_n 1, 1) := by decide +kernel
theorem dX11_bears_3 : decode cX11_bears 3 = .ok (.iload_n 2, 1) := by decide +kernel
theorem dX11_bears_4 : decode cX11_bears 4 = .ok (.invokevirtual 167, 3) := by decide +kernel
theorem dX11_bears_7 : decode cX11_bears 7 = .ok (.iload_n 3, 1) := by decide +kernel
theorem dX11_bears_8 : decode cX11_bears 8 = .ok (.invokestatic 154, 3) := by decide +kernel
theorem dX11_bears_11 : decode cX11_bears 11 = .ok (.invokestatic 126, 3) := by decide +kernel
theorem dX11_bears_14 : decode cX11_bears 14 = .ok (.invokevirtual 87, 3) := by decide +kernel
theorem dX11_bears_17 : decode cX11_bears 17 = .ok (.ifCond .eq 5, 3) := by decide +kernel
theorem dX11_bears_20 : decode cX11_bears 20 = .ok (.iconst (-1), 1) := by decide +kernel
theorem dX11_bears_21 : decode cX11_bears 21 = .ok (.ireturn, 1) := by decide +kernel
theorem dX11_bears_22 : decode cX11_bears 22 = .ok (.aload_n 0, 1) := by decide +kernel
theorem dX11_bears_23 : decode cX11_bears 23 = .ok (.iload_n 3, 1) := by decide +kernel
theorem dX11_bears_24 : decode cX11_bears 24 = .ok (.invokevirtual 145, 3) := by decide +kernel
theorem dX11_bears_27 : decode cX11_bears 27 = .ok (.aload_n 0, 1) := by decide +kernel
theorem dX11_bears_28 : decode cX11_bears 28 = .ok (.getfield 40, 3) := by decide +kernel
theorem dX11_bears_31 : decode cX11_bears 31 = .ok (.iload_n 1, 1) := by decide +kernel
theorem dX11_bears_32 : decode cX11_bears 32 = .ok (.iload_n 2, 1) := by decide +kernel
theorem dX11_bears_33 : decode cX11_bears 33 = .ok (.invokevirtual 170, 3) := by decide +kernel
theorem dX11_bears_36 : decode cX11_bears 36 = .ok (.ireturn, 1) := by decide +kernel
theorem dX11_cut_0 : decode cX11_cut 0 = .ok (.aload_n 0, 1) := by decide +kernel
theorem dX11_cut_1 : decode cX11_cut 1 = .ok (.aload_n 0, 1) := by decide +kernel
theorem dX11_cut_2 : decode cX11_cut 2 = .ok (.iload_n 1, 1) := by decide +kernel
theorem dX11_cut_3 : decode cX11_cut 3 = .ok (.iload_n 2, 1) := by decide +kernel
theorem dX11_cut_4 : decode cX11_cut 4 = .ok (.invokevirtual 167, 3) := by decide +kernel
theorem dX11_cut_7 : decode cX11_cut 7 = .ok (.iload_n 3, 1) := by decide +kernel
theorem dX11_cut_8 : decode cX11_cut 8 = .ok (.invokestatic 154, 3) := by decide +kernel
theorem dX11_cut_11 : decode cX11_cut 11 = .ok (.invokestatic 126, 3) := by decide +kernel
theorem dX11_cut_14 : decode cX11_cut 14 = .ok (.invokevirtual 87, 3) := by decide +kernel
theorem dX11_cut_17 : decode cX11_cut 17 = .ok (.ifCond .eq 5, 3) := by decide +kernel
theorem dX11_cut_20 : decode cX11_cut 20 = .ok (.iconst (-1), 1) := by decide +kernel
theorem dX11_cut_21 : decode cX11_cut 21 = .ok (.ireturn, 1) := by decide +kernel
theorem dX11_cut_22 : decode cX11_cut 22 = .ok (.aload_n 0, 1) := by decide +kernel
theorem dX11_cut_23 : decode cX11_cut 23 = .ok (.iload_n 3, 1) := by decide +kernel
theorem dX11_cut_24 : decode cX11_cut 24 = .ok (.invokevirtual 145, 3) := by decide +kernel
theorem dX11_cut_27 : decode cX11_cut 27 = .ok (.aload_n 0, 1) := by decide +kernel
theorem dX11_cut_28 : decode cX11_cut 28 = .ok (.getfield 40, 3) := by decide +kernel
theorem dX11_cut_31 : decode cX11_cut 31 = .ok (.iload_n 1, 1) := by decide +kernel
theorem dX11_cut_32 : decode cX11_cut 32 = .ok (.iload_n 2, 1) := by decide +kernel
theorem dX11_cut_33 : decode cX11_cut 33 = .ok (.invokevirtual 173, 3) := by decide +kernel
theorem dX11_cut_36 : decode cX11_cut 36 = .ok (.aload_n 0, 1) := by decide +kernel
theorem dX11_cut_37 : decode cX11_cut 37 = .ok (.getfield 40, 3) := by decide +kernel
theorem dX11_cut_40 : decode cX11_cut 40 = .ok (.invokevirtual 177, 3) := by decide +kernel
theorem dX11_cut_43 : decode cX11_cut 43 = .ok (.ireturn, 1) := by decide +kernel
theorem dX11_vital_0 : decode cX11_vital 0 = .ok (.aload_n 0, 1) := by decide +kernel
theorem dX11_vital_1 : decode cX11_vital 1 = .ok (.aload_n 0, 1) := by decide +kernel
theorem dX11_vital_2 : decode cX11_vital 2 = .ok (.iload_n 1, 1) := by decide +kernel
theorem dX11_vital_3 : decode cX11_vital 3 = .ok (.iload_n 2, 1) := by decide +kernel
theorem dX11_vital_4 : decode cX11_vital 4 = .ok (.invokevirtual 167, 3) := by decide +kernel
theorem dX11_vital_7 : decode cX11_vital 7 = .ok (.iload_n 3, 1) := by decide +kernel
theorem dX11_vital_8 : decode cX11_vital 8 = .ok (.invokestatic 154, 3) := by decide +kernel
theorem dX11_vital_11 : decode cX11_vital 11 = .ok (.invokestatic 126, 3) := by decide +kernel
theorem dX11_vital_14 : decode cX11_vital 14 = .ok (.invokevirtual 87, 3) := by decide +kernel
theorem dX11_vital_17 : decode cX11_vital 17 = .ok (.ifCond .eq 5, 3) := by decide +kernel
theorem dX11_vital_20 : decode cX11_vital 20 = .ok (.iconst (-1), 1) := by decide +kernel
theorem dX11_vital_21 : decode cX11_vital 21 = .ok (.ireturn, 1) := by decide +kernel
theorem dX11_vital_22 : decode cX11_vital 22 = .ok (.aload_n 0, 1) := by decide +kernel
theorem dX11_vital_23 : decode cX11_vital 23 = .ok (.iload_n 3, 1) := by decide +kernel
theorem dX11_vital_24 : decode cX11_vital 24 = .ok (.invokevirtual 145, 3) := by decide +kernel
theorem dX11_vital_27 : decode cX11_vital 27 = .ok (.aload_n 0, 1) := by decide +kernel
theorem dX11_vital_28 : decode cX11_vital 28 = .ok (.getfield 40, 3) := by decide +kernel
theorem dX11_vital_31 : decode cX11_vital 31 = .ok (.iload_n 1, 1) := by decide +kernel
theorem dX11_vital_32 : decode cX11_vital 32 = .ok (.iload_n 2, 1) := by decide +kernel
theorem dX11_vital_33 : decode cX11_vital 33 = .ok (.invokevirtual 173, 3) := by decide +kernel
theorem dX11_vital_36 : decode cX11_vital 36 = .ok (.aload_n 0, 1) := by decide +kernel
theorem dX11_vital_37 : decode cX11_vital 37 = .ok (.getfield 40, 3) := by decide +kernel
theorem dX11_vital_40 : decode cX11_vital 40 = .ok (.invokevirtual 161, 3) := by decide +kernel
theorem dX11_vital_43 : decode cX11_vital 43 = .ok (.istore 4, 2) := by decide +kernel
theorem dX11_vital_45 : decode cX11_vital 45 = .ok (.bipush (-2), 2) := by decide +kernel
theorem dX11_vital_47 : decode cX11_vital 47 = .ok (.istore 5, 2) := by decide +kernel
theorem dX11_vital_49 : decode cX11_vital 49 = .ok (.iconst 0, 1) := by decide +kernel
theorem dX11_vital_50 : decode cX11_vital 50 = .ok (.istore 6, 2) := by decide +kernel
theorem dX11_vital_52 : decode cX11_vital 52 = .ok (.iconst 0, 1) := by decide +kernel
theorem dX11_vital_53 : decode cX11_vital 53 = .ok (.istore 7, 2) := by decide +kernel
theorem dX11_vital_55 : decode cX11_vital 55 = .ok (.iload 7, 2) := by decide +kernel
theorem dX11_vital_57 : decode cX11_vital 57 = .ok (.aload_n 0, 1) := by decide +kernel
theorem dX11_vital_58 : decode cX11_vital 58 = .ok (.getfield 26, 3) := by decide +kernel
theorem dX11_vital_61 : decode cX11_vital 61 = .ok (.invokevirtual 164, 3) := by decide +kernel
theorem dX11_vital_64 : decode cX11_vital 64 = .ok (.if_icmp .ge 57, 3) := by decide +kernel
theorem dX11_vital_67 : decode cX11_vital 67 = .ok (.iload 4, 2) := by decide +kernel
theorem dX11_vital_69 : decode cX11_vital 69 = .ok (.iload 7, 2) := by decide +kernel
theorem dX11_vital_71 : decode cX11_vital 71 = .ok (.invokestatic 180, 3) := by decide +kernel
theorem dX11_vital_74 : decode cX11_vital 74 = .ok (.ifCond .eq 41, 3) := by decide +kernel
theorem dX11_vital_77 : decode cX11_vital 77 = .ok (.aload_n 0, 1) := by decide +kernel
theorem dX11_vital_78 : decode cX11_vital 78 = .ok (.getfield 40, 3) := by decide +kernel
theorem dX11_vital_81 : decode cX11_vital 81 = .ok (.iload 4, 2) := by decide +kernel
theorem dX11_vital_83 : decode cX11_vital 83 = .ok (.iconst 1, 1) := by decide +kernel
theorem dX11_vital_84 : decode cX11_vital 84 = .ok (.iload 7, 2) := by decide +kernel
theorem dX11_vital_86 : decode cX11_vital 86 = .ok (.ishl, 1) := by decide +kernel
theorem dX11_vital_87 : decode cX11_vital 87 = .ok (.ixor, 1) := by decide +kernel
theorem dX11_vital_88 : decode cX11_vital 88 = .ok (.invokevirtual 184, 3) := by decide +kernel
theorem dX11_vital_91 : decode cX11_vital 91 = .ok (.istore 8, 2) := by decide +kernel
theorem dX11_vital_93 : decode cX11_vital 93 = .ok (.iload 5, 2) := by decide +kernel
theorem dX11_vital_95 : decode cX11_vital 95 = .ok (.bipush (-2), 2) := by decide +kernel
theorem dX11_vital_97 : decode cX11_vital 97 = .ok (.if_icmp .eq 10, 3) := by decide +kernel
theorem dX11_vital_100 : decode cX11_vital 100 = .ok (.iload 8, 2) := by decide +kernel
theorem dX11_vital_102 : decode cX11_vital 102 = .ok (.iload 6, 2) := by decide +kernel
theorem dX11_vital_104 : decode cX11_vital 104 = .ok (.if_icmp .ge 11, 3) := by decide +kernel
theorem dX11_vital_107 : decode cX11_vital 107 = .ok (.iload 8, 2) := by decide +kernel
theorem dX11_vital_109 : decode cX11_vital 109 = .ok (.istore 6, 2) := by decide +kernel
theorem dX11_vital_111 : decode cX11_vital 111 = .ok (.iload 7, 2) := by decide +kernel
theorem dX11_vital_113 : decode cX11_vital 113 = .ok (.istore 5, 2) := by decide +kernel
theorem dX11_vital_115 : decode cX11_vital 115 = .ok (.iinc 7 1, 3) := by decide +kernel
theorem dX11_vital_118 : decode cX11_vital 118 = .ok (.goto (-63), 3) := by decide +kernel
theorem dX11_vital_121 : decode cX11_vital 121 = .ok (.iload 5, 2) := by decide +kernel
theorem dX11_vital_123 : decode cX11_vital 123 = .ok (.ireturn, 1) := by decide +kernel
theorem dX11_needed_0 : decode cX11_needed 0 = .ok (.aload_n 0, 1) := by decide +kernel
theorem dX11_needed_1 : decode cX11_needed 1 = .ok (.aload_n 0, 1) := by decide +kernel
theorem dX11_needed_2 : decode cX11_needed 2 = .ok (.iload_n 1, 1) := by decide +kernel
theorem dX11_needed_3 : decode cX11_needed 3 = .ok (.iload_n 2, 1) := by decide +kernel
theorem dX11_needed_4 : decode cX11_needed 4 = .ok (.invokevirtual 167, 3) := by decide +kernel
theorem dX11_needed_7 : decode cX11_needed 7 = .ok (.iload_n 3, 1) := by decide +kernel
theorem dX11_needed_8 : decode cX11_needed 8 = .ok (.invokestatic 154, 3) := by decide +kernel
theorem dX11_needed_11 : decode cX11_needed 11 = .ok (.invokestatic 126, 3) := by decide +kernel
theorem dX11_needed_14 : decode cX11_needed 14 = .ok (.invokevirtual 87, 3) := by decide +kernel
theorem dX11_needed_17 : decode cX11_needed 17 = .ok (.ifCond .eq 5, 3) := by decide +kernel
theorem dX11_needed_20 : decode cX11_needed 20 = .ok (.iconst (-1), 1) := by decide +kernel
theorem dX11_needed_21 : decode cX11_needed 21 = .ok (.ireturn, 1) := by decide +kernel
theorem dX11_needed_22 : decode cX11_needed 22 = .ok (.aload_n 0, 1) := by decide +kernel
theorem dX11_needed_23 : decode cX11_needed 23 = .ok (.iload_n 3, 1) := by decide +kernel
theorem dX11_needed_24 : decode cX11_needed 24 = .ok (.invokevirtual 145, 3) := by decide +kernel
theorem dX11_needed_27 : decode cX11_needed 27 = .ok (.aload_n 0, 1) := by decide +kernel
theorem dX11_needed_28 : decode cX11_needed 28 = .ok (.getfield 40, 3) := by decide +kernel
theorem dX11_needed_31 : decode cX11_needed 31 = .ok (.iload_n 1, 1) := by decide +kernel
theorem dX11_needed_32 : decode cX11_needed 32 = .ok (.iload_n 2, 1) := by decide +kernel
theorem dX11_needed_33 : decode cX11_needed 33 = .ok (.invokevirtual 173, 3) := by decide +kernel
theorem dX11_needed_36 : decode cX11_needed 36 = .ok (.aload_n 0, 1) := by decide +kernel
theorem dX11_needed_37 : decode cX11_needed 37 = .ok (.getfield 40, 3) := by decide +kernel
theorem dX11_needed_40 : decode cX11_needed 40 = .ok (.invokevirtual 161, 3) := by decide +kernel
theorem dX11_needed_43 : decode cX11_needed 43 = .ok (.istore 4, 2) := by decide +kernel
theorem dX11_needed_45 : decode cX11_needed 45 = .ok (.aload_n 0, 1) := by decide +kernel
theorem dX11_needed_46 : decode cX11_needed 46 = .ok (.getfield 40, 3) := by decide +kernel
theorem dX11_needed_49 : decode cX11_needed 49 = .ok (.iload 4, 2) := by decide +kernel
theorem dX11_needed_51 : decode cX11_needed 51 = .ok (.invokevirtual 184, 3) := by decide +kernel
theorem dX11_needed_54 : decode cX11_needed 54 = .ok (.istore 5, 2) := by decide +kernel
theorem dX11_needed_56 : decode cX11_needed 56 = .ok (.iconst 0, 1) := by decide +kernel
theorem dX11_needed_57 : decode cX11_needed 57 = .ok (.istore 6, 2) := by decide +kernel
theorem dX11_needed_59 : decode cX11_needed 59 = .ok (.iconst 0, 1) := by decide +kernel
theorem dX11_needed_60 : decode cX11_needed 60 = .ok (.istore 7, 2) := by decide +kernel
theorem dX11_needed_62 : decode cX11_needed 62 = .ok (.iload 7, 2) := by decide +kernel
theorem dX11_needed_64 : decode cX11_needed 64 = .ok (.aload_n 0, 1) := by decide +kernel
theorem dX11_needed_65 : decode cX11_needed 65 = .ok (.getfield 26, 3) := by decide +kernel
theorem dX11_needed_68 : decode cX11_needed 68 = .ok (.invokevirtual 164, 3) := by decide +kernel
theorem dX11_needed_71 : decode cX11_needed 71 = .ok (.if_icmp .ge 47, 3) := by decide +kernel
theorem dX11_needed_74 : decode cX11_needed 74 = .ok (.iload 4, 2) := by decide +kernel
theorem dX11_needed_76 : decode cX11_needed 76 = .ok (.iload 7, 2) := by decide +kernel
theorem dX11_needed_78 : decode cX11_needed 78 = .ok (.invokestatic 180, 3) := by decide +kernel
theorem dX11_needed_81 : decode cX11_needed 81 = .ok (.ifCond .eq 31, 3) := by decide +kernel
theorem dX11_needed_84 : decode cX11_needed 84 = .ok (.aload_n 0, 1) := by decide +kernel
theorem dX11_needed_85 : decode cX11_needed 85 = .ok (.getfield 40, 3) := by decide +kernel
theorem dX11_needed_88 : decode cX11_needed 88 = .ok (.iload 4, 2) := by decide +kernel
theorem dX11_needed_90 : decode cX11_needed 90 = .ok (.iconst 1, 1) := by decide +kernel
theorem dX11_needed_91 : decode cX11_needed 91 = .ok (.iload 7, 2) := by decide +kernel
theorem dX11_needed_93 : decode cX11_needed 93 = .ok (.ishl, 1) := by decide +kernel
theorem dX11_needed_94 : decode cX11_needed 94 = .ok (.ixor, 1) := by decide +kernel
theorem dX11_needed_95 : decode cX11_needed 95 = .ok (.invokevirtual 184, 3) := by decide +kernel
theorem dX11_needed_98 : decode cX11_needed 98 = .ok (.iload 5, 2) := by decide +kernel
theorem dX11_needed_100 : decode cX11_needed 100 = .ok (.if_icmp .ge 12, 3) := by decide +kernel
theorem dX11_needed_103 : decode cX11_needed 103 = .ok (.iload 6, 2) := by decide +kernel
theorem dX11_needed_105 : decode cX11_needed 105 = .ok (.iconst 1, 1) := by decide +kernel
theorem dX11_needed_106 : decode cX11_needed 106 = .ok (.iload 7, 2) := by decide +kernel
theorem dX11_needed_108 : decode cX11_needed 108 = .ok (.ishl, 1) := by decide +kernel
theorem dX11_needed_109 : decode cX11_needed 109 = .ok (.ior, 1) := by decide +kernel
theorem dX11_needed_110 : decode cX11_needed 110 = .ok (.istore 6, 2) := by decide +kernel
theorem dX11_needed_112 : decode cX11_needed 112 = .ok (.iinc 7 1, 3) := by decide +kernel
theorem dX11_needed_115 : decode cX11_needed 115 = .ok (.goto (-53), 3) := by decide +kernel
theorem dX11_needed_118 : decode cX11_needed 118 = .ok (.iload 6, 2) := by decide +kernel
theorem dX11_needed_120 : decode cX11_needed 120 = .ok (.ireturn, 1) := by decide +kernel
theorem dX11_weakest_0 : decode cX11_weakest 0 = .ok (.aload_n 0, 1) := by decide +kernel
theorem dX11_weakest_1 : decode cX11_weakest 1 = .ok (.aload_n 0, 1) := by decide +kernel
theorem dX11_weakest_2 : decode cX11_weakest 2 = .ok (.invokevirtual 157, 3) := by decide +kernel
theorem dX11_weakest_5 : decode cX11_weakest 5 = .ok (.iload_n 1, 1) := by decide +kernel
theorem dX11_weakest_6 : decode cX11_weakest 6 = .ok (.invokestatic 154, 3) := by decide +kernel
theorem dX11_weakest_9 : decode cX11_weakest 9 = .ok (.invokestatic 126, 3) := by decide +kernel
theorem dX11_weakest_12 : decode cX11_weakest 12 = .ok (.invokevirtual 87, 3) := by decide +kernel
theorem dX11_weakest_15 : decode cX11_weakest 15 = .ok (.ifCond .eq 5, 3) := by decide +kernel
theorem dX11_weakest_18 : decode cX11_weakest 18 = .ok (.iconst (-1), 1) := by decide +kernel
theorem dX11_weakest_19 : decode cX11_weakest 19 = .ok (.ireturn, 1) := by decide +kernel
theorem dX11_weakest_20 : decode cX11_weakest 20 = .ok (.aload_n 0, 1) := by decide +kernel
theorem dX11_weakest_21 : decode cX11_weakest 21 = .ok (.iload_n 1, 1) := by decide +kernel
theorem dX11_weakest_22 : decode cX11_weakest 22 = .ok (.invokevirtual 145, 3) := by decide +kernel
theorem dX11_weakest_25 : decode cX11_weakest 25 = .ok (.aload_n 0, 1) := by decide +kernel
theorem dX11_weakest_26 : decode cX11_weakest 26 = .ok (.getfield 19, 3) := by decide +kernel
theorem dX11_weakest_29 : decode cX11_weakest 29 = .ok (.iconst 1, 1) := by decide +kernel
theorem dX11_weakest_30 : decode cX11_weakest 30 = .ok (.invokevirtual 113, 3) := by decide +kernel
theorem dX11_weakest_33 : decode cX11_weakest 33 = .ok (.istore_n 2, 1) := by decide +kernel
theorem dX11_weakest_34 : decode cX11_weakest 34 = .ok (.bipush (-2), 2) := by decide +kernel
theorem dX11_weakest_36 : decode cX11_weakest 36 = .ok (.istore_n 3, 1) := by decide +kernel
theorem dX11_weakest_37 : decode cX11_weakest 37 = .ok (.iconst 0, 1) := by decide +kernel
theorem dX11_weakest_38 : decode cX11_weakest 38 = .ok (.istore 4, 2) := by decide +kernel
theorem dX11_weakest_40 : decode cX11_weakest 40 = .ok (.iconst 0, 1) := by decide +kernel
theorem dX11_weakest_41 : decode cX11_weakest 41 = .ok (.istore 5, 2) := by decide +kernel
theorem dX11_weakest_43 : decode cX11_weakest 43 = .ok (.iload 5, 2) := by decide +kernel
theorem dX11_weakest_45 : decode cX11_weakest 45 = .ok (.iload_n 2, 1) := by decide +kernel
theorem dX11_weakest_46 : decode cX11_weakest 46 = .ok (.if_icmp .ge 66, 3) := by decide +kernel
theorem dX11_weakest_49 : decode cX11_weakest 49 = .ok (.iload 5, 2) := by decide +kernel
theorem dX11_weakest_51 : decode cX11_weakest 51 = .ok (.iconst 1, 1) := by decide +kernel
theorem dX11_weakest_52 : decode cX11_weakest 52 = .ok (.iadd, 1) := by decide +kernel
theorem dX11_weakest_53 : decode cX11_weakest 53 = .ok (.istore 6, 2) := by decide +kernel
theorem dX11_weakest_55 : decode cX11_weakest 55 = .ok (.iload 6, 2) := by decide +kernel
theorem dX11_weakest_57 : decode cX11_weakest 57 = .ok (.iload_n 2, 1) := by decide +kernel
theorem dX11_weakest_58 : decode cX11_weakest 58 = .ok (.if_icmp .ge 48, 3) := by decide +kernel
theorem dX11_weakest_61 : decode cX11_weakest 61 = .ok (.aload_n 0, 1) := by decide +kernel
theorem dX11_weakest_62 : decode cX11_weakest 62 = .ok (.getfield 40, 3) := by decide +kernel
theorem dX11_weakest_65 : decode cX11_weakest 65 = .ok (.iload 5, 2) := by decide +kernel
theorem dX11_weakest_67 : decode cX11_weakest 67 = .ok (.iload 6, 2) := by decide +kernel
theorem dX11_weakest_69 : decode cX11_weakest 69 = .ok (.invokevirtual 170, 3) := by decide +kernel
theorem dX11_weakest_72 : decode cX11_weakest 72 = .ok (.istore 7, 2) := by decide +kernel
theorem dX11_weakest_74 : decode cX11_weakest 74 = .ok (.iload_n 3, 1) := by decide +kernel
theorem dX11_weakest_75 : decode cX11_weakest 75 = .ok (.bipush (-2), 2) := by decide +kernel
theorem dX11_weakest_77 : decode cX11_weakest 77 = .ok (.if_icmp .eq 10, 3) := by decide +kernel
theorem dX11_weakest_80 : decode cX11_weakest 80 = .ok (.iload 7, 2) := by decide +kernel
theorem dX11_weakest_82 : decode cX11_weakest 82 = .ok (.iload 4, 2) := by decide +kernel
theorem dX11_weakest_84 : decode cX11_weakest 84 = .ok (.if_icmp .ge 16, 3) := by decide +kernel
theorem dX11_weakest_87 : decode cX11_weakest 87 = .ok (.iload 7, 2) := by decide +kernel
theorem dX11_weakest_89 : decode cX11_weakest 89 = .ok (.istore 4, 2) := by decide +kernel
theorem dX11_weakest_91 : decode cX11_weakest 91 = .ok (.bipush 10, 2) := by decide +kernel
theorem dX11_weakest_93 : decode cX11_weakest 93 = .ok (.iload 5, 2) := by decide +kernel
theorem dX11_weakest_95 : decode cX11_weakest 95 = .ok (.imul, 1) := by decide +kernel
theorem dX11_weakest_96 : decode cX11_weakest 96 = .ok (.iload 6, 2) := by decide +kernel
theorem dX11_weakest_98 : decode cX11_weakest 98 = .ok (.iadd, 1) := by decide +kernel
theorem dX11_weakest_99 : decode cX11_weakest 99 = .ok (.istore_n 3, 1) := by decide +kernel
theorem dX11_weakest_100 : decode cX11_weakest 100 = .ok (.iinc 6 1, 3) := by decide +kernel
theorem dX11_weakest_103 : decode cX11_weakest 103 = .ok (.goto (-48), 3) := by decide +kernel
theorem dX11_weakest_106 : decode cX11_weakest 106 = .ok (.iinc 5 1, 3) := by decide +kernel
theorem dX11_weakest_109 : decode cX11_weakest 109 = .ok (.goto (-66), 3) := by decide +kernel
theorem dX11_weakest_112 : decode cX11_weakest 112 = .ok (.iload_n 3, 1) := by decide +kernel
theorem dX11_weakest_113 : decode cX11_weakest 113 = .ok (.ireturn, 1) := by decide +kernel
theorem dX11_apart_0 : decode cX11_apart 0 = .ok (.aload_n 0, 1) := by decide +kernel
theorem dX11_apart_1 : decode cX11_apart 1 = .ok (.aload_n 0, 1) := by decide +kernel
theorem dX11_apart_2 : decode cX11_apart 2 = .ok (.iload_n 1, 1) := by decide +kernel
theorem dX11_apart_3 : decode cX11_apart 3 = .ok (.invokevirtual 142, 3) := by decide +kernel
theorem dX11_apart_6 : decode cX11_apart 6 = .ok (.aload_n 0, 1) := by decide +kernel
theorem dX11_apart_7 : decode cX11_apart 7 = .ok (.iload_n 2, 1) := by decide +kernel
theorem dX11_apart_8 : decode cX11_apart 8 = .ok (.invokevirtual 142, 3) := by decide +kernel
theorem dX11_apart_11 : decode cX11_apart 11 = .ok (.invokestatic 126, 3) := by decide +kernel
theorem dX11_apart_14 : decode cX11_apart 14 = .ok (.iload_n 3, 1) := by decide +kernel
theorem dX11_apart_15 : decode cX11_apart 15 = .ok (.invokestatic 154, 3) := by decide +kernel
theorem dX11_apart_18 : decode cX11_apart 18 = .ok (.invokestatic 126, 3) := by decide +kernel
theorem dX11_apart_21 : decode cX11_apart 21 = .ok (.invokevirtual 87, 3) := by decide +kernel
theorem dX11_apart_24 : decode cX11_apart 24 = .ok (.ifCond .eq 5, 3) := by decide +kernel
theorem dX11_apart_27 : decode cX11_apart 27 = .ok (.iconst (-1), 1) := by decide +kernel
theorem dX11_apart_28 : decode cX11_apart 28 = .ok (.ireturn, 1) := by decide +kernel
theorem dX11_apart_29 : decode cX11_apart 29 = .ok (.aload_n 0, 1) := by decide +kernel
theorem dX11_apart_30 : decode cX11_apart 30 = .ok (.iload_n 3, 1) := by decide +kernel
theorem dX11_apart_31 : decode cX11_apart 31 = .ok (.invokevirtual 145, 3) := by decide +kernel
theorem dX11_apart_34 : decode cX11_apart 34 = .ok (.aload_n 0, 1) := by decide +kernel
theorem dX11_apart_35 : decode cX11_apart 35 = .ok (.getfield 40, 3) := by decide +kernel
theorem dX11_apart_38 : decode cX11_apart 38 = .ok (.iload_n 1, 1) := by decide +kernel
theorem dX11_apart_39 : decode cX11_apart 39 = .ok (.iload_n 2, 1) := by decide +kernel
theorem dX11_apart_40 : decode cX11_apart 40 = .ok (.invokevirtual 187, 3) := by decide +kernel
theorem dX11_apart_43 : decode cX11_apart 43 = .ok (.ireturn, 1) := by decide +kernel
theorem dX11_parts_0 : decode cX11_parts 0 = .ok (.aload_n 0, 1) := by decide +kernel
theorem dX11_parts_1 : decode cX11_parts 1 = .ok (.aload_n 0, 1) := by decide +kernel
theorem dX11_parts_2 : decode cX11_parts 2 = .ok (.invokevirtual 157, 3) := by decide +kernel
theorem dX11_parts_5 : decode cX11_parts 5 = .ok (.iload_n 1, 1) := by decide +kernel
theorem dX11_parts_6 : decode cX11_parts 6 = .ok (.invokestatic 154, 3) := by decide +kernel
theorem dX11_parts_9 : decode cX11_parts 9 = .ok (.invokestatic 126, 3) := by decide +kernel
theorem dX11_parts_12 : decode cX11_parts 12 = .ok (.invokevirtual 87, 3) := by decide +kernel
theorem dX11_parts_15 : decode cX11_parts 15 = .ok (.ifCond .eq 5, 3) := by decide +kernel
theorem dX11_parts_18 : decode cX11_parts 18 = .ok (.iconst (-1), 1) := by decide +kernel
theorem dX11_parts_19 : decode cX11_parts 19 = .ok (.ireturn, 1) := by decide +kernel
theorem dX11_parts_20 : decode cX11_parts 20 = .ok (.aload_n 0, 1) := by decide +kernel
theorem dX11_parts_21 : decode cX11_parts 21 = .ok (.iload_n 1, 1) := by decide +kernel
theorem dX11_parts_22 : decode cX11_parts 22 = .ok (.invokevirtual 145, 3) := by decide +kernel
theorem dX11_parts_25 : decode cX11_parts 25 = .ok (.aload_n 0, 1) := by decide +kernel
theorem dX11_parts_26 : decode cX11_parts 26 = .ok (.getfield 40, 3) := by decide +kernel
theorem dX11_parts_29 : decode cX11_parts 29 = .ok (.aload_n 0, 1) := by decide +kernel
theorem dX11_parts_30 : decode cX11_parts 30 = .ok (.getfield 40, 3) := by decide +kernel
theorem dX11_parts_33 : decode cX11_parts 33 = .ok (.invokevirtual 161, 3) := by decide +kernel
theorem dX11_parts_36 : decode cX11_parts 36 = .ok (.invokevirtual 190, 3) := by decide +kernel
theorem dX11_parts_39 : decode cX11_parts 39 = .ok (.ireturn, 1) := by decide +kernel
theorem dX11_bridges_0 : decode cX11_bridges 0 = .ok (.aload_n 0, 1) := by decide +kernel
theorem dX11_bridges_1 : decode cX11_bridges 1 = .ok (.aload_n 0, 1) := by decide +kernel
theorem dX11_bridges_2 : decode cX11_bridges 2 = .ok (.invokevirtual 157, 3) := by decide +kernel
theorem dX11_bridges_5 : decode cX11_bridges 5 = .ok (.iload_n 1, 1) := by decide +kernel
theorem dX11_bridges_6 : decode cX11_bridges 6 = .ok (.invokestatic 154, 3) := by decide +kernel
theorem dX11_bridges_9 : decode cX11_bridges 9 = .ok (.invokestatic 126, 3) := by decide +kernel
theorem dX11_bridges_12 : decode cX11_bridges 12 = .ok (.invokevirtual 87, 3) := by decide +kernel
theorem dX11_bridges_15 : decode cX11_bridges 15 = .ok (.ifCond .eq 5, 3) := by decide +kernel
theorem dX11_bridges_18 : decode cX11_bridges 18 = .ok (.iconst (-1), 1) := by decide +kernel
theorem dX11_bridges_19 : decode cX11_bridges 19 = .ok (.ireturn, 1) := by decide +kernel
theorem dX11_bridges_20 : decode cX11_bridges 20 = .ok (.aload_n 0, 1) := by decide +kernel
theorem dX11_bridges_21 : decode cX11_bridges 21 = .ok (.iload_n 1, 1) := by decide +kernel
theorem dX11_bridges_22 : decode cX11_bridges 22 = .ok (.invokevirtual 145, 3) := by decide +kernel
theorem dX11_bridges_25 : decode cX11_bridges 25 = .ok (.aload_n 0, 1) := by decide +kernel
theorem dX11_bridges_26 : decode cX11_bridges 26 = .ok (.getfield 40, 3) := by decide +kernel
theorem dX11_bridges_29 : decode cX11_bridges 29 = .ok (.invokevirtual 161, 3) := by decide +kernel
theorem dX11_bridges_32 : decode cX11_bridges 32 = .ok (.istore_n 2, 1) := by decide +kernel
theorem dX11_bridges_33 : decode cX11_bridges 33 = .ok (.aload_n 0, 1) := by decide +kernel
theorem dX11_bridges_34 : decode cX11_bridges 34 = .ok (.getfield 40, 3) := by decide +kernel
theorem dX11_bridges_37 : decode cX11_bridges 37 = .ok (.iload_n 2, 1) := by decide +kernel
theorem dX11_bridges_38 : decode cX11_bridges 38 = .ok (.invokevirtual 190, 3) := by decide +kernel
theorem dX11_bridges_41 : decode cX11_bridges 41 = .ok (.istore_n 3, 1) := by decide +kernel
theorem dX11_bridges_42 : decode cX11_bridges 42 = .ok (.iconst 0, 1) := by decide +kernel
theorem dX11_bridges_43 : decode cX11_bridges 43 = .ok (.istore 4, 2) := by decide +kernel
theorem dX11_bridges_45 : decode cX11_bridges 45 = .ok (.iconst 0, 1) := by decide +kernel
theorem dX11_bridges_46 : decode cX11_bridges 46 = .ok (.istore 5, 2) := by decide +kernel
theorem dX11_bridges_48 : decode cX11_bridges 48 = .ok (.iload 5, 2) := by decide +kernel
theorem dX11_bridges_50 : decode cX11_bridges 50 = .ok (.aload_n 0, 1) := by decide +kernel
theorem dX11_bridges_51 : decode cX11_bridges 51 = .ok (.getfield 26, 3) := by decide +kernel
theorem dX11_bridges_54 : decode cX11_bridges 54 = .ok (.invokevirtual 164, 3) := by decide +kernel
theorem dX11_bridges_57 : decode cX11_bridges 57 = .ok (.if_icmp .ge 44, 3) := by decide +kernel
theorem dX11_bridges_60 : decode cX11_bridges 60 = .ok (.iload_n 2, 1) := by decide +kernel
theorem dX11_bridges_61 : decode cX11_bridges 61 = .ok (.iload 5, 2) := by decide +kernel
theorem dX11_bridges_63 : decode cX11_bridges 63 = .ok (.invokestatic 180, 3) := by decide +kernel
theorem dX11_bridges_66 : decode cX11_bridges 66 = .ok (.ifCond .eq 29, 3) := by decide +kernel
theorem dX11_bridges_69 : decode cX11_bridges 69 = .ok (.aload_n 0, 1) := by decide +kernel
theorem dX11_bridges_70 : decode cX11_bridges 70 = .ok (.getfield 40, 3) := by decide +kernel
theorem dX11_bridges_73 : decode cX11_bridges 73 = .ok (.iload_n 2, 1) := by decide +kernel
theorem dX11_bridges_74 : decode cX11_bridges 74 = .ok (.iconst 1, 1) := by decide +kernel
theorem dX11_bridges_75 : decode cX11_bridges 75 = .ok (.iload 5, 2) := by decide +kernel
theorem dX11_bridges_77 : decode cX11_bridges 77 = .ok (.ishl, 1) := by decide +kernel
theorem dX11_bridges_78 : decode cX11_bridges 78 = .ok (.ixor, 1) := by decide +kernel
theorem dX11_bridges_79 : decode cX11_bridges 79 = .ok (.invokevirtual 190, 3) := by decide +kernel
theorem dX11_bridges_82 : decode cX11_bridges 82 = .ok (.iload_n 3, 1) := by decide +kernel
theorem dX11_bridges_83 : decode cX11_bridges 83 = .ok (.if_icmp .le 12, 3) := by decide +kernel
theorem dX11_bridges_86 : decode cX11_bridges 86 = .ok (.iload 4, 2) := by decide +kernel
theorem dX11_bridges_88 : decode cX11_bridges 88 = .ok (.iconst 1, 1) := by decide +kernel
theorem dX11_bridges_89 : decode cX11_bridges 89 = .ok (.iload 5, 2) := by decide +kernel
theorem dX11_bridges_91 : decode cX11_bridges 91 = .ok (.ishl, 1) := by decide +kernel
theorem dX11_bridges_92 : decode cX11_bridges 92 = .ok (.ior, 1) := by decide +kernel
theorem dX11_bridges_93 : decode cX11_bridges 93 = .ok (.istore 4, 2) := by decide +kernel
theorem dX11_bridges_95 : decode cX11_bridges 95 = .ok (.iinc 5 1, 3) := by decide +kernel
theorem dX11_bridges_98 : decode cX11_bridges 98 = .ok (.goto (-50), 3) := by decide +kernel
theorem dX11_bridges_101 : decode cX11_bridges 101 = .ok (.iload 4, 2) := by decide +kernel
theorem dX11_bridges_103 : decode cX11_bridges 103 = .ok (.ireturn, 1) := by decide +kernel
theorem dX11_borne_0 : decode cX11_borne 0 = .ok (.aload_n 0, 1) := by decide +kernel
theorem dX11_borne_1 : decode cX11_borne 1 = .ok (.aload_n 0, 1) := by decide +kernel
theorem dX11_borne_2 : decode cX11_borne 2 = .ok (.invokevirtual 157, 3) := by decide +kernel
theorem dX11_borne_5 : decode cX11_borne 5 = .ok (.iload_n 1, 1) := by decide +kernel
theorem dX11_borne_6 : decode cX11_borne 6 = .ok (.invokestatic 154, 3) := by decide +kernel
theorem dX11_borne_9 : decode cX11_borne 9 = .ok (.invokestatic 126, 3) := by decide +kernel
theorem dX11_borne_12 : decode cX11_borne 12 = .ok (.invokevirtual 87, 3) := by decide +kernel
theorem dX11_borne_15 : decode cX11_borne 15 = .ok (.ifCond .eq 5, 3) := by decide +kernel
theorem dX11_borne_18 : decode cX11_borne 18 = .ok (.iconst (-1), 1) := by decide +kernel
theorem dX11_borne_19 : decode cX11_borne 19 = .ok (.ireturn, 1) := by decide +kernel
theorem dX11_borne_20 : decode cX11_borne 20 = .ok (.aload_n 0, 1) := by decide +kernel
theorem dX11_borne_21 : decode cX11_borne 21 = .ok (.iload_n 1, 1) := by decide +kernel
theorem dX11_borne_22 : decode cX11_borne 22 = .ok (.invokevirtual 145, 3) := by decide +kernel
theorem dX11_borne_25 : decode cX11_borne 25 = .ok (.aload_n 0, 1) := by decide +kernel
theorem dX11_borne_26 : decode cX11_borne 26 = .ok (.aload_n 0, 1) := by decide +kernel
theorem dX11_borne_27 : decode cX11_borne 27 = .ok (.getfield 40, 3) := by decide +kernel
theorem dX11_borne_30 : decode cX11_borne 30 = .ok (.invokevirtual 161, 3) := by decide +kernel
theorem dX11_borne_33 : decode cX11_borne 33 = .ok (.invokevirtual 193, 3) := by decide +kernel
theorem dX11_borne_36 : decode cX11_borne 36 = .ok (.ireturn, 1) := by decide +kernel
theorem dX11_fallsIn_0 : decode cX11_fallsIn 0 = .ok (.aload_n 0, 1) := by decide +kernel
theorem dX11_fallsIn_1 : decode cX11_fallsIn 1 = .ok (.aload_n 0, 1) := by decide +kernel
theorem dX11_fallsIn_2 : decode cX11_fallsIn 2 = .ok (.iload_n 1, 1) := by decide +kernel
theorem dX11_fallsIn_3 : decode cX11_fallsIn 3 = .ok (.invokevirtual 196, 3) := by decide +kernel
theorem dX11_fallsIn_6 : decode cX11_fallsIn 6 = .ok (.invokevirtual 87, 3) := by decide +kernel
theorem dX11_fallsIn_9 : decode cX11_fallsIn 9 = .ok (.ifCond .eq 5, 3) := by decide +kernel
theorem dX11_fallsIn_12 : decode cX11_fallsIn 12 = .ok (.iconst (-1), 1) := by decide +kernel
theorem dX11_fallsIn_13 : decode cX11_fallsIn 13 = .ok (.ireturn, 1) := by decide +kernel
theorem dX11_fallsIn_14 : decode cX11_fallsIn 14 = .ok (.aload_n 0, 1) := by decide +kernel
theorem dX11_fallsIn_15 : decode cX11_fallsIn 15 = .ok (.iconst 0, 1) := by decide +kernel
theorem dX11_fallsIn_16 : decode cX11_fallsIn 16 = .ok (.invokevirtual 145, 3) := by decide +kernel
theorem dX11_fallsIn_19 : decode cX11_fallsIn 19 = .ok (.aload_n 0, 1) := by decide +kernel
theorem dX11_fallsIn_20 : decode cX11_fallsIn 20 = .ok (.iload_n 1, 1) := by decide +kernel
theorem dX11_fallsIn_21 : decode cX11_fallsIn 21 = .ok (.invokevirtual 199, 3) := by decide +kernel
theorem dX11_fallsIn_24 : decode cX11_fallsIn 24 = .ok (.iconst 0, 1) := by decide +kernel
theorem dX11_fallsIn_25 : decode cX11_fallsIn 25 = .ok (.istore_n 2, 1) := by decide +kernel
theorem dX11_fallsIn_26 : decode cX11_fallsIn 26 = .ok (.iload_n 2, 1) := by decide +kernel
theorem dX11_fallsIn_27 : decode cX11_fallsIn 27 = .ok (.bipush 60, 2) := by decide +kernel
theorem dX11_fallsIn_29 : decode cX11_fallsIn 29 = .ok (.if_icmp .gt 50, 3) := by decide +kernel
theorem dX11_fallsIn_32 : decode cX11_fallsIn 32 = .ok (.aload_n 0, 1) := by decide +kernel
theorem dX11_fallsIn_33 : decode cX11_fallsIn 33 = .ok (.getfield 40, 3) := by decide +kernel
theorem dX11_fallsIn_36 : decode cX11_fallsIn 36 = .ok (.aload_n 0, 1) := by decide +kernel
theorem dX11_fallsIn_37 : decode cX11_fallsIn 37 = .ok (.getfield 26, 3) := by decide +kernel
theorem dX11_fallsIn_40 : decode cX11_fallsIn 40 = .ok (.iload_n 2, 1) := by decide +kernel
theorem dX11_fallsIn_41 : decode cX11_fallsIn 41 = .ok (.invokevirtual 202, 3) := by decide +kernel
theorem dX11_fallsIn_44 : decode cX11_fallsIn 44 = .ok (.aload_n 0, 1) := by decide +kernel
theorem dX11_fallsIn_45 : decode cX11_fallsIn 45 = .ok (.getfield 40, 3) := by decide +kernel
theorem dX11_fallsIn_48 : decode cX11_fallsIn 48 = .ok (.aload_n 0, 1) := by decide +kernel
theorem dX11_fallsIn_49 : decode cX11_fallsIn 49 = .ok (.getfield 40, 3) := by decide +kernel
theorem dX11_fallsIn_52 : decode cX11_fallsIn 52 = .ok (.invokevirtual 161, 3) := by decide +kernel
theorem dX11_fallsIn_55 : decode cX11_fallsIn 55 = .ok (.invokevirtual 184, 3) := by decide +kernel
theorem dX11_fallsIn_58 : decode cX11_fallsIn 58 = .ok (.aload_n 0, 1) := by decide +kernel
theorem dX11_fallsIn_59 : decode cX11_fallsIn 59 = .ok (.getfield 19, 3) := by decide +kernel
theorem dX11_fallsIn_62 : decode cX11_fallsIn 62 = .ok (.iconst 4, 1) := by decide +kernel
theorem dX11_fallsIn_63 : decode cX11_fallsIn 63 = .ok (.iload_n 1, 1) := by decide +kernel
theorem dX11_fallsIn_64 : decode cX11_fallsIn 64 = .ok (.iconst 2, 1) := by decide +kernel
theorem dX11_fallsIn_65 : decode cX11_fallsIn 65 = .ok (.invokevirtual 206, 3) := by decide +kernel
theorem dX11_fallsIn_68 : decode cX11_fallsIn 68 = .ok (.if_icmp .ge 5, 3) := by decide +kernel
theorem dX11_fallsIn_71 : decode cX11_fallsIn 71 = .ok (.iload_n 2, 1) := by decide +kernel
theorem dX11_fallsIn_72 : decode cX11_fallsIn 72 = .ok (.ireturn, 1) := by decide +kernel
theorem dX11_fallsIn_73 : decode cX11_fallsIn 73 = .ok (.iinc 2 1, 3) := by decide +kernel
theorem dX11_fallsIn_76 : decode cX11_fallsIn 76 = .ok (.goto (-50), 3) := by decide +kernel
theorem dX11_fallsIn_79 : decode cX11_fallsIn 79 = .ok (.bipush (-2), 2) := by decide +kernel
theorem dX11_fallsIn_81 : decode cX11_fallsIn 81 = .ok (.ireturn, 1) := by decide +kernel
theorem dX11_spare_0 : decode cX11_spare 0 = .ok (.aload_n 0, 1) := by decide +kernel
theorem dX11_spare_1 : decode cX11_spare 1 = .ok (.aload_n 0, 1) := by decide +kernel
theorem dX11_spare_2 : decode cX11_spare 2 = .ok (.iload_n 1, 1) := by decide +kernel
theorem dX11_spare_3 : decode cX11_spare 3 = .ok (.invokevirtual 196, 3) := by decide +kernel
theorem dX11_spare_6 : decode cX11_spare 6 = .ok (.invokevirtual 87, 3) := by decide +kernel
theorem dX11_spare_9 : decode cX11_spare 9 = .ok (.ifCond .eq 7, 3) := by decide +kernel
theorem dX11_spare_12 : decode cX11_spare 12 = .ok (.sipush (-1000), 3) := by decide +kernel
theorem dX11_spare_15 : decode cX11_spare 15 = .ok (.ireturn, 1) := by decide +kernel
theorem dX11_spare_16 : decode cX11_spare 16 = .ok (.aload_n 0, 1) := by decide +kernel
theorem dX11_spare_17 : decode cX11_spare 17 = .ok (.iconst 0, 1) := by decide +kernel
theorem dX11_spare_18 : decode cX11_spare 18 = .ok (.invokevirtual 145, 3) := by decide +kernel
theorem dX11_spare_21 : decode cX11_spare 21 = .ok (.aload_n 0, 1) := by decide +kernel
theorem dX11_spare_22 : decode cX11_spare 22 = .ok (.iload_n 1, 1) := by decide +kernel
theorem dX11_spare_23 : decode cX11_spare 23 = .ok (.invokevirtual 199, 3) := by decide +kernel
theorem dX11_spare_26 : decode cX11_spare 26 = .ok (.aload_n 0, 1) := by decide +kernel
theorem dX11_spare_27 : decode cX11_spare 27 = .ok (.getfield 40, 3) := by decide +kernel
theorem dX11_spare_30 : decode cX11_spare 30 = .ok (.aload_n 0, 1) := by decide +kernel
theorem dX11_spare_31 : decode cX11_spare 31 = .ok (.getfield 40, 3) := by decide +kernel
theorem dX11_spare_34 : decode cX11_spare 34 = .ok (.invokevirtual 161, 3) := by decide +kernel
theorem dX11_spare_37 : decode cX11_spare 37 = .ok (.invokevirtual 184, 3) := by decide +kernel
theorem dX11_spare_40 : decode cX11_spare 40 = .ok (.aload_n 0, 1) := by decide +kernel
theorem dX11_spare_41 : decode cX11_spare 41 = .ok (.getfield 19, 3) := by decide +kernel
theorem dX11_spare_44 : decode cX11_spare 44 = .ok (.iconst 4, 1) := by decide +kernel
theorem dX11_spare_45 : decode cX11_spare 45 = .ok (.iload_n 1, 1) := by decide +kernel
theorem dX11_spare_46 : decode cX11_spare 46 = .ok (.iconst 2, 1) := by decide +kernel
theorem dX11_spare_47 : decode cX11_spare 47 = .ok (.invokevirtual 206, 3) := by decide +kernel
theorem dX11_spare_50 : decode cX11_spare 50 = .ok (.isub, 1) := by decide +kernel
theorem dX11_spare_51 : decode cX11_spare 51 = .ok (.ireturn, 1) := by decide +kernel
theorem dX11_mend_0 : decode cX11_mend 0 = .ok (.aload_n 0, 1) := by decide +kernel
theorem dX11_mend_1 : decode cX11_mend 1 = .ok (.aload_n 0, 1) := by decide +kernel
theorem dX11_mend_2 : decode cX11_mend 2 = .ok (.invokevirtual 157, 3) := by decide +kernel
theorem dX11_mend_5 : decode cX11_mend 5 = .ok (.invokevirtual 87, 3) := by decide +kernel
theorem dX11_mend_8 : decode cX11_mend 8 = .ok (.ifCond .eq 5, 3) := by decide +kernel
theorem dX11_mend_11 : decode cX11_mend 11 = .ok (.iconst (-1), 1) := by decide +kernel
theorem dX11_mend_12 : decode cX11_mend 12 = .ok (.ireturn, 1) := by decide +kernel
theorem dX11_mend_13 : decode cX11_mend 13 = .ok (.aload_n 0, 1) := by decide +kernel
theorem dX11_mend_14 : decode cX11_mend 14 = .ok (.invokevirtual 208, 3) := by decide +kernel
theorem dX11_mend_17 : decode cX11_mend 17 = .ok (.ireturn, 1) := by decide +kernel
theorem dX11_mendCost_0 : decode cX11_mendCost 0 = .ok (.aload_n 0, 1) := by decide +kernel
theorem dX11_mendCost_1 : decode cX11_mendCost 1 = .ok (.aload_n 0, 1) := by decide +kernel
theorem dX11_mendCost_2 : decode cX11_mendCost 2 = .ok (.invokevirtual 157, 3) := by decide +kernel
theorem dX11_mendCost_5 : decode cX11_mendCost 5 = .ok (.invokevirtual 87, 3) := by decide +kernel
theorem dX11_mendCost_8 : decode cX11_mendCost 8 = .ok (.ifCond .eq 5, 3) := by decide +kernel
theorem dX11_mendCost_11 : decode cX11_mendCost 11 = .ok (.iconst (-1), 1) := by decide +kernel
theorem dX11_mendCost_12 : decode cX11_mendCost 12 = .ok (.ireturn, 1) := by decide +kernel
theorem dX11_mendCost_13 : decode cX11_mendCost 13 = .ok (.aload_n 0, 1) := by decide +kernel
theorem dX11_mendCost_14 : decode cX11_mendCost 14 = .ok (.invokevirtual 208, 3) := by decide +kernel
theorem dX11_mendCost_17 : decode cX11_mendCost 17 = .ok (.istore_n 1, 1) := by decide +kernel
theorem dX11_mendCost_18 : decode cX11_mendCost 18 = .ok (.iload_n 1, 1) := by decide +kernel
theorem dX11_mendCost_19 : decode cX11_mendCost 19 = .ok (.bipush (-2), 2) := by decide +kernel
theorem dX11_mendCost_21 : decode cX11_mendCost 21 = .ok (.if_icmp .ne 8, 3) := by decide +kernel
theorem dX11_mendCost_24 : decode cX11_mendCost 24 = .ok (.bipush (-2), 2) := by decide +kernel
theorem dX11_mendCost_26 : decode cX11_mendCost 26 = .ok (.goto 8, 3) := by decide +kernel
theorem dX11_mendCost_29 : decode cX11_mendCost 29 = .ok (.aload_n 0, 1) := by decide +kernel
theorem dX11_mendCost_30 : decode cX11_mendCost 30 = .ok (.iload_n 1, 1) := by decide +kernel
theorem dX11_mendCost_31 : decode cX11_mendCost 31 = .ok (.invokevirtual 211, 3) := by decide +kernel
theorem dX11_mendCost_34 : decode cX11_mendCost 34 = .ok (.ireturn, 1) := by decide +kernel
theorem dX11_bestOffer_0 : decode cX11_bestOffer 0 = .ok (.aload_n 0, 1) := by decide +kernel
theorem dX11_bestOffer_1 : decode cX11_bestOffer 1 = .ok (.aload_n 0, 1) := by decide +kernel
theorem dX11_bestOffer_2 : decode cX11_bestOffer 2 = .ok (.invokevirtual 157, 3) := by decide +kernel
theorem dX11_bestOffer_5 : decode cX11_bestOffer 5 = .ok (.invokevirtual 87, 3) := by decide +kernel
theorem dX11_bestOffer_8 : decode cX11_bestOffer 8 = .ok (.ifCond .eq 5, 3) := by decide +kernel
theorem dX11_bestOffer_11 : decode cX11_bestOffer 11 = .ok (.iconst (-1), 1) := by decide +kernel
theorem dX11_bestOffer_12 : decode cX11_bestOffer 12 = .ok (.ireturn, 1) := by decide +kernel
theorem dX11_bestOffer_13 : decode cX11_bestOffer 13 = .ok (.aload_n 0, 1) := by decide +kernel
theorem dX11_bestOffer_14 : decode cX11_bestOffer 14 = .ok (.iconst 0, 1) := by decide +kernel
theorem dX11_bestOffer_15 : decode cX11_bestOffer 15 = .ok (.invokevirtual 145, 3) := by decide +kernel
theorem dX11_bestOffer_18 : decode cX11_bestOffer 18 = .ok (.aload_n 0, 1) := by decide +kernel
theorem dX11_bestOffer_19 : decode cX11_bestOffer 19 = .ok (.getfield 40, 3) := by decide +kernel
theorem dX11_bestOffer_22 : decode cX11_bestOffer 22 = .ok (.invokevirtual 161, 3) := by decide +kernel
theorem dX11_bestOffer_25 : decode cX11_bestOffer 25 = .ok (.istore_n 1, 1) := by decide +kernel
theorem dX11_bestOffer_26 : decode cX11_bestOffer 26 = .ok (.aload_n 0, 1) := by decide +kernel
theorem dX11_bestOffer_27 : decode cX11_bestOffer 27 = .ok (.iload_n 1, 1) := by decide +kernel
theorem dX11_bestOffer_28 : decode cX11_bestOffer 28 = .ok (.invokevirtual 193, 3) := by decide +kernel
theorem dX11_bestOffer_31 : decode cX11_bestOffer 31 = .ok (.invokestatic 214, 3) := by decide +kernel
theorem dX11_bestOffer_34 : decode cX11_bestOffer 34 = .ok (.istore_n 2, 1) := by decide +kernel
theorem dX11_bestOffer_35 : decode cX11_bestOffer 35 = .ok (.bipush (-2), 2) := by decide +kernel
theorem dX11_bestOffer_37 : decode cX11_bestOffer 37 = .ok (.istore_n 3, 1) := by decide +kernel
theorem dX11_bestOffer_38 : decode cX11_bestOffer 38 = .ok (.iconst 0, 1) := by decide +kernel
theorem dX11_bestOffer_39 : decode cX11_bestOffer 39 = .ok (.istore 4, 2) := by decide +kernel
theorem dX11_bestOffer_41 : decode cX11_bestOffer 41 = .ok (.iload 4, 2) := by decide +kernel
theorem dX11_bestOffer_43 : decode cX11_bestOffer 43 = .ok (.aload_n 0, 1) := by decide +kernel
theorem dX11_bestOffer_44 : decode cX11_bestOffer 44 = .ok (.getfield 19, 3) := by decide +kernel
theorem dX11_bestOffer_47 : decode cX11_bestOffer 47 = .ok (.iconst 5, 1) := by decide +kernel
theorem dX11_bestOffer_48 : decode cX11_bestOffer 48 = .ok (.invokevirtual 113, 3) := by decide +kernel
theorem dX11_bestOffer_51 : decode cX11_bestOffer 51 = .ok (.if_icmp .ge 39, 3) := by decide +kernel
theorem dX11_bestOffer_54 : decode cX11_bestOffer 54 = .ok (.aload_n 0, 1) := by decide +kernel
theorem dX11_bestOffer_55 : decode cX11_bestOffer 55 = .ok (.iload_n 1, 1) := by decide +kernel
theorem dX11_bestOffer_56 : decode cX11_bestOffer 56 = .ok (.iconst 1, 1) := by decide +kernel
theorem dX11_bestOffer_57 : decode cX11_bestOffer 57 = .ok (.iload 4, 2) := by decide +kernel
theorem dX11_bestOffer_59 : decode cX11_bestOffer 59 = .ok (.ishl, 1) := by decide +kernel
theorem dX11_bestOffer_60 : decode cX11_bestOffer 60 = .ok (.invokestatic 219, 3) := by decide +kernel
theorem dX11_bestOffer_63 : decode cX11_bestOffer 63 = .ok (.ior, 1) := by decide +kernel
theorem dX11_bestOffer_64 : decode cX11_bestOffer 64 = .ok (.invokevirtual 193, 3) := by decide +kernel
theorem dX11_bestOffer_67 : decode cX11_bestOffer 67 = .ok (.invokestatic 214, 3) := by decide +kernel
theorem dX11_bestOffer_70 : decode cX11_bestOffer 70 = .ok (.istore 5, 2) := by decide +kernel
theorem dX11_bestOffer_72 : decode cX11_bestOffer 72 = .ok (.iload 5, 2) := by decide +kernel
theorem dX11_bestOffer_74 : decode cX11_bestOffer 74 = .ok (.iload_n 2, 1) := by decide +kernel
theorem dX11_bestOffer_75 : decode cX11_bestOffer 75 = .ok (.if_icmp .le 9, 3) := by decide +kernel
theorem dX11_bestOffer_78 : decode cX11_bestOffer 78 = .ok (.iload 5, 2) := by decide +kernel
theorem dX11_bestOffer_80 : decode cX11_bestOffer 80 = .ok (.istore_n 2, 1) := by decide +kernel
theorem dX11_bestOffer_81 : decode cX11_bestOffer 81 = .ok (.iload 4, 2) := by decide +kernel
theorem dX11_bestOffer_83 : decode cX11_bestOffer 83 = .ok (.istore_n 3, 1) := by decide +kernel
theorem dX11_bestOffer_84 : decode cX11_bestOffer 84 = .ok (.iinc 4 1, 3) := by decide +kernel
theorem dX11_bestOffer_87 : decode cX11_bestOffer 87 = .ok (.goto (-46), 3) := by decide +kernel
theorem dX11_bestOffer_90 : decode cX11_bestOffer 90 = .ok (.iload_n 3, 1) := by decide +kernel
theorem dX11_bestOffer_91 : decode cX11_bestOffer 91 = .ok (.ireturn, 1) := by decide +kernel
theorem dX11_clashes_0 : decode cX11_clashes 0 = .ok (.aload_n 0, 1) := by decide +kernel
theorem dX11_clashes_1 : decode cX11_clashes 1 = .ok (.aload_n 0, 1) := by decide +kernel
theorem dX11_clashes_2 : decode cX11_clashes 2 = .ok (.invokevirtual 157, 3) := by decide +kernel
theorem dX11_clashes_5 : decode cX11_clashes 5 = .ok (.iload_n 1, 1) := by decide +kernel
theorem dX11_clashes_6 : decode cX11_clashes 6 = .ok (.invokestatic 154, 3) := by decide +kernel
theorem dX11_clashes_9 : decode cX11_clashes 9 = .ok (.invokestatic 126, 3) := by decide +kernel
theorem dX11_clashes_12 : decode cX11_clashes 12 = .ok (.invokevirtual 87, 3) := by decide +kernel
theorem dX11_clashes_15 : decode cX11_clashes 15 = .ok (.ifCond .eq 5, 3) := by decide +kernel
theorem dX11_clashes_18 : decode cX11_clashes 18 = .ok (.iconst (-1), 1) := by decide +kernel
theorem dX11_clashes_19 : decode cX11_clashes 19 = .ok (.ireturn, 1) := by decide +kernel
theorem dX11_clashes_20 : decode cX11_clashes 20 = .ok (.aload_n 0, 1) := by decide +kernel
theorem dX11_clashes_21 : decode cX11_clashes 21 = .ok (.iload_n 1, 1) := by decide +kernel
theorem dX11_clashes_22 : decode cX11_clashes 22 = .ok (.invokevirtual 145, 3) := by decide +kernel
theorem dX11_clashes_25 : decode cX11_clashes 25 = .ok (.aload_n 0, 1) := by decide +kernel
theorem dX11_clashes_26 : decode cX11_clashes 26 = .ok (.getfield 19, 3) := by decide +kernel
theorem dX11_clashes_29 : decode cX11_clashes 29 = .ok (.aload_n 0, 1) := by decide +kernel
theorem dX11_clashes_30 : decode cX11_clashes 30 = .ok (.getfield 40, 3) := by decide +kernel
theorem dX11_clashes_33 : decode cX11_clashes 33 = .ok (.invokevirtual 161, 3) := by decide +kernel
theorem dX11_clashes_36 : decode cX11_clashes 36 = .ok (.invokevirtual 222, 3) := by decide +kernel
theorem dX11_clashes_39 : decode cX11_clashes 39 = .ok (.ireturn, 1) := by decide +kernel
theorem dX11_breakFew_0 : decode cX11_breakFew 0 = .ok (.aload_n 0, 1) := by decide +kernel
theorem dX11_breakFew_1 : decode cX11_breakFew 1 = .ok (.aload_n 0, 1) := by decide +kernel
theorem dX11_breakFew_2 : decode cX11_breakFew 2 = .ok (.invokevirtual 157, 3) := by decide +kernel
theorem dX11_breakFew_5 : decode cX11_breakFew 5 = .ok (.invokevirtual 87, 3) := by decide +kernel
theorem dX11_breakFew_8 : decode cX11_breakFew 8 = .ok (.ifCond .eq 5, 3) := by decide +kernel
theorem dX11_breakFew_11 : decode cX11_breakFew 11 = .ok (.iconst (-1), 1) := by decide +kernel
theorem dX11_breakFew_12 : decode cX11_breakFew 12 = .ok (.ireturn, 1) := by decide +kernel
theorem dX11_breakFew_13 : decode cX11_breakFew 13 = .ok (.aload_n 0, 1) := by decide +kernel
theorem dX11_breakFew_14 : decode cX11_breakFew 14 = .ok (.iconst 0, 1) := by decide +kernel
theorem dX11_breakFew_15 : decode cX11_breakFew 15 = .ok (.invokevirtual 225, 3) := by decide +kernel
theorem dX11_breakFew_18 : decode cX11_breakFew 18 = .ok (.ireturn, 1) := by decide +kernel
theorem dX11_breakRued_0 : decode cX11_breakRued 0 = .ok (.aload_n 0, 1) := by decide +kernel
theorem dX11_breakRued_1 : decode cX11_breakRued 1 = .ok (.aload_n 0, 1) := by decide +kernel
theorem dX11_breakRued_2 : decode cX11_breakRued 2 = .ok (.invokevirtual 157, 3) := by decide +kernel
theorem dX11_breakRued_5 : decode cX11_breakRued 5 = .ok (.invokevirtual 87, 3) := by decide +kernel
theorem dX11_breakRued_8 : decode cX11_breakRued 8 = .ok (.ifCond .eq 5, 3) := by decide +kernel
theorem dX11_breakRued_11 : decode cX11_breakRued 11 = .ok (.iconst (-1), 1) := by decide +kernel
theorem dX11_breakRued_12 : decode cX11_breakRued 12 = .ok (.ireturn, 1) := by decide +kernel
theorem dX11_breakRued_13 : decode cX11_breakRued 13 = .ok (.aload_n 0, 1) := by decide +kernel
theorem dX11_breakRued_14 : decode cX11_breakRued 14 = .ok (.iconst 1, 1) := by decide +kernel
theorem dX11_breakRued_15 : decode cX11_breakRued 15 = .ok (.invokevirtual 225, 3) := by decide +kernel
theorem dX11_breakRued_18 : decode cX11_breakRued 18 = .ok (.ireturn, 1) := by decide +kernel
theorem dX11_rue_0 : decode cX11_rue 0 = .ok (.aload_n 0, 1) := by decide +kernel
theorem dX11_rue_1 : decode cX11_rue 1 = .ok (.aload_n 0, 1) := by decide +kernel
theorem dX11_rue_2 : decode cX11_rue 2 = .ok (.invokevirtual 157, 3) := by decide +kernel
theorem dX11_rue_5 : decode cX11_rue 5 = .ok (.invokevirtual 87, 3) := by decide +kernel
theorem dX11_rue_8 : decode cX11_rue 8 = .ok (.ifCond .eq 5, 3) := by decide +kernel
theorem dX11_rue_11 : decode cX11_rue 11 = .ok (.iconst (-1), 1) := by decide +kernel
theorem dX11_rue_12 : decode cX11_rue 12 = .ok (.ireturn, 1) := by decide +kernel
theorem dX11_rue_13 : decode cX11_rue 13 = .ok (.aload_n 0, 1) := by decide +kernel
theorem dX11_rue_14 : decode cX11_rue 14 = .ok (.getfield 40, 3) := by decide +kernel
theorem dX11_rue_17 : decode cX11_rue 17 = .ok (.aload_n 0, 1) := by decide +kernel
theorem dX11_rue_18 : decode cX11_rue 18 = .ok (.iconst 1, 1) := by decide +kernel
theorem dX11_rue_19 : decode cX11_rue 19 = .ok (.invokevirtual 225, 3) := by decide +kernel
theorem dX11_rue_22 : decode cX11_rue 22 = .ok (.invokevirtual 151, 3) := by decide +kernel
theorem dX11_rue_25 : decode cX11_rue 25 = .ok (.ireturn, 1) := by decide +kernel
theorem dX11_peaces_0 : decode cX11_peaces 0 = .ok (.aload_n 0, 1) := by decide +kernel
theorem dX11_peaces_1 : decode cX11_peaces 1 = .ok (.aload_n 0, 1) := by decide +kernel
theorem dX11_peaces_2 : decode cX11_peaces 2 = .ok (.invokevirtual 157, 3) := by decide +kernel
theorem dX11_peaces_5 : decode cX11_peaces 5 = .ok (.invokevirtual 87, 3) := by decide +kernel
theorem dX11_peaces_8 : decode cX11_peaces 8 = .ok (.ifCond .eq 5, 3) := by decide +kernel
theorem dX11_peaces_11 : decode cX11_peaces 11 = .ok (.iconst (-1), 1) := by decide +kernel
theorem dX11_peaces_12 : decode cX11_peaces 12 = .ok (.ireturn, 1) := by decide +kernel
theorem dX11_peaces_13 : decode cX11_peaces 13 = .ok (.aload_n 0, 1) := by decide +kernel
theorem dX11_peaces_14 : decode cX11_peaces 14 = .ok (.iconst 0, 1) := by decide +kernel
theorem dX11_peaces_15 : decode cX11_peaces 15 = .ok (.invokevirtual 145, 3) := by decide +kernel
theorem dX11_peaces_18 : decode cX11_peaces 18 = .ok (.aload_n 0, 1) := by decide +kernel
theorem dX11_peaces_19 : decode cX11_peaces 19 = .ok (.getfield 40, 3) := by decide +kernel
theorem dX11_peaces_22 : decode cX11_peaces 22 = .ok (.invokevirtual 161, 3) := by decide +kernel
theorem dX11_peaces_25 : decode cX11_peaces 25 = .ok (.istore_n 1, 1) := by decide +kernel
theorem dX11_peaces_26 : decode cX11_peaces 26 = .ok (.iconst 0, 1) := by decide +kernel
theorem dX11_peaces_27 : decode cX11_peaces 27 = .ok (.istore_n 2, 1) := by decide +kernel
theorem dX11_peaces_28 : decode cX11_peaces 28 = .ok (.iconst 0, 1) := by decide +kernel
theorem dX11_peaces_29 : decode cX11_peaces 29 = .ok (.istore_n 3, 1) := by decide +kernel
theorem dX11_peaces_30 : decode cX11_peaces 30 = .ok (.iload_n 3, 1) := by decide +kernel
theorem dX11_peaces_31 : decode cX11_peaces 31 = .ok (.iload_n 1, 1) := by decide +kernel
theorem dX11_peaces_32 : decode cX11_peaces 32 = .ok (.if_icmp .gt 31, 3) := by decide +kernel
theorem dX11_peaces_35 : decode cX11_peaces 35 = .ok (.iload_n 3, 1) := by decide +kernel
theorem dX11_peaces_36 : decode cX11_peaces 36 = .ok (.iload_n 1, 1) := by decide +kernel
theorem dX11_peaces_37 : decode cX11_peaces 37 = .ok (.invokestatic 229, 3) := by decide +kernel
theorem dX11_peaces_40 : decode cX11_peaces 40 = .ok (.ifCond .eq 17, 3) := by decide +kernel
theorem dX11_peaces_43 : decode cX11_peaces 43 = .ok (.aload_n 0, 1) := by decide +kernel
theorem dX11_peaces_44 : decode cX11_peaces 44 = .ok (.getfield 19, 3) := by decide +kernel
theorem dX11_peaces_47 : decode cX11_peaces 47 = .ok (.iload_n 3, 1) := by decide +kernel
theorem dX11_peaces_48 : decode cX11_peaces 48 = .ok (.invokevirtual 222, 3) := by decide +kernel
theorem dX11_peaces_51 : decode cX11_peaces 51 = .ok (.ifCond .ne 6, 3) := by decide +kernel
theorem dX11_peaces_54 : decode cX11_peaces 54 = .ok (.iinc 2 1, 3) := by decide +kernel
theorem dX11_peaces_57 : decode cX11_peaces 57 = .ok (.iinc 3 1, 3) := by decide +kernel
theorem dX11_peaces_60 : decode cX11_peaces 60 = .ok (.goto (-30), 3) := by decide +kernel
theorem dX11_peaces_63 : decode cX11_peaces 63 = .ok (.iload_n 2, 1) := by decide +kernel
theorem dX11_peaces_64 : decode cX11_peaces 64 = .ok (.ireturn, 1) := by decide +kernel
theorem dX11_fits_0 : decode cX11_fits 0 = .ok (.aload_n 0, 1) := by decide +kernel
theorem dX11_fits_1 : decode cX11_fits 1 = .ok (.aload_n 0, 1) := by decide +kernel
theorem dX11_fits_2 : decode cX11_fits 2 = .ok (.invokevirtual 157, 3) := by decide +kernel
theorem dX11_fits_5 : decode cX11_fits 5 = .ok (.invokevirtual 87, 3) := by decide +kernel
theorem dX11_fits_8 : decode cX11_fits 8 = .ok (.ifCond .eq 5, 3) := by decide +kernel
theorem dX11_fits_11 : decode cX11_fits 11 = .ok (.iconst (-1), 1) := by decide +kernel
theorem dX11_fits_12 : decode cX11_fits 12 = .ok (.ireturn, 1) := by decide +kernel
theorem dX11_fits_13 : decode cX11_fits 13 = .ok (.aload_n 0, 1) := by decide +kernel
theorem dX11_fits_14 : decode cX11_fits 14 = .ok (.getfield 47, 3) := by decide +kernel
theorem dX11_fits_17 : decode cX11_fits 17 = .ok (.invokevirtual 232, 3) := by decide +kernel
theorem dX11_fits_20 : decode cX11_fits 20 = .ok (.ireturn, 1) := by decide +kernel
theorem dX11_fitAt_0 : decode cX11_fitAt 0 = .ok (.aload_n 0, 1) := by decide +kernel
theorem dX11_fitAt_1 : decode cX11_fitAt 1 = .ok (.aload_n 0, 1) := by decide +kernel
theorem dX11_fitAt_2 : decode cX11_fitAt 2 = .ok (.invokevirtual 157, 3) := by decide +kernel
theorem dX11_fitAt_5 : decode cX11_fitAt 5 = .ok (.iload_n 1, 1) := by decide +kernel
theorem dX11_fitAt_6 : decode cX11_fitAt 6 = .ok (.ifCond .lt 18, 3) := by decide +kernel
theorem dX11_fitAt_9 : decode cX11_fitAt 9 = .ok (.iload_n 1, 1) := by decide +kernel
theorem dX11_fitAt_10 : decode cX11_fitAt 10 = .ok (.aload_n 0, 1) := by decide +kernel
theorem dX11_fitAt_11 : decode cX11_fitAt 11 = .ok (.getfield 47, 3) := by decide +kernel
theorem dX11_fitAt_14 : decode cX11_fitAt 14 = .ok (.invokevirtual 232, 3) := by decide +kernel
theorem dX11_fitAt_17 : decode cX11_fitAt 17 = .ok (.if_icmp .ge 7, 3) := by decide +kernel
theorem dX11_fitAt_20 : decode cX11_fitAt 20 = .ok (.iconst 0, 1) := by decide +kernel
theorem dX11_fitAt_21 : decode cX11_fitAt 21 = .ok (.goto 4, 3) := by decide +kernel
theorem dX11_fitAt_24 : decode cX11_fitAt 24 = .ok (.iconst 1, 1) := by decide +kernel
theorem dX11_fitAt_25 : decode cX11_fitAt 25 = .ok (.invokestatic 126, 3) := by decide +kernel
theorem dX11_fitAt_28 : decode cX11_fitAt 28 = .ok (.invokevirtual 87, 3) := by decide +kernel
theorem dX11_fitAt_31 : decode cX11_fitAt 31 = .ok (.ifCond .eq 5, 3) := by decide +kernel
theorem dX11_fitAt_34 : decode cX11_fitAt 34 = .ok (.iconst (-1), 1) := by decide +kernel
theorem dX11_fitAt_35 : decode cX11_fitAt 35 = .ok (.ireturn, 1) := by decide +kernel
theorem dX11_fitAt_36 : decode cX11_fitAt 36 = .ok (.aload_n 0, 1) := by decide +kernel
theorem dX11_fitAt_37 : decode cX11_fitAt 37 = .ok (.getfield 47, 3) := by decide +kernel
theorem dX11_fitAt_40 : decode cX11_fitAt 40 = .ok (.iload_n 1, 1) := by decide +kernel
theorem dX11_fitAt_41 : decode cX11_fitAt 41 = .ok (.invokevirtual 235, 3) := by decide +kernel
theorem dX11_fitAt_44 : decode cX11_fitAt 44 = .ok (.ireturn, 1) := by decide +kernel
theorem dX11_odds_0 : decode cX11_odds 0 = .ok (.aload_n 0, 1) := by decide +kernel
theorem dX11_odds_1 : decode cX11_odds 1 = .ok (.aload_n 0, 1) := by decide +kernel
theorem dX11_odds_2 : decode cX11_odds 2 = .ok (.bipush 6, 2) := by decide +kernel
theorem dX11_odds_4 : decode cX11_odds 4 = .ok (.iload_n 1, 1) := by decide +kernel
theorem dX11_odds_5 : decode cX11_odds 5 = .ok (.invokevirtual 238, 3) := by decide +kernel
theorem dX11_odds_8 : decode cX11_odds 8 = .ok (.invokevirtual 87, 3) := by decide +kernel
theorem dX11_odds_11 : decode cX11_odds 11 = .ok (.ifCond .eq 7, 3) := by decide +kernel
theorem dX11_odds_14 : decode cX11_odds 14 = .ok (.ldc2_w 241, 3) := by decide +kernel
theorem dX11_odds_17 : decode cX11_odds 17 = .ok (.lreturn, 1) := by decide +kernel
theorem dX11_odds_18 : decode cX11_odds 18 = .ok (.aload_n 0, 1) := by decide +kernel
theorem dX11_odds_19 : decode cX11_odds 19 = .ok (.getfield 61, 3) := by decide +kernel
theorem dX11_odds_22 : decode cX11_odds 22 = .ok (.aload_n 0, 1) := by decide +kernel
theorem dX11_odds_23 : decode cX11_odds 23 = .ok (.getfield 47, 3) := by decide +kernel
theorem dX11_odds_26 : decode cX11_odds 26 = .ok (.iload_n 1, 1) := by decide +kernel
theorem dX11_odds_27 : decode cX11_odds 27 = .ok (.invokevirtual 243, 3) := by decide +kernel
theorem dX11_odds_30 : decode cX11_odds 30 = .ok (.aload_n 0, 1) := by decide +kernel
theorem dX11_odds_31 : decode cX11_odds 31 = .ok (.getfield 47, 3) := by decide +kernel
theorem dX11_odds_34 : decode cX11_odds 34 = .ok (.invokevirtual 247, 3) := by decide +kernel
theorem dX11_odds_37 : decode cX11_odds 37 = .ok (.invokevirtual 251, 3) := by decide +kernel
theorem dX11_odds_40 : decode cX11_odds 40 = .ok (.aload_n 0, 1) := by decide +kernel
theorem dX11_odds_41 : decode cX11_odds 41 = .ok (.getfield 61, 3) := by decide +kernel
theorem dX11_odds_44 : decode cX11_odds 44 = .ok (.iload_n 2, 1) := by decide +kernel
theorem dX11_odds_45 : decode cX11_odds 45 = .ok (.invokevirtual 255, 3) := by decide +kernel
theorem dX11_odds_48 : decode cX11_odds 48 = .ok (.lreturn, 1) := by decide +kernel
theorem dX11_likeliest_0 : decode cX11_likeliest 0 = .ok (.aload_n 0, 1) := by decide +kernel
theorem dX11_likeliest_1 : decode cX11_likeliest 1 = .ok (.aload_n 0, 1) := by decide +kernel
theorem dX11_likeliest_2 : decode cX11_likeliest 2 = .ok (.invokevirtual 157, 3) := by decide +kernel
theorem dX11_likeliest_5 : decode cX11_likeliest 5 = .ok (.invokevirtual 87, 3) := by decide +kernel
theorem dX11_likeliest_8 : decode cX11_likeliest 8 = .ok (.ifCond .eq 5, 3) := by decide +kernel
theorem dX11_likeliest_11 : decode cX11_likeliest 11 = .ok (.iconst (-1), 1) := by decide +kernel
theorem dX11_likeliest_12 : decode cX11_likeliest 12 = .ok (.ireturn, 1) := by decide +kernel
theorem dX11_likeliest_13 : decode cX11_likeliest 13 = .ok (.aload_n 0, 1) := by decide +kernel
theorem dX11_likeliest_14 : decode cX11_likeliest 14 = .ok (.getfield 47, 3) := by decide +kernel
theorem dX11_likeliest_17 : decode cX11_likeliest 17 = .ok (.invokevirtual 258, 3) := by decide +kernel
theorem dX11_likeliest_20 : decode cX11_likeliest 20 = .ok (.ireturn, 1) := by decide +kernel
theorem dX11_test_0 : decode cX11_test 0 = .ok (.aload_n 0, 1) := by decide +kernel
theorem dX11_test_1 : decode cX11_test 1 = .ok (.aload_n 0, 1) := by decide +kernel
theorem dX11_test_2 : decode cX11_test 2 = .ok (.invokevirtual 157, 3) := by decide +kernel
theorem dX11_test_5 : decode cX11_test 5 = .ok (.invokevirtual 87, 3) := by decide +kernel
theorem dX11_test_8 : decode cX11_test 8 = .ok (.ifCond .eq 5, 3) := by decide +kernel
theorem dX11_test_11 : decode cX11_test 11 = .ok (.iconst (-1), 1) := by decide +kernel
theorem dX11_test_12 : decode cX11_test 12 = .ok (.ireturn, 1) := by decide +kernel
theorem dX11_test_13 : decode cX11_test 13 = .ok (.aload_n 0, 1) := by decide +kernel
theorem dX11_test_14 : decode cX11_test 14 = .ok (.getfield 47, 3) := by decide +kernel
theorem dX11_test_17 : decode cX11_test 17 = .ok (.invokevirtual 261, 3) := by decide +kernel
theorem dX11_test_20 : decode cX11_test 20 = .ok (.ireturn, 1) := by decide +kernel
theorem dX11_testLeaves_0 : decode cX11_testLeaves 0 = .ok (.aload_n 0, 1) := by decide +kernel
theorem dX11_testLeaves_1 : decode cX11_testLeaves 1 = .ok (.aload_n 0, 1) := by decide +kernel
theorem dX11_testLeaves_2 : decode cX11_testLeaves 2 = .ok (.invokevirtual 157, 3) := by decide +kernel
theorem dX11_testLeaves_5 : decode cX11_testLeaves 5 = .ok (.invokevirtual 87, 3) := by decide +kernel
theorem dX11_testLeaves_8 : decode cX11_testLeaves 8 = .ok (.ifCond .eq 5, 3) := by decide +kernel
theorem dX11_testLeaves_11 : decode cX11_testLeaves 11 = .ok (.iconst (-1), 1) := by decide +kernel
theorem dX11_testLeaves_12 : decode cX11_testLeaves 12 = .ok (.ireturn, 1) := by decide +kernel
theorem dX11_testLeaves_13 : decode cX11_testLeaves 13 = .ok (.aload_n 0, 1) := by decide +kernel
theorem dX11_testLeaves_14 : decode cX11_testLeaves 14 = .ok (.getfield 47, 3) := by decide +kernel
theorem dX11_testLeaves_17 : decode cX11_testLeaves 17 = .ok (.invokevirtual 261, 3) := by decide +kernel
theorem dX11_testLeaves_20 : decode cX11_testLeaves 20 = .ok (.istore_n 1, 1) := by decide +kernel
theorem dX11_testLeaves_21 : decode cX11_testLeaves 21 = .ok (.iload_n 1, 1) := by decide +kernel
theorem dX11_testLeaves_22 : decode cX11_testLeaves 22 = .ok (.bipush (-2), 2) := by decide +kernel
theorem dX11_testLeaves_24 : decode cX11_testLeaves 24 = .ok (.if_icmp .ne 8, 3) := by decide +kernel
theorem dX11_testLeaves_27 : decode cX11_testLeaves 27 = .ok (.bipush (-2), 2) := by decide +kernel
theorem dX11_testLeaves_29 : decode cX11_testLeaves 29 = .ok (.goto 11, 3) := by decide +kernel
theorem dX11_testLeaves_32 : decode cX11_testLeaves 32 = .ok (.aload_n 0, 1) := by decide +kernel
theorem dX11_testLeaves_33 : decode cX11_testLeaves 33 = .ok (.getfield 47, 3) := by decide +kernel
theorem dX11_testLeaves_36 : decode cX11_testLeaves 36 = .ok (.iload_n 1, 1) := by decide +kernel
theorem dX11_testLeaves_37 : decode cX11_testLeaves 37 = .ok (.invokevirtual 264, 3) := by decide +kernel
theorem dX11_testLeaves_40 : decode cX11_testLeaves 40 = .ok (.ireturn, 1) := by decide +kernel
theorem dX11_brown_0 : decode cX11_brown 0 = .ok (.aload_n 0, 1) := by decide +kernel
theorem dX11_brown_1 : decode cX11_brown 1 = .ok (.aload_n 0, 1) := by decide +kernel
theorem dX11_brown_2 : decode cX11_brown 2 = .ok (.iload_n 1, 1) := by decide +kernel
theorem dX11_brown_3 : decode cX11_brown 3 = .ok (.invokevirtual 123, 3) := by decide +kernel
theorem dX11_brown_6 : decode cX11_brown 6 = .ok (.aload_n 0, 1) := by decide +kernel
theorem dX11_brown_7 : decode cX11_brown 7 = .ok (.iload_n 2, 1) := by decide +kernel
theorem dX11_brown_8 : decode cX11_brown 8 = .ok (.invokevirtual 123, 3) := by decide +kernel
theorem dX11_brown_11 : decode cX11_brown 11 = .ok (.invokestatic 126, 3) := by decide +kernel
theorem dX11_brown_14 : decode cX11_brown 14 = .ok (.invokevirtual 87, 3) := by decide +kernel
theorem dX11_brown_17 : decode cX11_brown 17 = .ok (.ifCond .eq 7, 3) := by decide +kernel
theorem dX11_brown_20 : decode cX11_brown 20 = .ok (.ldc2_w 241, 3) := by decide +kernel
theorem dX11_brown_23 : decode cX11_brown 23 = .ok (.lreturn, 1) := by decide +kernel
theorem dX11_brown_24 : decode cX11_brown 24 = .ok (.aload_n 0, 1) := by decide +kernel
theorem dX11_brown_25 : decode cX11_brown 25 = .ok (.getfield 61, 3) := by decide +kernel
theorem dX11_brown_28 : decode cX11_brown 28 = .ok (.aload_n 0, 1) := by decide +kernel
theorem dX11_brown_29 : decode cX11_brown 29 = .ok (.getfield 47, 3) := by decide +kernel
theorem dX11_brown_32 : decode cX11_brown 32 = .ok (.aload_n 0, 1) := by decide +kernel
theorem dX11_brown_33 : decode cX11_brown 33 = .ok (.getfield 19, 3) := by decide +kernel
theorem dX11_brown_36 : decode cX11_brown 36 = .ok (.iload_n 1, 1) := by decide +kernel
theorem dX11_brown_37 : decode cX11_brown 37 = .ok (.iload_n 2, 1) := by decide +kernel
theorem dX11_brown_38 : decode cX11_brown 38 = .ok (.invokevirtual 267, 3) := by decide +kernel
theorem dX11_brown_41 : decode cX11_brown 41 = .ok (.aload_n 0, 1) := by decide +kernel
theorem dX11_brown_42 : decode cX11_brown 42 = .ok (.getfield 47, 3) := by decide +kernel
theorem dX11_brown_45 : decode cX11_brown 45 = .ok (.invokevirtual 247, 3) := by decide +kernel
theorem dX11_brown_48 : decode cX11_brown 48 = .ok (.invokevirtual 251, 3) := by decide +kernel
theorem dX11_brown_51 : decode cX11_brown 51 = .ok (.aload_n 0, 1) := by decide +kernel
theorem dX11_brown_52 : decode cX11_brown 52 = .ok (.getfield 61, 3) := by decide +kernel
theorem dX11_brown_55 : decode cX11_brown 55 = .ok (.iload_n 3, 1) := by decide +kernel
theorem dX11_brown_56 : decode cX11_brown 56 = .ok (.invokevirtual 255, 3) := by decide +kernel
theorem dX11_brown_59 : decode cX11_brown 59 = .ok (.lreturn, 1) := by decide +kernel
theorem dX11_judge_0 : decode cX11_judge 0 = .ok (.aload_n 0, 1) := by decide +kernel
theorem dX11_judge_1 : decode cX11_judge 1 = .ok (.aload_n 0, 1) := by decide +kernel
theorem dX11_judge_2 : decode cX11_judge 2 = .ok (.invokevirtual 157, 3) := by decide +kernel
theorem dX11_judge_5 : decode cX11_judge 5 = .ok (.invokevirtual 87, 3) := by decide +kernel
theorem dX11_judge_8 : decode cX11_judge 8 = .ok (.ifCond .eq 5, 3) := by decide +kernel
theorem dX11_judge_11 : decode cX11_judge 11 = .ok (.iconst (-1), 1) := by decide +kernel
theorem dX11_judge_12 : decode cX11_judge 12 = .ok (.ireturn, 1) := by decide +kernel
theorem dX11_judge_13 : decode cX11_judge 13 = .ok (.iconst 0, 1) := by decide +kernel
theorem dX11_judge_14 : decode cX11_judge 14 = .ok (.istore_n 1, 1) := by decide +kernel
theorem dX11_judge_15 : decode cX11_judge 15 = .ok (.iload_n 1, 1) := by decide +kernel
theorem dX11_judge_16 : decode cX11_judge 16 = .ok (.aload_n 0, 1) := by decide +kernel
theorem dX11_judge_17 : decode cX11_judge 17 = .ok (.getfield 19, 3) := by decide +kernel
theorem dX11_judge_20 : decode cX11_judge 20 = .ok (.bipush 7, 2) := by decide +kernel
theorem dX11_judge_22 : decode cX11_judge 22 = .ok (.invokevirtual 113, 3) := by decide +kernel
theorem dX11_judge_25 : decode cX11_judge 25 = .ok (.if_icmp .ge 71, 3) := by decide +kernel
theorem dX11_judge_28 : decode cX11_judge 28 = .ok (.aload_n 0, 1) := by decide +kernel
theorem dX11_judge_29 : decode cX11_judge 29 = .ok (.getfield 19, 3) := by decide +kernel
theorem dX11_judge_32 : decode cX11_judge 32 = .ok (.aload_n 0, 1) := by decide +kernel
theorem dX11_judge_33 : decode cX11_judge 33 = .ok (.getfield 19, 3) := by decide +kernel
theorem dX11_judge_36 : decode cX11_judge 36 = .ok (.bipush 7, 2) := by decide +kernel
theorem dX11_judge_38 : decode cX11_judge 38 = .ok (.iload_n 1, 1) := by decide +kernel
theorem dX11_judge_39 : decode cX11_judge 39 = .ok (.iconst 0, 1) := by decide +kernel
theorem dX11_judge_40 : decode cX11_judge 40 = .ok (.invokevirtual 206, 3) := by decide +kernel
theorem dX11_judge_43 : decode cX11_judge 43 = .ok (.invokevirtual 271, 3) := by decide +kernel
theorem dX11_judge_46 : decode cX11_judge 46 = .ok (.ifCond .ne 24, 3) := by decide +kernel
theorem dX11_judge_49 : decode cX11_judge 49 = .ok (.aload_n 0, 1) := by decide +kernel
theorem dX11_judge_50 : decode cX11_judge 50 = .ok (.getfield 19, 3) := by decide +kernel
theorem dX11_judge_53 : decode cX11_judge 53 = .ok (.aload_n 0, 1) := by decide +kernel
theorem dX11_judge_54 : decode cX11_judge 54 = .ok (.getfield 19, 3) := by decide +kernel
theorem dX11_judge_57 : decode cX11_judge 57 = .ok (.bipush 7, 2) := by decide +kernel
theorem dX11_judge_59 : decode cX11_judge 59 = .ok (.iload_n 1, 1) := by decide +kernel
theorem dX11_judge_60 : decode cX11_judge 60 = .ok (.iconst 1, 1) := by decide +kernel
theorem dX11_judge_61 : decode cX11_judge 61 = .ok (.invokevirtual 206, 3) := by decide +kernel
theorem dX11_judge_64 : decode cX11_judge 64 = .ok (.invokevirtual 271, 3) := by decide +kernel
theorem dX11_judge_67 : decode cX11_judge 67 = .ok (.ifCond .eq 7, 3) := by decide +kernel
theorem dX11_judge_70 : decode cX11_judge 70 = .ok (.iconst 1, 1) := by decide +kernel
theorem dX11_judge_71 : decode cX11_judge 71 = .ok (.goto 4, 3) := by decide +kernel
theorem dX11_judge_74 : decode cX11_judge 74 = .ok (.iconst 0, 1) := by decide +kernel
theorem dX11_judge_75 : decode cX11_judge 75 = .ok (.istore_n 2, 1) := by decide +kernel
theorem dX11_judge_76 : decode cX11_judge 76 = .ok (.iload_n 2, 1) := by decide +kernel
theorem dX11_judge_77 : decode cX11_judge 77 = .ok (.aload_n 0, 1) := by decide +kernel
theorem dX11_judge_78 : decode cX11_judge 78 = .ok (.getfield 19, 3) := by decide +kernel
theorem dX11_judge_81 : decode cX11_judge 81 = .ok (.iload_n 1, 1) := by decide +kernel
theorem dX11_judge_82 : decode cX11_judge 82 = .ok (.invokevirtual 274, 3) := by decide +kernel
theorem dX11_judge_85 : decode cX11_judge 85 = .ok (.if_icmp .eq 5, 3) := by decide +kernel
theorem dX11_judge_88 : decode cX11_judge 88 = .ok (.iload_n 1, 1) := by decide +kernel
theorem dX11_judge_89 : decode cX11_judge 89 = .ok (.ireturn, 1) := by decide +kernel
theorem dX11_judge_90 : decode cX11_judge 90 = .ok (.iinc 1 1, 3) := by decide +kernel
theorem dX11_judge_93 : decode cX11_judge 93 = .ok (.goto (-78), 3) := by decide +kernel
theorem dX11_judge_96 : decode cX11_judge 96 = .ok (.bipush (-2), 2) := by decide +kernel
theorem dX11_judge_98 : decode cX11_judge 98 = .ok (.ireturn, 1) := by decide +kernel
theorem dX11_snaps_0 : decode cX11_snaps 0 = .ok (.aload_n 0, 1) := by decide +kernel
theorem dX11_snaps_1 : decode cX11_snaps 1 = .ok (.aload_n 0, 1) := by decide +kernel
theorem dX11_snaps_2 : decode cX11_snaps 2 = .ok (.iload_n 1, 1) := by decide +kernel
theorem dX11_snaps_3 : decode cX11_snaps 3 = .ok (.iload_n 2, 1) := by decide +kernel
theorem dX11_snaps_4 : decode cX11_snaps 4 = .ok (.invokevirtual 167, 3) := by decide +kernel
theorem dX11_snaps_7 : decode cX11_snaps 7 = .ok (.invokevirtual 87, 3) := by decide +kernel
theorem dX11_snaps_10 : decode cX11_snaps 10 = .ok (.ifCond .eq 5, 3) := by decide +kernel
theorem dX11_snaps_13 : decode cX11_snaps 13 = .ok (.iconst (-1), 1) := by decide +kernel
theorem dX11_snaps_14 : decode cX11_snaps 14 = .ok (.ireturn, 1) := by decide +kernel
theorem dX11_snaps_15 : decode cX11_snaps 15 = .ok (.aload_n 0, 1) := by decide +kernel
theorem dX11_snaps_16 : decode cX11_snaps 16 = .ok (.iconst 0, 1) := by decide +kernel
theorem dX11_snaps_17 : decode cX11_snaps 17 = .ok (.invokevirtual 145, 3) := by decide +kernel
theorem dX11_snaps_20 : decode cX11_snaps 20 = .ok (.aload_n 0, 1) := by decide +kernel
theorem dX11_snaps_21 : decode cX11_snaps 21 = .ok (.getfield 40, 3) := by decide +kernel
theorem dX11_snaps_24 : decode cX11_snaps 24 = .ok (.iload_n 1, 1) := by decide +kernel
theorem dX11_snaps_25 : decode cX11_snaps 25 = .ok (.iload_n 2, 1) := by decide +kernel
theorem dX11_snaps_26 : decode cX11_snaps 26 = .ok (.invokevirtual 277, 3) := by decide +kernel
theorem dX11_snaps_29 : decode cX11_snaps 29 = .ok (.aload_n 0, 1) := by decide +kernel
theorem dX11_snaps_30 : decode cX11_snaps 30 = .ok (.getfield 40, 3) := by decide +kernel
theorem dX11_snaps_33 : decode cX11_snaps 33 = .ok (.aload_n 0, 1) := by decide +kernel
theorem dX11_snaps_34 : decode cX11_snaps 34 = .ok (.getfield 40, 3) := by decide +kernel
theorem dX11_snaps_37 : decode cX11_snaps 37 = .ok (.invokevirtual 161, 3) := by decide +kernel
theorem dX11_snaps_40 : decode cX11_snaps 40 = .ok (.invokevirtual 280, 3) := by decide +kernel
theorem dX11_snaps_43 : decode cX11_snaps 43 = .ok (.ifCond .eq 7, 3) := by decide +kernel
theorem dX11_snaps_46 : decode cX11_snaps 46 = .ok (.iconst 1, 1) := by decide +kernel
theorem dX11_snaps_47 : decode cX11_snaps 47 = .ok (.goto 4, 3) := by decide +kernel
theorem dX11_snaps_50 : decode cX11_snaps 50 = .ok (.iconst 0, 1) := by decide +kernel
theorem dX11_snaps_51 : decode cX11_snaps 51 = .ok (.ireturn, 1) := by decide +kernel
theorem dX11_snapsBy_0 : decode cX11_snapsBy 0 = .ok (.aload_n 0, 1) := by decide +kernel
theorem dX11_snapsBy_1 : decode cX11_snapsBy 1 = .ok (.aload_n 0, 1) := by decide +kernel
theorem dX11_snapsBy_2 : decode cX11_snapsBy 2 = .ok (.iload_n 1, 1) := by decide +kernel
theorem dX11_snapsBy_3 : decode cX11_snapsBy 3 = .ok (.iload_n 2, 1) := by decide +kernel
theorem dX11_snapsBy_4 : decode cX11_snapsBy 4 = .ok (.invokevirtual 167, 3) := by decide +kernel
theorem dX11_snapsBy_7 : decode cX11_snapsBy 7 = .ok (.invokevirtual 87, 3) := by decide +kernel
theorem dX11_snapsBy_10 : decode cX11_snapsBy 10 = .ok (.ifCond .eq 5, 3) := by decide +kernel
theorem dX11_snapsBy_13 : decode cX11_snapsBy 13 = .ok (.iconst (-1), 1) := by decide +kernel
theorem dX11_snapsBy_14 : decode cX11_snapsBy 14 = .ok (.ireturn, 1) := by decide +kernel
theorem dX11_snapsBy_15 : decode cX11_snapsBy 15 = .ok (.aload_n 0, 1) := by decide +kernel
theorem dX11_snapsBy_16 : decode cX11_snapsBy 16 = .ok (.iconst 0, 1) := by decide +kernel
theorem dX11_snapsBy_17 : decode cX11_snapsBy 17 = .ok (.invokevirtual 145, 3) := by decide +kernel
theorem dX11_snapsBy_20 : decode cX11_snapsBy 20 = .ok (.aload_n 0, 1) := by decide +kernel
theorem dX11_snapsBy_21 : decode cX11_snapsBy 21 = .ok (.getfield 40, 3) := by decide +kernel
theorem dX11_snapsBy_24 : decode cX11_snapsBy 24 = .ok (.iload_n 1, 1) := by decide +kernel
theorem dX11_snapsBy_25 : decode cX11_snapsBy 25 = .ok (.iload_n 2, 1) := by decide +kernel
theorem dX11_snapsBy_26 : decode cX11_snapsBy 26 = .ok (.invokevirtual 277, 3) := by decide +kernel
theorem dX11_snapsBy_29 : decode cX11_snapsBy 29 = .ok (.aload_n 0, 1) := by decide +kernel
theorem dX11_snapsBy_30 : decode cX11_snapsBy 30 = .ok (.getfield 40, 3) := by decide +kernel
theorem dX11_snapsBy_33 : decode cX11_snapsBy 33 = .ok (.invokevirtual 161, 3) := by decide +kernel
theorem dX11_snapsBy_36 : decode cX11_snapsBy 36 = .ok (.istore_n 3, 1) := by decide +kernel
theorem dX11_snapsBy_37 : decode cX11_snapsBy 37 = .ok (.aload_n 0, 1) := by decide +kernel
theorem dX11_snapsBy_38 : decode cX11_snapsBy 38 = .ok (.getfield 40, 3) := by decide +kernel
theorem dX11_snapsBy_41 : decode cX11_snapsBy 41 = .ok (.iload_n 3, 1) := by decide +kernel
theorem dX11_snapsBy_42 : decode cX11_snapsBy 42 = .ok (.invokevirtual 184, 3) := by decide +kernel
theorem dX11_snapsBy_45 : decode cX11_snapsBy 45 = .ok (.ifCond .ne 8, 3) := by decide +kernel
theorem dX11_snapsBy_48 : decode cX11_snapsBy 48 = .ok (.bipush (-2), 2) := by decide +kernel
theorem dX11_snapsBy_50 : decode cX11_snapsBy 50 = .ok (.goto 11, 3) := by decide +kernel
theorem dX11_snapsBy_53 : decode cX11_snapsBy 53 = .ok (.aload_n 0, 1) := by decide +kernel
theorem dX11_snapsBy_54 : decode cX11_snapsBy 54 = .ok (.getfield 40, 3) := by decide +kernel
theorem dX11_snapsBy_57 : decode cX11_snapsBy 57 = .ok (.iload_n 3, 1) := by decide +kernel
theorem dX11_snapsBy_58 : decode cX11_snapsBy 58 = .ok (.invokevirtual 283, 3) := by decide +kernel
theorem dX11_snapsBy_61 : decode cX11_snapsBy 61 = .ok (.ireturn, 1) := by decide +kernel
theorem dX11_blows_0 : decode cX11_blows 0 = .ok (.aload_n 0, 1) := by decide +kernel
theorem dX11_blows_1 : decode cX11_blows 1 = .ok (.aload_n 0, 1) := by decide +kernel
theorem dX11_blows_2 : decode cX11_blows 2 = .ok (.invokevirtual 157, 3) := by decide +kernel
theorem dX11_blows_5 : decode cX11_blows 5 = .ok (.iload_n 1, 1) := by decide +kernel
theorem dX11_blows_6 : decode cX11_blows 6 = .ok (.iconst 0, 1) := by decide +kernel
theorem dX11_blows_7 : decode cX11_blows 7 = .ok (.bipush 9, 2) := by decide +kernel
theorem dX11_blows_9 : decode cX11_blows 9 = .ok (.invokestatic 83, 3) := by decide +kernel
theorem dX11_blows_12 : decode cX11_blows 12 = .ok (.invokestatic 126, 3) := by decide +kernel
theorem dX11_blows_15 : decode cX11_blows 15 = .ok (.invokevirtual 87, 3) := by decide +kernel
theorem dX11_blows_18 : decode cX11_blows 18 = .ok (.ifCond .eq 6, 3) := by decide +kernel
theorem dX11_blows_21 : decode cX11_blows 21 = .ok (.bipush (-100), 2) := by decide +kernel
theorem dX11_blows_23 : decode cX11_blows 23 = .ok (.ireturn, 1) := by decide +kernel
theorem dX11_blows_24 : decode cX11_blows 24 = .ok (.iload 4, 2) := by decide +kernel
theorem dX11_blows_26 : decode cX11_blows 26 = .ok (.ifCond .eq 12, 3) := by decide +kernel
theorem dX11_blows_29 : decode cX11_blows 29 = .ok (.iload_n 1, 1) := by decide +kernel
theorem dX11_blows_30 : decode cX11_blows 30 = .ok (.iload_n 3, 1) := by decide +kernel
theorem dX11_blows_31 : decode cX11_blows 31 = .ok (.iload_n 2, 1) := by decide +kernel
theorem dX11_blows_32 : decode cX11_blows 32 = .ok (.invokestatic 286, 3) := by decide +kernel
theorem dX11_blows_35 : decode cX11_blows 35 = .ok (.goto 9, 3) := by decide +kernel
theorem dX11_blows_38 : decode cX11_blows 38 = .ok (.iload_n 1, 1) := by decide +kernel
theorem dX11_blows_39 : decode cX11_blows 39 = .ok (.iload_n 2, 1) := by decide +kernel
theorem dX11_blows_40 : decode cX11_blows 40 = .ok (.iload_n 3, 1) := by decide +kernel
theorem dX11_blows_41 : decode cX11_blows 41 = .ok (.invokestatic 286, 3) := by decide +kernel
theorem dX11_blows_44 : decode cX11_blows 44 = .ok (.ireturn, 1) := by decide +kernel
theorem dX11_rests_0 : decode cX11_rests 0 = .ok (.aload_n 0, 1) := by decide +kernel
theorem dX11_rests_1 : decode cX11_rests 1 = .ok (.aload_n 0, 1) := by decide +kernel
theorem dX11_rests_2 : decode cX11_rests 2 = .ok (.invokevirtual 157, 3) := by decide +kernel
theorem dX11_rests_5 : decode cX11_rests 5 = .ok (.iload_n 1, 1) := by decide +kernel
theorem dX11_rests_6 : decode cX11_rests 6 = .ok (.iconst 0, 1) := by decide +kernel
theorem dX11_rests_7 : decode cX11_rests 7 = .ok (.bipush 9, 2) := by decide +kernel
theorem dX11_rests_9 : decode cX11_rests 9 = .ok (.invokestatic 83, 3) := by decide +kernel
theorem dX11_rests_12 : decode cX11_rests 12 = .ok (.invokestatic 126, 3) := by decide +kernel
theorem dX11_rests_15 : decode cX11_rests 15 = .ok (.invokevirtual 87, 3) := by decide +kernel
theorem dX11_rests_18 : decode cX11_rests 18 = .ok (.ifCond .eq 5, 3) := by decide +kernel
theorem dX11_rests_21 : decode cX11_rests 21 = .ok (.iconst (-1), 1) := by decide +kernel
theorem dX11_rests_22 : decode cX11_rests 22 = .ok (.ireturn, 1) := by decide +kernel
theorem dX11_rests_23 : decode cX11_rests 23 = .ok (.iconst 0, 1) := by decide +kernel
theorem dX11_rests_24 : decode cX11_rests 24 = .ok (.istore_n 2, 1) := by decide +kernel
theorem dX11_rests_25 : decode cX11_rests 25 = .ok (.iconst 0, 1) := by decide +kernel
theorem dX11_rests_26 : decode cX11_rests 26 = .ok (.istore_n 3, 1) := by decide +kernel
theorem dX11_rests_27 : decode cX11_rests 27 = .ok (.iload_n 3, 1) := by decide +kernel
theorem dX11_rests_28 : decode cX11_rests 28 = .ok (.iconst 4, 1) := by decide +kernel
theorem dX11_rests_29 : decode cX11_rests 29 = .ok (.if_icmp .ge 41, 3) := by decide +kernel
theorem dX11_rests_32 : decode cX11_rests 32 = .ok (.iload_n 1, 1) := by decide +kernel
theorem dX11_rests_33 : decode cX11_rests 33 = .ok (.iload_n 3, 1) := by decide +kernel
theorem dX11_rests_34 : decode cX11_rests 34 = .ok (.iconst 2, 1) := by decide +kernel
theorem dX11_rests_35 : decode cX11_rests 35 = .ok (.if_icmp .lt 7, 3) := by decide +kernel
theorem dX11_rests_38 : decode cX11_rests 38 = .ok (.iconst 1, 1) := by decide +kernel
theorem dX11_rests_39 : decode cX11_rests 39 = .ok (.goto 4, 3) := by decide +kernel
theorem dX11_rests_42 : decode cX11_rests 42 = .ok (.iconst 0, 1) := by decide +kernel
theorem dX11_rests_43 : decode cX11_rests 43 = .ok (.iload_n 3, 1) := by decide +kernel
theorem dX11_rests_44 : decode cX11_rests 44 = .ok (.iconst 2, 1) := by decide +kernel
theorem dX11_rests_45 : decode cX11_rests 45 = .ok (.irem, 1) := by decide +kernel
theorem dX11_rests_46 : decode cX11_rests 46 = .ok (.iconst 1, 1) := by decide +kernel
theorem dX11_rests_47 : decode cX11_rests 47 = .ok (.if_icmp .ne 7, 3) := by decide +kernel
theorem dX11_rests_50 : decode cX11_rests 50 = .ok (.iconst 1, 1) := by decide +kernel
theorem dX11_rests_51 : decode cX11_rests 51 = .ok (.goto 4, 3) := by decide +kernel
theorem dX11_rests_54 : decode cX11_rests 54 = .ok (.iconst 0, 1) := by decide +kernel
theorem dX11_rests_55 : decode cX11_rests 55 = .ok (.invokestatic 290, 3) := by decide +kernel
theorem dX11_rests_58 : decode cX11_rests 58 = .ok (.ifCond .eq 6, 3) := by decide +kernel
theorem dX11_rests_61 : decode cX11_rests 61 = .ok (.iinc 2 1, 3) := by decide +kernel
theorem dX11_rests_64 : decode cX11_rests 64 = .ok (.iinc 3 1, 3) := by decide +kernel
theorem dX11_rests_67 : decode cX11_rests 67 = .ok (.goto (-40), 3) := by decide +kernel
theorem dX11_rests_70 : decode cX11_rests 70 = .ok (.iload_n 2, 1) := by decide +kernel
theorem dX11_rests_71 : decode cX11_rests 71 = .ok (.ireturn, 1) := by decide +kernel
theorem dX11_rest_0 : decode cX11_rest 0 = .ok (.aload_n 0, 1) := by decide +kernel
theorem dX11_rest_1 : decode cX11_rest 1 = .ok (.aload_n 0, 1) := by decide +kernel
theorem dX11_rest_2 : decode cX11_rest 2 = .ok (.invokevirtual 157, 3) := by decide +kernel
theorem dX11_rest_5 : decode cX11_rest 5 = .ok (.iload_n 1, 1) := by decide +kernel
theorem dX11_rest_6 : decode cX11_rest 6 = .ok (.iconst 0, 1) := by decide +kernel
theorem dX11_rest_7 : decode cX11_rest 7 = .ok (.bipush 9, 2) := by decide +kernel
theorem dX11_rest_9 : decode cX11_rest 9 = .ok (.invokestatic 83, 3) := by decide +kernel
theorem dX11_rest_12 : decode cX11_rest 12 = .ok (.invokestatic 126, 3) := by decide +kernel
theorem dX11_rest_15 : decode cX11_rest 15 = .ok (.invokevirtual 87, 3) := by decide +kernel
theorem dX11_rest_18 : decode cX11_rest 18 = .ok (.ifCond .eq 5, 3) := by decide +kernel
theorem dX11_rest_21 : decode cX11_rest 21 = .ok (.iconst (-1), 1) := by decide +kernel
theorem dX11_rest_22 : decode cX11_rest 22 = .ok (.ireturn, 1) := by decide +kernel
theorem dX11_rest_23 : decode cX11_rest 23 = .ok (.iconst 0, 1) := by decide +kernel
theorem dX11_rest_24 : decode cX11_rest 24 = .ok (.istore_n 2, 1) := by decide +kernel
theorem dX11_rest_25 : decode cX11_rest 25 = .ok (.iload_n 2, 1) := by decide +kernel
theorem dX11_rest_26 : decode cX11_rest 26 = .ok (.iconst 4, 1) := by decide +kernel
theorem dX11_rest_27 : decode cX11_rest 27 = .ok (.if_icmp .ge 49, 3) := by decide +kernel
theorem dX11_rest_30 : decode cX11_rest 30 = .ok (.iload_n 1, 1) := by decide +kernel
theorem dX11_rest_31 : decode cX11_rest 31 = .ok (.iload_n 2, 1) := by decide +kernel
theorem dX11_rest_32 : decode cX11_rest 32 = .ok (.iconst 2, 1) := by decide +kernel
theorem dX11_rest_33 : decode cX11_rest 33 = .ok (.if_icmp .lt 7, 3) := by decide +kernel
theorem dX11_rest_36 : decode cX11_rest 36 = .ok (.iconst 1, 1) := by decide +kernel
theorem dX11_rest_37 : decode cX11_rest 37 = .ok (.goto 4, 3) := by decide +kernel
theorem dX11_rest_40 : decode cX11_rest 40 = .ok (.iconst 0, 1) := by decide +kernel
theorem dX11_rest_41 : decode cX11_rest 41 = .ok (.iload_n 2, 1) := by decide +kernel
theorem dX11_rest_42 : decode cX11_rest 42 = .ok (.iconst 2, 1) := by decide +kernel
theorem dX11_rest_43 : decode cX11_rest 43 = .ok (.irem, 1) := by decide +kernel
theorem dX11_rest_44 : decode cX11_rest 44 = .ok (.iconst 1, 1) := by decide +kernel
theorem dX11_rest_45 : decode cX11_rest 45 = .ok (.if_icmp .ne 7, 3) := by decide +kernel
theorem dX11_rest_48 : decode cX11_rest 48 = .ok (.iconst 1, 1) := by decide +kernel
theorem dX11_rest_49 : decode cX11_rest 49 = .ok (.goto 4, 3) := by decide +kernel
theorem dX11_rest_52 : decode cX11_rest 52 = .ok (.iconst 0, 1) := by decide +kernel
theorem dX11_rest_53 : decode cX11_rest 53 = .ok (.invokestatic 290, 3) := by decide +kernel
theorem dX11_rest_56 : decode cX11_rest 56 = .ok (.ifCond .eq 14, 3) := by decide +kernel
theorem dX11_rest_59 : decode cX11_rest 59 = .ok (.iload_n 2, 1) := by decide +kernel
theorem dX11_rest_60 : decode cX11_rest 60 = .ok (.iconst 2, 1) := by decide +kernel
theorem dX11_rest_61 : decode cX11_rest 61 = .ok (.idiv, 1) := by decide +kernel
theorem dX11_rest_62 : decode cX11_rest 62 = .ok (.bipush 10, 2) := by decide +kernel
theorem dX11_rest_64 : decode cX11_rest 64 = .ok (.imul, 1) := by decide +kernel
theorem dX11_rest_65 : decode cX11_rest 65 = .ok (.iload_n 2, 1) := by decide +kernel
theorem dX11_rest_66 : decode cX11_rest 66 = .ok (.iconst 2, 1) := by decide +kernel
theorem dX11_rest_67 : decode cX11_rest 67 = .ok (.irem, 1) := by decide +kernel
theorem dX11_rest_68 : decode cX11_rest 68 = .ok (.iadd, 1) := by decide +kernel
theorem dX11_rest_69 : decode cX11_rest 69 = .ok (.ireturn, 1) := by decide +kernel
theorem dX11_rest_70 : decode cX11_rest 70 = .ok (.iinc 2 1, 3) := by decide +kernel
theorem dX11_rest_73 : decode cX11_rest 73 = .ok (.goto (-48), 3) := by decide +kernel
theorem dX11_rest_76 : decode cX11_rest 76 = .ok (.bipush (-2), 2) := by decide +kernel
theorem dX11_rest_78 : decode cX11_rest 78 = .ok (.ireturn, 1) := by decide +kernel
theorem dX11_bearOdds_0 : decode cX11_bearOdds 0 = .ok (.aload_n 0, 1) := by decide +kernel
theorem dX11_bearOdds_1 : decode cX11_bearOdds 1 = .ok (.aload_n 0, 1) := by decide +kernel
theorem dX11_bearOdds_2 : decode cX11_bearOdds 2 = .ok (.iload_n 1, 1) := by decide +kernel
theorem dX11_bearOdds_3 : decode cX11_bearOdds 3 = .ok (.iload_n 2, 1) := by decide +kernel
theorem dX11_bearOdds_4 : decode cX11_bearOdds 4 = .ok (.invokevirtual 167, 3) := by decide +kernel
theorem dX11_bearOdds_7 : decode cX11_bearOdds 7 = .ok (.iload_n 3, 1) := by decide +kernel
theorem dX11_bearOdds_8 : decode cX11_bearOdds 8 = .ok (.iconst 0, 1) := by decide +kernel
theorem dX11_bearOdds_9 : decode cX11_bearOdds 9 = .ok (.sipush 800, 3) := by decide +kernel
theorem dX11_bearOdds_12 : decode cX11_bearOdds 12 = .ok (.invokestatic 83, 3) := by decide +kernel
theorem dX11_bearOdds_15 : decode cX11_bearOdds 15 = .ok (.invokestatic 126, 3) := by decide +kernel
theorem dX11_bearOdds_18 : decode cX11_bearOdds 18 = .ok (.invokevirtual 87, 3) := by decide +kernel
theorem dX11_bearOdds_21 : decode cX11_bearOdds 21 = .ok (.ifCond .eq 7, 3) := by decide +kernel
theorem dX11_bearOdds_24 : decode cX11_bearOdds 24 = .ok (.ldc2_w 241, 3) := by decide +kernel
theorem dX11_bearOdds_27 : decode cX11_bearOdds 27 = .ok (.lreturn, 1) := by decide +kernel
theorem dX11_bearOdds_28 : decode cX11_bearOdds 28 = .ok (.aload_n 0, 1) := by decide +kernel
theorem dX11_bearOdds_29 : decode cX11_bearOdds 29 = .ok (.iconst 0, 1) := by decide +kernel
theorem dX11_bearOdds_30 : decode cX11_bearOdds 30 = .ok (.invokevirtual 145, 3) := by decide +kernel
theorem dX11_bearOdds_33 : decode cX11_bearOdds 33 = .ok (.aload_n 0, 1) := by decide +kernel
theorem dX11_bearOdds_34 : decode cX11_bearOdds 34 = .ok (.getfield 40, 3) := by decide +kernel
theorem dX11_bearOdds_37 : decode cX11_bearOdds 37 = .ok (.iload_n 1, 1) := by decide +kernel
theorem dX11_bearOdds_38 : decode cX11_bearOdds 38 = .ok (.iload_n 2, 1) := by decide +kernel
theorem dX11_bearOdds_39 : decode cX11_bearOdds 39 = .ok (.invokevirtual 173, 3) := by decide +kernel
theorem dX11_bearOdds_42 : decode cX11_bearOdds 42 = .ok (.aload_n 0, 1) := by decide +kernel
theorem dX11_bearOdds_43 : decode cX11_bearOdds 43 = .ok (.getfield 40, 3) := by decide +kernel
theorem dX11_bearOdds_46 : decode cX11_bearOdds 46 = .ok (.invokevirtual 161, 3) := by decide +kernel
theorem dX11_bearOdds_49 : decode cX11_bearOdds 49 = .ok (.istore 5, 2) := by decide +kernel
theorem dX11_bearOdds_51 : decode cX11_bearOdds 51 = .ok (.lconst 0, 1) := by decide +kernel
theorem dX11_bearOdds_52 : decode cX11_bearOdds 52 = .ok (.lstore 6, 2) := by decide +kernel
theorem dX11_bearOdds_54 : decode cX11_bearOdds 54 = .ok (.iconst 0, 1) := by decide +kernel
theorem dX11_bearOdds_55 : decode cX11_bearOdds 55 = .ok (.istore 8, 2) := by decide +kernel
theorem dX11_bearOdds_57 : decode cX11_bearOdds 57 = .ok (.iload 8, 2) := by decide +kernel
theorem dX11_bearOdds_59 : decode cX11_bearOdds 59 = .ok (.iload 5, 2) := by decide +kernel
theorem dX11_bearOdds_61 : decode cX11_bearOdds 61 = .ok (.if_icmp .gt 45, 3) := by decide +kernel
theorem dX11_bearOdds_64 : decode cX11_bearOdds 64 = .ok (.iload 8, 2) := by decide +kernel
theorem dX11_bearOdds_66 : decode cX11_bearOdds 66 = .ok (.iload 5, 2) := by decide +kernel
theorem dX11_bearOdds_68 : decode cX11_bearOdds 68 = .ok (.invokestatic 229, 3) := by decide +kernel
theorem dX11_bearOdds_71 : decode cX11_bearOdds 71 = .ok (.ifCond .eq 29, 3) := by decide +kernel
theorem dX11_bearOdds_74 : decode cX11_bearOdds 74 = .ok (.aload_n 0, 1) := by decide +kernel
theorem dX11_bearOdds_75 : decode cX11_bearOdds 75 = .ok (.getfield 40, 3) := by decide +kernel
theorem dX11_bearOdds_78 : decode cX11_bearOdds 78 = .ok (.iload 8, 2) := by decide +kernel
theorem dX11_bearOdds_80 : decode cX11_bearOdds 80 = .ok (.invokevirtual 184, 3) := by decide +kernel
theorem dX11_bearOdds_83 : decode cX11_bearOdds 83 = .ok (.iload_n 3, 1) := by decide +kernel
theorem dX11_bearOdds_84 : decode cX11_bearOdds 84 = .ok (.if_icmp .lt 16, 3) := by decide +kernel
theorem dX11_bearOdds_87 : decode cX11_bearOdds 87 = .ok (.lload 6, 2) := by decide +kernel
theorem dX11_bearOdds_89 : decode cX11_bearOdds 89 = .ok (.aload_n 0, 1) := by decide +kernel
theorem dX11_bearOdds_90 : decode cX11_bearOdds 90 = .ok (.iload 8, 2) := by decide +kernel
theorem dX11_bearOdds_92 : decode cX11_bearOdds 92 = .ok (.iload 5, 2) := by decide +kernel
theorem dX11_bearOdds_94 : decode cX11_bearOdds 94 = .ok (.invokevirtual 294, 3) := by decide +kernel
theorem dX11_bearOdds_97 : decode cX11_bearOdds 97 = .ok (.ladd, 1) := by decide +kernel
theorem dX11_bearOdds_98 : decode cX11_bearOdds 98 = .ok (.lstore 6, 2) := by decide +kernel
theorem dX11_bearOdds_100 : decode cX11_bearOdds 100 = .ok (.iinc 8 1, 3) := by decide +kernel
theorem dX11_bearOdds_103 : decode cX11_bearOdds 103 = .ok (.goto (-46), 3) := by decide +kernel
theorem dX11_bearOdds_106 : decode cX11_bearOdds 106 = .ok (.aload_n 0, 1) := by decide +kernel
theorem dX11_bearOdds_107 : decode cX11_bearOdds 107 = .ok (.getfield 61, 3) := by decide +kernel
theorem dX11_bearOdds_110 : decode cX11_bearOdds 110 = .ok (.lload 6, 2) := by decide +kernel
theorem dX11_bearOdds_112 : decode cX11_bearOdds 112 = .ok (.ldc2_w 298, 3) := by decide +kernel
theorem dX11_bearOdds_115 : decode cX11_bearOdds 115 = .ok (.iload 5, 2) := by decide +kernel
theorem dX11_bearOdds_117 : decode cX11_bearOdds 117 = .ok (.invokestatic 214, 3) := by decide +kernel
theorem dX11_bearOdds_120 : decode cX11_bearOdds 120 = .ok (.invokestatic 300, 3) := by decide +kernel
theorem dX11_bearOdds_123 : decode cX11_bearOdds 123 = .ok (.invokevirtual 251, 3) := by decide +kernel
theorem dX11_bearOdds_126 : decode cX11_bearOdds 126 = .ok (.aload_n 0, 1) := by decide +kernel
theorem dX11_bearOdds_127 : decode cX11_bearOdds 127 = .ok (.getfield 61, 3) := by decide +kernel
theorem dX11_bearOdds_130 : decode cX11_bearOdds 130 = .ok (.iload 4, 2) := by decide +kernel
theorem dX11_bearOdds_132 : decode cX11_bearOdds 132 = .ok (.invokevirtual 255, 3) := by decide +kernel
theorem dX11_bearOdds_135 : decode cX11_bearOdds 135 = .ok (.lreturn, 1) := by decide +kernel
theorem dX11_mean_0 : decode cX11_mean 0 = .ok (.aload_n 0, 1) := by decide +kernel
theorem dX11_mean_1 : decode cX11_mean 1 = .ok (.aload_n 0, 1) := by decide +kernel
theorem dX11_mean_2 : decode cX11_mean 2 = .ok (.iload_n 1, 1) := by decide +kernel
theorem dX11_mean_3 : decode cX11_mean 3 = .ok (.iload_n 2, 1) := by decide +kernel
theorem dX11_mean_4 : decode cX11_mean 4 = .ok (.invokevirtual 167, 3) := by decide +kernel
theorem dX11_mean_7 : decode cX11_mean 7 = .ok (.invokevirtual 87, 3) := by decide +kernel
theorem dX11_mean_10 : decode cX11_mean 10 = .ok (.ifCond .eq 7, 3) := by decide +kernel
theorem dX11_mean_13 : decode cX11_mean 13 = .ok (.ldc2_w 241, 3) := by decide +kernel
theorem dX11_mean_16 : decode cX11_mean 16 = .ok (.lreturn, 1) := by decide +kernel
theorem dX11_mean_17 : decode cX11_mean 17 = .ok (.aload_n 0, 1) := by decide +kernel
theorem dX11_mean_18 : decode cX11_mean 18 = .ok (.iconst 0, 1) := by decide +kernel
theorem dX11_mean_19 : decode cX11_mean 19 = .ok (.invokevirtual 145, 3) := by decide +kernel
theorem dX11_mean_22 : decode cX11_mean 22 = .ok (.aload_n 0, 1) := by decide +kernel
theorem dX11_mean_23 : decode cX11_mean 23 = .ok (.getfield 40, 3) := by decide +kernel
theorem dX11_mean_26 : decode cX11_mean 26 = .ok (.iload_n 1, 1) := by decide +kernel
theorem dX11_mean_27 : decode cX11_mean 27 = .ok (.iload_n 2, 1) := by decide +kernel
theorem dX11_mean_28 : decode cX11_mean 28 = .ok (.invokevirtual 173, 3) := by decide +kernel
theorem dX11_mean_31 : decode cX11_mean 31 = .ok (.aload_n 0, 1) := by decide +kernel
theorem dX11_mean_32 : decode cX11_mean 32 = .ok (.getfield 40, 3) := by decide +kernel
theorem dX11_mean_35 : decode cX11_mean 35 = .ok (.invokevirtual 161, 3) := by decide +kernel
theorem dX11_mean_38 : decode cX11_mean 38 = .ok (.istore 4, 2) := by decide +kernel
theorem dX11_mean_40 : decode cX11_mean 40 = .ok (.lconst 0, 1) := by decide +kernel
theorem dX11_mean_41 : decode cX11_mean 41 = .ok (.lstore 5, 2) := by decide +kernel
theorem dX11_mean_43 : decode cX11_mean 43 = .ok (.iconst 0, 1) := by decide +kernel
theorem dX11_mean_44 : decode cX11_mean 44 = .ok (.istore 7, 2) := by decide +kernel
theorem dX11_mean_46 : decode cX11_mean 46 = .ok (.iload 7, 2) := by decide +kernel
theorem dX11_mean_48 : decode cX11_mean 48 = .ok (.iload 4, 2) := by decide +kernel
theorem dX11_mean_50 : decode cX11_mean 50 = .ok (.if_icmp .gt 43, 3) := by decide +kernel
theorem dX11_mean_53 : decode cX11_mean 53 = .ok (.iload 7, 2) := by decide +kernel
theorem dX11_mean_55 : decode cX11_mean 55 = .ok (.iload 4, 2) := by decide +kernel
theorem dX11_mean_57 : decode cX11_mean 57 = .ok (.invokestatic 229, 3) := by decide +kernel
theorem dX11_mean_60 : decode cX11_mean 60 = .ok (.ifCond .eq 27, 3) := by decide +kernel
theorem dX11_mean_63 : decode cX11_mean 63 = .ok (.lload 5, 2) := by decide +kernel
theorem dX11_mean_65 : decode cX11_mean 65 = .ok (.aload_n 0, 1) := by decide +kernel
theorem dX11_mean_66 : decode cX11_mean 66 = .ok (.getfield 40, 3) := by decide +kernel
theorem dX11_mean_69 : decode cX11_mean 69 = .ok (.iload 7, 2) := by decide +kernel
theorem dX11_mean_71 : decode cX11_mean 71 = .ok (.invokevirtual 184, 3) := by decide +kernel
theorem dX11_mean_74 : decode cX11_mean 74 = .ok (.i2l, 1) := by decide +kernel
theorem dX11_mean_75 : decode cX11_mean 75 = .ok (.aload_n 0, 1) := by decide +kernel
theorem dX11_mean_76 : decode cX11_mean 76 = .ok (.iload 7, 2) := by decide +kernel
theorem dX11_mean_78 : decode cX11_mean 78 = .ok (.iload 4, 2) := by decide +kernel
theorem dX11_mean_80 : decode cX11_mean 80 = .ok (.invokevirtual 294, 3) := by decide +kernel
theorem dX11_mean_83 : decode cX11_mean 83 = .ok (.lmul, 1) := by decide +kernel
theorem dX11_mean_84 : decode cX11_mean 84 = .ok (.ladd, 1) := by decide +kernel
theorem dX11_mean_85 : decode cX11_mean 85 = .ok (.lstore 5, 2) := by decide +kernel
theorem dX11_mean_87 : decode cX11_mean 87 = .ok (.iinc 7 1, 3) := by decide +kernel
theorem dX11_mean_90 : decode cX11_mean 90 = .ok (.goto (-44), 3) := by decide +kernel
theorem dX11_mean_93 : decode cX11_mean 93 = .ok (.aload_n 0, 1) := by decide +kernel
theorem dX11_mean_94 : decode cX11_mean 94 = .ok (.getfield 61, 3) := by decide +kernel
theorem dX11_mean_97 : decode cX11_mean 97 = .ok (.lload 5, 2) := by decide +kernel
theorem dX11_mean_99 : decode cX11_mean 99 = .ok (.ldc2_w 298, 3) := by decide +kernel
theorem dX11_mean_102 : decode cX11_mean 102 = .ok (.iload 4, 2) := by decide +kernel
theorem dX11_mean_104 : decode cX11_mean 104 = .ok (.invokestatic 214, 3) := by decide +kernel
theorem dX11_mean_107 : decode cX11_mean 107 = .ok (.invokestatic 300, 3) := by decide +kernel
theorem dX11_mean_110 : decode cX11_mean 110 = .ok (.invokevirtual 251, 3) := by decide +kernel
theorem dX11_mean_113 : decode cX11_mean 113 = .ok (.aload_n 0, 1) := by decide +kernel
theorem dX11_mean_114 : decode cX11_mean 114 = .ok (.getfield 61, 3) := by decide +kernel
theorem dX11_mean_117 : decode cX11_mean 117 = .ok (.iload_n 3, 1) := by decide +kernel
theorem dX11_mean_118 : decode cX11_mean 118 = .ok (.invokevirtual 255, 3) := by decide +kernel
theorem dX11_mean_121 : decode cX11_mean 121 = .ok (.lreturn, 1) := by decide +kernel
theorem dX11_years_0 : decode cX11_years 0 = .ok (.aload_n 0, 1) := by decide +kernel
theorem dX11_years_1 : decode cX11_years 1 = .ok (.aload_n 0, 1) := by decide +kernel
theorem dX11_years_2 : decode cX11_years 2 = .ok (.invokevirtual 157, 3) := by decide +kernel
theorem dX11_years_5 : decode cX11_years 5 = .ok (.iload_n 1, 1) := by decide +kernel
theorem dX11_years_6 : decode cX11_years 6 = .ok (.iconst 0, 1) := by decide +kernel
theorem dX11_years_7 : decode cX11_years 7 = .ok (.ldc_w 304, 3) := by decide +kernel
theorem dX11_years_10 : decode cX11_years 10 = .ok (.invokestatic 83, 3) := by decide +kernel
theorem dX11_years_13 : decode cX11_years 13 = .ok (.iload_n 2, 1) := by decide +kernel
theorem dX11_years_14 : decode cX11_years 14 = .ok (.invokestatic 154, 3) := by decide +kernel
theorem dX11_years_17 : decode cX11_years 17 = .ok (.invokestatic 126, 3) := by decide +kernel
theorem dX11_years_20 : decode cX11_years 20 = .ok (.invokestatic 126, 3) := by decide +kernel
theorem dX11_years_23 : decode cX11_years 23 = .ok (.invokevirtual 87, 3) := by decide +kernel
theorem dX11_years_26 : decode cX11_years 26 = .ok (.ifCond .eq 5, 3) := by decide +kernel
theorem dX11_years_29 : decode cX11_years 29 = .ok (.iconst (-1), 1) := by decide +kernel
theorem dX11_years_30 : decode cX11_years 30 = .ok (.ireturn, 1) := by decide +kernel
theorem dX11_years_31 : decode cX11_years 31 = .ok (.aload_n 0, 1) := by decide +kernel
theorem dX11_years_32 : decode cX11_years 32 = .ok (.getfield 54, 3) := by decide +kernel
theorem dX11_years_35 : decode cX11_years 35 = .ok (.iload_n 1, 1) := by decide +kernel
theorem dX11_years_36 : decode cX11_years 36 = .ok (.invokevirtual 305, 3) := by decide +kernel
theorem dX11_years_39 : decode cX11_years 39 = .ok (.iconst 1, 1) := by decide +kernel
theorem dX11_years_40 : decode cX11_years 40 = .ok (.istore_n 3, 1) := by decide +kernel
theorem dX11_years_41 : decode cX11_years 41 = .ok (.iload_n 3, 1) := by decide +kernel
theorem dX11_years_42 : decode cX11_years 42 = .ok (.iload_n 2, 1) := by decide +kernel
theorem dX11_years_43 : decode cX11_years 43 = .ok (.if_icmp .gt 28, 3) := by decide +kernel
theorem dX11_years_46 : decode cX11_years 46 = .ok (.aload_n 0, 1) := by decide +kernel
theorem dX11_years_47 : decode cX11_years 47 = .ok (.getfield 54, 3) := by decide +kernel
theorem dX11_years_50 : decode cX11_years 50 = .ok (.aload_n 0, 1) := by decide +kernel
theorem dX11_years_51 : decode cX11_years 51 = .ok (.getfield 26, 3) := by decide +kernel
theorem dX11_years_54 : decode cX11_years 54 = .ok (.iload_n 3, 1) := by decide +kernel
theorem dX11_years_55 : decode cX11_years 55 = .ok (.aload_n 0, 1) := by decide +kernel
theorem dX11_years_56 : decode cX11_years 56 = .ok (.getfield 19, 3) := by decide +kernel
theorem dX11_years_59 : decode cX11_years 59 = .ok (.invokevirtual 307, 3) := by decide +kernel
theorem dX11_years_62 : decode cX11_years 62 = .ok (.invokevirtual 310, 3) := by decide +kernel
theorem dX11_years_65 : decode cX11_years 65 = .ok (.iinc 3 1, 3) := by decide +kernel
theorem dX11_years_68 : decode cX11_years 68 = .ok (.goto (-27), 3) := by decide +kernel
theorem dX11_years_71 : decode cX11_years 71 = .ok (.aload_n 0, 1) := by decide +kernel
theorem dX11_years_72 : decode cX11_years 72 = .ok (.iload_n 2, 1) := by decide +kernel
theorem dX11_years_73 : decode cX11_years 73 = .ok (.invokevirtual 145, 3) := by decide +kernel
theorem dX11_years_76 : decode cX11_years 76 = .ok (.aload_n 0, 1) := by decide +kernel
theorem dX11_years_77 : decode cX11_years 77 = .ok (.getfield 40, 3) := by decide +kernel
theorem dX11_years_80 : decode cX11_years 80 = .ok (.invokevirtual 161, 3) := by decide +kernel
theorem dX11_years_83 : decode cX11_years 83 = .ok (.aload_n 0, 1) := by decide +kernel
theorem dX11_years_84 : decode cX11_years 84 = .ok (.getfield 54, 3) := by decide +kernel
theorem dX11_years_87 : decode cX11_years 87 = .ok (.getfield 314, 3) := by decide +kernel
theorem dX11_years_90 : decode cX11_years 90 = .ok (.iconst (-1), 1) := by decide +kernel
theorem dX11_years_91 : decode cX11_years 91 = .ok (.ixor, 1) := by decide +kernel
theorem dX11_years_92 : decode cX11_years 92 = .ok (.iand, 1) := by decide +kernel
theorem dX11_years_93 : decode cX11_years 93 = .ok (.ireturn, 1) := by decide +kernel
theorem dX11_fallsBy_0 : decode cX11_fallsBy 0 = .ok (.aload_n 0, 1) := by decide +kernel
theorem dX11_fallsBy_1 : decode cX11_fallsBy 1 = .ok (.aload_n 0, 1) := by decide +kernel
theorem dX11_fallsBy_2 : decode cX11_fallsBy 2 = .ok (.iload_n 1, 1) := by decide +kernel
theorem dX11_fallsBy_3 : decode cX11_fallsBy 3 = .ok (.invokevirtual 196, 3) := by decide +kernel
theorem dX11_fallsBy_6 : decode cX11_fallsBy 6 = .ok (.iload_n 2, 1) := by decide +kernel
theorem dX11_fallsBy_7 : decode cX11_fallsBy 7 = .ok (.iconst 0, 1) := by decide +kernel
theorem dX11_fallsBy_8 : decode cX11_fallsBy 8 = .ok (.ldc_w 304, 3) := by decide +kernel
theorem dX11_fallsBy_11 : decode cX11_fallsBy 11 = .ok (.invokestatic 83, 3) := by decide +kernel
theorem dX11_fallsBy_14 : decode cX11_fallsBy 14 = .ok (.iload_n 3, 1) := by decide +kernel
theorem dX11_fallsBy_15 : decode cX11_fallsBy 15 = .ok (.invokestatic 154, 3) := by decide +kernel
theorem dX11_fallsBy_18 : decode cX11_fallsBy 18 = .ok (.invokestatic 126, 3) := by decide +kernel
theorem dX11_fallsBy_21 : decode cX11_fallsBy 21 = .ok (.invokestatic 126, 3) := by decide +kernel
theorem dX11_fallsBy_24 : decode cX11_fallsBy 24 = .ok (.invokevirtual 87, 3) := by decide +kernel
theorem dX11_fallsBy_27 : decode cX11_fallsBy 27 = .ok (.ifCond .eq 5, 3) := by decide +kernel
theorem dX11_fallsBy_30 : decode cX11_fallsBy 30 = .ok (.iconst (-1), 1) := by decide +kernel
theorem dX11_fallsBy_31 : decode cX11_fallsBy 31 = .ok (.ireturn, 1) := by decide +kernel
theorem dX11_fallsBy_32 : decode cX11_fallsBy 32 = .ok (.aload_n 0, 1) := by decide +kernel
theorem dX11_fallsBy_33 : decode cX11_fallsBy 33 = .ok (.iconst 0, 1) := by decide +kernel
theorem dX11_fallsBy_34 : decode cX11_fallsBy 34 = .ok (.invokevirtual 145, 3) := by decide +kernel
theorem dX11_fallsBy_37 : decode cX11_fallsBy 37 = .ok (.aload_n 0, 1) := by decide +kernel
theorem dX11_fallsBy_38 : decode cX11_fallsBy 38 = .ok (.iload_n 1, 1) := by decide +kernel
theorem dX11_fallsBy_39 : decode cX11_fallsBy 39 = .ok (.invokevirtual 199, 3) := by decide +kernel
theorem dX11_fallsBy_42 : decode cX11_fallsBy 42 = .ok (.aload_n 0, 1) := by decide +kernel
theorem dX11_fallsBy_43 : decode cX11_fallsBy 43 = .ok (.getfield 54, 3) := by decide +kernel
theorem dX11_fallsBy_46 : decode cX11_fallsBy 46 = .ok (.iload_n 2, 1) := by decide +kernel
theorem dX11_fallsBy_47 : decode cX11_fallsBy 47 = .ok (.invokevirtual 305, 3) := by decide +kernel
theorem dX11_fallsBy_50 : decode cX11_fallsBy 50 = .ok (.iconst 1, 1) := by decide +kernel
theorem dX11_fallsBy_51 : decode cX11_fallsBy 51 = .ok (.istore 4, 2) := by decide +kernel
theorem dX11_fallsBy_53 : decode cX11_fallsBy 53 = .ok (.iload 4, 2) := by decide +kernel
theorem dX11_fallsBy_55 : decode cX11_fallsBy 55 = .ok (.iload_n 3, 1) := by decide +kernel
theorem dX11_fallsBy_56 : decode cX11_fallsBy 56 = .ok (.if_icmp .gt 82, 3) := by decide +kernel
theorem dX11_fallsBy_59 : decode cX11_fallsBy 59 = .ok (.aload_n 0, 1) := by decide +kernel
theorem dX11_fallsBy_60 : decode cX11_fallsBy 60 = .ok (.getfield 54, 3) := by decide +kernel
theorem dX11_fallsBy_63 : decode cX11_fallsBy 63 = .ok (.aload_n 0, 1) := by decide +kernel
theorem dX11_fallsBy_64 : decode cX11_fallsBy 64 = .ok (.getfield 26, 3) := by decide +kernel
theorem dX11_fallsBy_67 : decode cX11_fallsBy 67 = .ok (.iload 4, 2) := by decide +kernel
theorem dX11_fallsBy_69 : decode cX11_fallsBy 69 = .ok (.aload_n 0, 1) := by decide +kernel
theorem dX11_fallsBy_70 : decode cX11_fallsBy 70 = .ok (.getfield 19, 3) := by decide +kernel
theorem dX11_fallsBy_73 : decode cX11_fallsBy 73 = .ok (.invokevirtual 307, 3) := by decide +kernel
theorem dX11_fallsBy_76 : decode cX11_fallsBy 76 = .ok (.invokevirtual 310, 3) := by decide +kernel
theorem dX11_fallsBy_79 : decode cX11_fallsBy 79 = .ok (.aload_n 0, 1) := by decide +kernel
theorem dX11_fallsBy_80 : decode cX11_fallsBy 80 = .ok (.getfield 40, 3) := by decide +kernel
theorem dX11_fallsBy_83 : decode cX11_fallsBy 83 = .ok (.aload_n 0, 1) := by decide +kernel
theorem dX11_fallsBy_84 : decode cX11_fallsBy 84 = .ok (.getfield 26, 3) := by decide +kernel
theorem dX11_fallsBy_87 : decode cX11_fallsBy 87 = .ok (.iload 4, 2) := by decide +kernel
theorem dX11_fallsBy_89 : decode cX11_fallsBy 89 = .ok (.invokevirtual 202, 3) := by decide +kernel
theorem dX11_fallsBy_92 : decode cX11_fallsBy 92 = .ok (.aload_n 0, 1) := by decide +kernel
theorem dX11_fallsBy_93 : decode cX11_fallsBy 93 = .ok (.getfield 40, 3) := by decide +kernel
theorem dX11_fallsBy_96 : decode cX11_fallsBy 96 = .ok (.aload_n 0, 1) := by decide +kernel
theorem dX11_fallsBy_97 : decode cX11_fallsBy 97 = .ok (.getfield 40, 3) := by decide +kernel
theorem dX11_fallsBy_100 : decode cX11_fallsBy 100 = .ok (.invokevirtual 161, 3) := by decide +kernel
theorem dX11_fallsBy_103 : decode cX11_fallsBy 103 = .ok (.aload_n 0, 1) := by decide +kernel
theorem dX11_fallsBy_104 : decode cX11_fallsBy 104 = .ok (.getfield 54, 3) := by decide +kernel
theorem dX11_fallsBy_107 : decode cX11_fallsBy 107 = .ok (.getfield 314, 3) := by decide +kernel
theorem dX11_fallsBy_110 : decode cX11_fallsBy 110 = .ok (.iconst (-1), 1) := by decide +kernel
theorem dX11_fallsBy_111 : decode cX11_fallsBy 111 = .ok (.ixor, 1) := by decide +kernel
theorem dX11_fallsBy_112 : decode cX11_fallsBy 112 = .ok (.iand, 1) := by decide +kernel
theorem dX11_fallsBy_113 : decode cX11_fallsBy 113 = .ok (.invokevirtual 184, 3) := by decide +kernel
theorem dX11_fallsBy_116 : decode cX11_fallsBy 116 = .ok (.aload_n 0, 1) := by decide +kernel
theorem dX11_fallsBy_117 : decode cX11_fallsBy 117 = .ok (.getfield 19, 3) := by decide +kernel
theorem dX11_fallsBy_120 : decode cX11_fallsBy 120 = .ok (.iconst 4, 1) := by decide +kernel
theorem dX11_fallsBy_121 : decode cX11_fallsBy 121 = .ok (.iload_n 1, 1) := by decide +kernel
theorem dX11_fallsBy_122 : decode cX11_fallsBy 122 = .ok (.iconst 2, 1) := by decide +kernel
theorem dX11_fallsBy_123 : decode cX11_fallsBy 123 = .ok (.invokevirtual 206, 3) := by decide +kernel
theorem dX11_fallsBy_126 : decode cX11_fallsBy 126 = .ok (.if_icmp .ge 6, 3) := by decide +kernel
theorem dX11_fallsBy_129 : decode cX11_fallsBy 129 = .ok (.iload 4, 2) := by decide +kernel
theorem dX11_fallsBy_131 : decode cX11_fallsBy 131 = .ok (.ireturn, 1) := by decide +kernel
theorem dX11_fallsBy_132 : decode cX11_fallsBy 132 = .ok (.iinc 4 1, 3) := by decide +kernel
theorem dX11_fallsBy_135 : decode cX11_fallsBy 135 = .ok (.goto (-82), 3) := by decide +kernel
theorem dX11_fallsBy_138 : decode cX11_fallsBy 138 = .ok (.bipush (-2), 2) := by decide +kernel
theorem dX11_fallsBy_140 : decode cX11_fallsBy 140 = .ok (.ireturn, 1) := by decide +kernel
theorem dX11_year_0 : decode cX11_year 0 = .ok (.aload_n 0, 1) := by decide +kernel
theorem dX11_year_1 : decode cX11_year 1 = .ok (.aload_n 0, 1) := by decide +kernel
theorem dX11_year_2 : decode cX11_year 2 = .ok (.invokevirtual 157, 3) := by decide +kernel
theorem dX11_year_5 : decode cX11_year 5 = .ok (.aload_n 0, 1) := by decide +kernel
theorem dX11_year_6 : decode cX11_year 6 = .ok (.getfield 26, 3) := by decide +kernel
theorem dX11_year_9 : decode cX11_year 9 = .ok (.invokevirtual 317, 3) := by decide +kernel
theorem dX11_year_12 : decode cX11_year 12 = .ok (.sipush 999, 3) := by decide +kernel
theorem dX11_year_15 : decode cX11_year 15 = .ok (.if_icmp .ge 7, 3) := by decide +kernel
theorem dX11_year_18 : decode cX11_year 18 = .ok (.iconst 0, 1) := by decide +kernel
theorem dX11_year_19 : decode cX11_year 19 = .ok (.goto 4, 3) := by decide +kernel
theorem dX11_year_22 : decode cX11_year 22 = .ok (.iconst 3, 1) := by decide +kernel
theorem dX11_year_23 : decode cX11_year 23 = .ok (.invokestatic 126, 3) := by decide +kernel
theorem dX11_year_26 : decode cX11_year 26 = .ok (.invokevirtual 87, 3) := by decide +kernel
theorem dX11_year_29 : decode cX11_year 29 = .ok (.ifCond .eq 5, 3) := by decide +kernel
theorem dX11_year_32 : decode cX11_year 32 = .ok (.iconst (-1), 1) := by decide +kernel
theorem dX11_year_33 : decode cX11_year 33 = .ok (.ireturn, 1) := by decide +kernel
theorem dX11_year_34 : decode cX11_year 34 = .ok (.aload_n 0, 1) := by decide +kernel
theorem dX11_year_35 : decode cX11_year 35 = .ok (.iconst 0, 1) := by decide +kernel
theorem dX11_year_36 : decode cX11_year 36 = .ok (.invokevirtual 145, 3) := by decide +kernel
theorem dX11_year_39 : decode cX11_year 39 = .ok (.aload_n 0, 1) := by decide +kernel
theorem dX11_year_40 : decode cX11_year 40 = .ok (.getfield 40, 3) := by decide +kernel
theorem dX11_year_43 : decode cX11_year 43 = .ok (.invokevirtual 161, 3) := by decide +kernel
theorem dX11_year_46 : decode cX11_year 46 = .ok (.istore_n 1, 1) := by decide +kernel
theorem dX11_year_47 : decode cX11_year 47 = .ok (.aload_n 0, 1) := by decide +kernel
theorem dX11_year_48 : decode cX11_year 48 = .ok (.getfield 33, 3) := by decide +kernel
theorem dX11_year_51 : decode cX11_year 51 = .ok (.aload_n 0, 1) := by decide +kernel
theorem dX11_year_52 : decode cX11_year 52 = .ok (.getfield 26, 3) := by decide +kernel
theorem dX11_year_55 : decode cX11_year 55 = .ok (.invokevirtual 320, 3) := by decide +kernel
theorem dX11_year_58 : decode cX11_year 58 = .ok (.aload_n 0, 1) := by decide +kernel
theorem dX11_year_59 : decode cX11_year 59 = .ok (.getfield 26, 3) := by decide +kernel
theorem dX11_year_62 : decode cX11_year 62 = .ok (.invokevirtual 324, 3) := by decide +kernel
theorem dX11_year_65 : decode cX11_year 65 = .ok (.aload_n 0, 1) := by decide +kernel
theorem dX11_year_66 : decode cX11_year 66 = .ok (.iconst 0, 1) := by decide +kernel
theorem dX11_year_67 : decode cX11_year 67 = .ok (.invokevirtual 145, 3) := by decide +kernel
theorem dX11_year_70 : decode cX11_year 70 = .ok (.iload_n 1, 1) := by decide +kernel
theorem dX11_year_71 : decode cX11_year 71 = .ok (.aload_n 0, 1) := by decide +kernel
theorem dX11_year_72 : decode cX11_year 72 = .ok (.getfield 40, 3) := by decide +kernel
theorem dX11_year_75 : decode cX11_year 75 = .ok (.invokevirtual 161, 3) := by decide +kernel
theorem dX11_year_78 : decode cX11_year 78 = .ok (.iconst (-1), 1) := by decide +kernel
theorem dX11_year_79 : decode cX11_year 79 = .ok (.ixor, 1) := by decide +kernel
theorem dX11_year_80 : decode cX11_year 80 = .ok (.iand, 1) := by decide +kernel
theorem dX11_year_81 : decode cX11_year 81 = .ok (.ireturn, 1) := by decide +kernel
theorem dX11_snap_0 : decode cX11_snap 0 = .ok (.aload_n 0, 1) := by decide +kernel
theorem dX11_snap_1 : decode cX11_snap 1 = .ok (.aload_n 0, 1) := by decide +kernel
theorem dX11_snap_2 : decode cX11_snap 2 = .ok (.iload_n 1, 1) := by decide +kernel
theorem dX11_snap_3 : decode cX11_snap 3 = .ok (.invokevirtual 123, 3) := by decide +kernel
theorem dX11_snap_6 : decode cX11_snap 6 = .ok (.aload_n 0, 1) := by decide +kernel
theorem dX11_snap_7 : decode cX11_snap 7 = .ok (.getfield 26, 3) := by decide +kernel
theorem dX11_snap_10 : decode cX11_snap 10 = .ok (.iload_n 1, 1) := by decide +kernel
theorem dX11_snap_11 : decode cX11_snap 11 = .ok (.iconst 0, 1) := by decide +kernel
theorem dX11_snap_12 : decode cX11_snap 12 = .ok (.invokevirtual 130, 3) := by decide +kernel
theorem dX11_snap_15 : decode cX11_snap 15 = .ok (.ifCond .le 7, 3) := by decide +kernel
theorem dX11_snap_18 : decode cX11_snap 18 = .ok (.iconst 0, 1) := by decide +kernel
theorem dX11_snap_19 : decode cX11_snap 19 = .ok (.goto 4, 3) := by decide +kernel
theorem dX11_snap_22 : decode cX11_snap 22 = .ok (.iconst 5, 1) := by decide +kernel
theorem dX11_snap_23 : decode cX11_snap 23 = .ok (.invokestatic 126, 3) := by decide +kernel
theorem dX11_snap_26 : decode cX11_snap 26 = .ok (.invokevirtual 87, 3) := by decide +kernel
theorem dX11_snap_29 : decode cX11_snap 29 = .ok (.ifCond .eq 5, 3) := by decide +kernel
theorem dX11_snap_32 : decode cX11_snap 32 = .ok (.iconst 0, 1) := by decide +kernel
theorem dX11_snap_33 : decode cX11_snap 33 = .ok (.ireturn, 1) := by decide +kernel
theorem dX11_snap_34 : decode cX11_snap 34 = .ok (.aload_n 0, 1) := by decide +kernel
theorem dX11_snap_35 : decode cX11_snap 35 = .ok (.getfield 33, 3) := by decide +kernel
theorem dX11_snap_38 : decode cX11_snap 38 = .ok (.aload_n 0, 1) := by decide +kernel
theorem dX11_snap_39 : decode cX11_snap 39 = .ok (.getfield 26, 3) := by decide +kernel
theorem dX11_snap_42 : decode cX11_snap 42 = .ok (.invokevirtual 320, 3) := by decide +kernel
theorem dX11_snap_45 : decode cX11_snap 45 = .ok (.aload_n 0, 1) := by decide +kernel
theorem dX11_snap_46 : decode cX11_snap 46 = .ok (.getfield 26, 3) := by decide +kernel
theorem dX11_snap_49 : decode cX11_snap 49 = .ok (.iload_n 1, 1) := by decide +kernel
theorem dX11_snap_50 : decode cX11_snap 50 = .ok (.invokevirtual 326, 3) := by decide +kernel
theorem dX11_snap_53 : decode cX11_snap 53 = .ok (.iconst 1, 1) := by decide +kernel
theorem dX11_snap_54 : decode cX11_snap 54 = .ok (.ireturn, 1) := by decide +kernel
theorem dX11_spin_0 : decode cX11_spin 0 = .ok (.aload_n 0, 1) := by decide +kernel
theorem dX11_spin_1 : decode cX11_spin 1 = .ok (.aload_n 0, 1) := by decide +kernel
theorem dX11_spin_2 : decode cX11_spin 2 = .ok (.iconst 5, 1) := by decide +kernel
theorem dX11_spin_3 : decode cX11_spin 3 = .ok (.iload_n 1, 1) := by decide +kernel
theorem dX11_spin_4 : decode cX11_spin 4 = .ok (.invokevirtual 238, 3) := by decide +kernel
theorem dX11_spin_7 : decode cX11_spin 7 = .ok (.aload_n 0, 1) := by decide +kernel
theorem dX11_spin_8 : decode cX11_spin 8 = .ok (.getfield 26, 3) := by decide +kernel
theorem dX11_spin_11 : decode cX11_spin 11 = .ok (.invokevirtual 164, 3) := by decide +kernel
theorem dX11_spin_14 : decode cX11_spin 14 = .ok (.bipush 8, 2) := by decide +kernel
theorem dX11_spin_16 : decode cX11_spin 16 = .ok (.if_icmp .ge 7, 3) := by decide +kernel
theorem dX11_spin_19 : decode cX11_spin 19 = .ok (.iconst 0, 1) := by decide +kernel
theorem dX11_spin_20 : decode cX11_spin 20 = .ok (.goto 4, 3) := by decide +kernel
theorem dX11_spin_23 : decode cX11_spin 23 = .ok (.iconst 3, 1) := by decide +kernel
theorem dX11_spin_24 : decode cX11_spin 24 = .ok (.invokestatic 126, 3) := by decide +kernel
theorem dX11_spin_27 : decode cX11_spin 27 = .ok (.invokevirtual 87, 3) := by decide +kernel
theorem dX11_spin_30 : decode cX11_spin 30 = .ok (.ifCond .eq 5, 3) := by decide +kernel
theorem dX11_spin_33 : decode cX11_spin 33 = .ok (.iconst (-1), 1) := by decide +kernel
theorem dX11_spin_34 : decode cX11_spin 34 = .ok (.ireturn, 1) := by decide +kernel
theorem dX11_spin_35 : decode cX11_spin 35 = .ok (.aload_n 0, 1) := by decide +kernel
theorem dX11_spin_36 : decode cX11_spin 36 = .ok (.getfield 33, 3) := by decide +kernel
theorem dX11_spin_39 : decode cX11_spin 39 = .ok (.aload_n 0, 1) := by decide +kernel
theorem dX11_spin_40 : decode cX11_spin 40 = .ok (.getfield 26, 3) := by decide +kernel
theorem dX11_spin_43 : decode cX11_spin 43 = .ok (.invokevirtual 320, 3) := by decide +kernel
theorem dX11_spin_46 : decode cX11_spin 46 = .ok (.aload_n 0, 1) := by decide +kernel
theorem dX11_spin_47 : decode cX11_spin 47 = .ok (.getfield 26, 3) := by decide +kernel
theorem dX11_spin_50 : decode cX11_spin 50 = .ok (.aload_n 0, 1) := by decide +kernel
theorem dX11_spin_51 : decode cX11_spin 51 = .ok (.getfield 19, 3) := by decide +kernel
theorem dX11_spin_54 : decode cX11_spin 54 = .ok (.iconst 5, 1) := by decide +kernel
theorem dX11_spin_55 : decode cX11_spin 55 = .ok (.iload_n 1, 1) := by decide +kernel
theorem dX11_spin_56 : decode cX11_spin 56 = .ok (.iconst 0, 1) := by decide +kernel
theorem dX11_spin_57 : decode cX11_spin 57 = .ok (.invokevirtual 206, 3) := by decide +kernel
theorem dX11_spin_60 : decode cX11_spin 60 = .ok (.aload_n 0, 1) := by decide +kernel
theorem dX11_spin_61 : decode cX11_spin 61 = .ok (.getfield 19, 3) := by decide +kernel
theorem dX11_spin_64 : decode cX11_spin 64 = .ok (.iconst 5, 1) := by decide +kernel
theorem dX11_spin_65 : decode cX11_spin 65 = .ok (.iload_n 1, 1) := by decide +kernel
theorem dX11_spin_66 : decode cX11_spin 66 = .ok (.iconst 1, 1) := by decide +kernel
theorem dX11_spin_67 : decode cX11_spin 67 = .ok (.invokevirtual 206, 3) := by decide +kernel
theorem dX11_spin_70 : decode cX11_spin 70 = .ok (.aload_n 0, 1) := by decide +kernel
theorem dX11_spin_71 : decode cX11_spin 71 = .ok (.getfield 19, 3) := by decide +kernel
theorem dX11_spin_74 : decode cX11_spin 74 = .ok (.iconst 5, 1) := by decide +kernel
theorem dX11_spin_75 : decode cX11_spin 75 = .ok (.iload_n 1, 1) := by decide +kernel
theorem dX11_spin_76 : decode cX11_spin 76 = .ok (.iconst 2, 1) := by decide +kernel
theorem dX11_spin_77 : decode cX11_spin 77 = .ok (.invokevirtual 206, 3) := by decide +kernel
theorem dX11_spin_80 : decode cX11_spin 80 = .ok (.invokevirtual 329, 3) := by decide +kernel
theorem dX11_spin_83 : decode cX11_spin 83 = .ok (.aload_n 0, 1) := by decide +kernel
theorem dX11_spin_84 : decode cX11_spin 84 = .ok (.getfield 26, 3) := by decide +kernel
theorem dX11_spin_87 : decode cX11_spin 87 = .ok (.invokevirtual 164, 3) := by decide +kernel
theorem dX11_spin_90 : decode cX11_spin 90 = .ok (.iconst 1, 1) := by decide +kernel
theorem dX11_spin_91 : decode cX11_spin 91 = .ok (.isub, 1) := by decide +kernel
theorem dX11_spin_92 : decode cX11_spin 92 = .ok (.ireturn, 1) := by decide +kernel
theorem dX11_darn_0 : decode cX11_darn 0 = .ok (.aload_n 0, 1) := by decide +kernel
theorem dX11_darn_1 : decode cX11_darn 1 = .ok (.aload_n 0, 1) := by decide +kernel
theorem dX11_darn_2 : decode cX11_darn 2 = .ok (.iload_n 1, 1) := by decide +kernel
theorem dX11_darn_3 : decode cX11_darn 3 = .ok (.invokevirtual 123, 3) := by decide +kernel
theorem dX11_darn_6 : decode cX11_darn 6 = .ok (.aload_n 0, 1) := by decide +kernel
theorem dX11_darn_7 : decode cX11_darn 7 = .ok (.getfield 26, 3) := by decide +kernel
theorem dX11_darn_10 : decode cX11_darn 10 = .ok (.iload_n 1, 1) := by decide +kernel
theorem dX11_darn_11 : decode cX11_darn 11 = .ok (.invokevirtual 133, 3) := by decide +kernel
theorem dX11_darn_14 : decode cX11_darn 14 = .ok (.ifCond .ne 14, 3) := by decide +kernel
theorem dX11_darn_17 : decode cX11_darn 17 = .ok (.aload_n 0, 1) := by decide +kernel
theorem dX11_darn_18 : decode cX11_darn 18 = .ok (.getfield 26, 3) := by decide +kernel
theorem dX11_darn_21 : decode cX11_darn 21 = .ok (.iload_n 1, 1) := by decide +kernel
theorem dX11_darn_22 : decode cX11_darn 22 = .ok (.invokevirtual 333, 3) := by decide +kernel
theorem dX11_darn_25 : decode cX11_darn 25 = .ok (.ifCond .le 7, 3) := by decide +kernel
theorem dX11_darn_28 : decode cX11_darn 28 = .ok (.iconst 0, 1) := by decide +kernel
theorem dX11_darn_29 : decode cX11_darn 29 = .ok (.goto 4, 3) := by decide +kernel
theorem dX11_darn_32 : decode cX11_darn 32 = .ok (.iconst 5, 1) := by decide +kernel
theorem dX11_darn_33 : decode cX11_darn 33 = .ok (.invokestatic 126, 3) := by decide +kernel
theorem dX11_darn_36 : decode cX11_darn 36 = .ok (.invokevirtual 87, 3) := by decide +kernel
theorem dX11_darn_39 : decode cX11_darn 39 = .ok (.ifCond .eq 5, 3) := by decide +kernel
theorem dX11_darn_42 : decode cX11_darn 42 = .ok (.iconst (-1), 1) := by decide +kernel
theorem dX11_darn_43 : decode cX11_darn 43 = .ok (.ireturn, 1) := by decide +kernel
theorem dX11_darn_44 : decode cX11_darn 44 = .ok (.aload_n 0, 1) := by decide +kernel
theorem dX11_darn_45 : decode cX11_darn 45 = .ok (.getfield 33, 3) := by decide +kernel
theorem dX11_darn_48 : decode cX11_darn 48 = .ok (.aload_n 0, 1) := by decide +kernel
theorem dX11_darn_49 : decode cX11_darn 49 = .ok (.getfield 26, 3) := by decide +kernel
theorem dX11_darn_52 : decode cX11_darn 52 = .ok (.invokevirtual 320, 3) := by decide +kernel
theorem dX11_darn_55 : decode cX11_darn 55 = .ok (.aload_n 0, 1) := by decide +kernel
theorem dX11_darn_56 : decode cX11_darn 56 = .ok (.getfield 26, 3) := by decide +kernel
theorem dX11_darn_59 : decode cX11_darn 59 = .ok (.iload_n 1, 1) := by decide +kernel
theorem dX11_darn_60 : decode cX11_darn 60 = .ok (.invokevirtual 336, 3) := by decide +kernel
theorem dX11_darn_63 : decode cX11_darn 63 = .ok (.aload_n 0, 1) := by decide +kernel
theorem dX11_darn_64 : decode cX11_darn 64 = .ok (.getfield 26, 3) := by decide +kernel
theorem dX11_darn_67 : decode cX11_darn 67 = .ok (.iload_n 1, 1) := by decide +kernel
theorem dX11_darn_68 : decode cX11_darn 68 = .ok (.iconst 0, 1) := by decide +kernel
theorem dX11_darn_69 : decode cX11_darn 69 = .ok (.invokevirtual 130, 3) := by decide +kernel
theorem dX11_darn_72 : decode cX11_darn 72 = .ok (.ireturn, 1) := by decide +kernel
theorem dX11_undo_0 : decode cX11_undo 0 = .ok (.aload_n 0, 1) := by decide +kernel
theorem dX11_undo_1 : decode cX11_undo 1 = .ok (.aload_n 0, 1) := by decide +kernel
theorem dX11_undo_2 : decode cX11_undo 2 = .ok (.getfield 33, 3) := by decide +kernel
theorem dX11_undo_5 : decode cX11_undo 5 = .ok (.getfield 339, 3) := by decide +kernel
theorem dX11_undo_8 : decode cX11_undo 8 = .ok (.ifCond .le 7, 3) := by decide +kernel
theorem dX11_undo_11 : decode cX11_undo 11 = .ok (.iconst 0, 1) := by decide +kernel
theorem dX11_undo_12 : decode cX11_undo 12 = .ok (.goto 5, 3) := by decide +kernel
theorem dX11_undo_15 : decode cX11_undo 15 = .ok (.bipush 6, 2) := by decide +kernel
theorem dX11_undo_17 : decode cX11_undo 17 = .ok (.invokevirtual 87, 3) := by decide +kernel
theorem dX11_undo_20 : decode cX11_undo 20 = .ok (.ifCond .eq 5, 3) := by decide +kernel
theorem dX11_undo_23 : decode cX11_undo 23 = .ok (.iconst 0, 1) := by decide +kernel
theorem dX11_undo_24 : decode cX11_undo 24 = .ok (.ireturn, 1) := by decide +kernel
theorem dX11_undo_25 : decode cX11_undo 25 = .ok (.aload_n 0, 1) := by decide +kernel
theorem dX11_undo_26 : decode cX11_undo 26 = .ok (.getfield 33, 3) := by decide +kernel
theorem dX11_undo_29 : decode cX11_undo 29 = .ok (.aload_n 0, 1) := by decide +kernel
theorem dX11_undo_30 : decode cX11_undo 30 = .ok (.getfield 26, 3) := by decide +kernel
theorem dX11_undo_33 : decode cX11_undo 33 = .ok (.invokevirtual 340, 3) := by decide +kernel
theorem dX11_undo_36 : decode cX11_undo 36 = .ok (.iconst 1, 1) := by decide +kernel
theorem dX11_undo_37 : decode cX11_undo 37 = .ok (.ireturn, 1) := by decide +kernel
theorem dX11_image_0 : decode cX11_image 0 = .ok (.aload_n 0, 1) := by decide +kernel
theorem dX11_image_1 : decode cX11_image 1 = .ok (.aload_n 0, 1) := by decide +kernel
theorem dX11_image_2 : decode cX11_image 2 = .ok (.invokevirtual 157, 3) := by decide +kernel
theorem dX11_image_5 : decode cX11_image 5 = .ok (.aload_n 0, 1) := by decide +kernel
theorem dX11_image_6 : decode cX11_image 6 = .ok (.getfield 33, 3) := by decide +kernel
theorem dX11_image_9 : decode cX11_image 9 = .ok (.getfield 343, 3) := by decide +kernel
theorem dX11_image_12 : decode cX11_image 12 = .ok (.iconst 3, 1) := by decide +kernel
theorem dX11_image_13 : decode cX11_image 13 = .ok (.if_icmp .ge 7, 3) := by decide +kernel
theorem dX11_image_16 : decode cX11_image 16 = .ok (.iconst 0, 1) := by decide +kernel
theorem dX11_image_17 : decode cX11_image 17 = .ok (.goto 4, 3) := by decide +kernel
theorem dX11_image_20 : decode cX11_image 20 = .ok (.iconst 3, 1) := by decide +kernel
theorem dX11_image_21 : decode cX11_image 21 = .ok (.invokestatic 126, 3) := by decide +kernel
theorem dX11_image_24 : decode cX11_image 24 = .ok (.invokevirtual 87, 3) := by decide +kernel
theorem dX11_image_27 : decode cX11_image 27 = .ok (.ifCond .eq 5, 3) := by decide +kernel
theorem dX11_image_30 : decode cX11_image 30 = .ok (.iconst (-1), 1) := by decide +kernel
theorem dX11_image_31 : decode cX11_image 31 = .ok (.ireturn, 1) := by decide +kernel
theorem dX11_image_32 : decode cX11_image 32 = .ok (.aload_n 0, 1) := by decide +kernel
theorem dX11_image_33 : decode cX11_image 33 = .ok (.getfield 33, 3) := by decide +kernel
theorem dX11_image_36 : decode cX11_image 36 = .ok (.aload_n 0, 1) := by decide +kernel
theorem dX11_image_37 : decode cX11_image 37 = .ok (.getfield 26, 3) := by decide +kernel
theorem dX11_image_40 : decode cX11_image 40 = .ok (.invokevirtual 346, 3) := by decide +kernel
theorem dX11_image_43 : decode cX11_image 43 = .ok (.aload_n 0, 1) := by decide +kernel
theorem dX11_image_44 : decode cX11_image 44 = .ok (.getfield 33, 3) := by decide +kernel
theorem dX11_image_47 : decode cX11_image 47 = .ok (.getfield 343, 3) := by decide +kernel
theorem dX11_image_50 : decode cX11_image 50 = .ok (.iconst 1, 1) := by decide +kernel
theorem dX11_image_51 : decode cX11_image 51 = .ok (.isub, 1) := by decide +kernel
theorem dX11_image_52 : decode cX11_image 52 = .ok (.ireturn, 1) := by decide +kernel
theorem dX11_back_0 : decode cX11_back 0 = .ok (.aload_n 0, 1) := by decide +kernel
theorem dX11_back_1 : decode cX11_back 1 = .ok (.iload_n 1, 1) := by decide +kernel
theorem dX11_back_2 : decode cX11_back 2 = .ok (.ifCond .lt 18, 3) := by decide +kernel
theorem dX11_back_5 : decode cX11_back 5 = .ok (.iload_n 1, 1) := by decide +kernel
theorem dX11_back_6 : decode cX11_back 6 = .ok (.aload_n 0, 1) := by decide +kernel
theorem dX11_back_7 : decode cX11_back 7 = .ok (.getfield 33, 3) := by decide +kernel
theorem dX11_back_10 : decode cX11_back 10 = .ok (.getfield 343, 3) := by decide +kernel
theorem dX11_back_13 : decode cX11_back 13 = .ok (.if_icmp .ge 7, 3) := by decide +kernel
theorem dX11_back_16 : decode cX11_back 16 = .ok (.iconst 0, 1) := by decide +kernel
theorem dX11_back_17 : decode cX11_back 17 = .ok (.goto 4, 3) := by decide +kernel
theorem dX11_back_20 : decode cX11_back 20 = .ok (.iconst 1, 1) := by decide +kernel
theorem dX11_back_21 : decode cX11_back 21 = .ok (.invokevirtual 87, 3) := by decide +kernel
theorem dX11_back_24 : decode cX11_back 24 = .ok (.ifCond .eq 5, 3) := by decide +kernel
theorem dX11_back_27 : decode cX11_back 27 = .ok (.iconst 0, 1) := by decide +kernel
theorem dX11_back_28 : decode cX11_back 28 = .ok (.ireturn, 1) := by decide +kernel
theorem dX11_back_29 : decode cX11_back 29 = .ok (.aload_n 0, 1) := by decide +kernel
theorem dX11_back_30 : decode cX11_back 30 = .ok (.getfield 33, 3) := by decide +kernel
theorem dX11_back_33 : decode cX11_back 33 = .ok (.aload_n 0, 1) := by decide +kernel
theorem dX11_back_34 : decode cX11_back 34 = .ok (.getfield 26, 3) := by decide +kernel
theorem dX11_back_37 : decode cX11_back 37 = .ok (.iload_n 1, 1) := by decide +kernel
theorem dX11_back_38 : decode cX11_back 38 = .ok (.invokevirtual 349, 3) := by decide +kernel
theorem dX11_back_41 : decode cX11_back 41 = .ok (.iconst 1, 1) := by decide +kernel
theorem dX11_back_42 : decode cX11_back 42 = .ok (.ireturn, 1) := by decide +kernel
theorem dX11_led_0 : decode cX11_led 0 = .ok (.iload_n 1, 1) := by decide +kernel
theorem dX11_led_1 : decode cX11_led 1 = .ok (.istore_n 2, 1) := by decide +kernel
theorem dX11_led_2 : decode cX11_led 2 = .ok (.iconst 0, 1) := by decide +kernel
theorem dX11_led_3 : decode cX11_led 3 = .ok (.istore_n 3, 1) := by decide +kernel
theorem dX11_led_4 : decode cX11_led 4 = .ok (.iload_n 3, 1) := by decide +kernel
theorem dX11_led_5 : decode cX11_led 5 = .ok (.aload_n 0, 1) := by decide +kernel
theorem dX11_led_6 : decode cX11_led 6 = .ok (.getfield 26, 3) := by decide +kernel
theorem dX11_led_9 : decode cX11_led 9 = .ok (.invokevirtual 164, 3) := by decide +kernel
theorem dX11_led_12 : decode cX11_led 12 = .ok (.if_icmp .ge 30, 3) := by decide +kernel
theorem dX11_led_15 : decode cX11_led 15 = .ok (.aload_n 0, 1) := by decide +kernel
theorem dX11_led_16 : decode cX11_led 16 = .ok (.getfield 26, 3) := by decide +kernel
theorem dX11_led_19 : decode cX11_led 19 = .ok (.iload_n 3, 1) := by decide +kernel
theorem dX11_led_20 : decode cX11_led 20 = .ok (.iconst 0, 1) := by decide +kernel
theorem dX11_led_21 : decode cX11_led 21 = .ok (.invokevirtual 130, 3) := by decide +kernel
theorem dX11_led_24 : decode cX11_led 24 = .ok (.ifCond .ne 12, 3) := by decide +kernel
theorem dX11_led_27 : decode cX11_led 27 = .ok (.iload_n 2, 1) := by decide +kernel
theorem dX11_led_28 : decode cX11_led 28 = .ok (.ifCond .ne 5, 3) := by decide +kernel
theorem dX11_led_31 : decode cX11_led 31 = .ok (.iload_n 3, 1) := by decide +kernel
theorem dX11_led_32 : decode cX11_led 32 = .ok (.ireturn, 1) := by decide +kernel
theorem dX11_led_33 : decode cX11_led 33 = .ok (.iinc 2 (-1), 3) := by decide +kernel
theorem dX11_led_36 : decode cX11_led 36 = .ok (.iinc 3 1, 3) := by decide +kernel
theorem dX11_led_39 : decode cX11_led 39 = .ok (.goto (-35), 3) := by decide +kernel
theorem dX11_led_42 : decode cX11_led 42 = .ok (.new 352, 3) := by decide +kernel
theorem dX11_led_45 : decode cX11_led 45 = .ok (.dup, 1) := by decide +kernel
theorem dX11_led_46 : decode cX11_led 46 = .ok (.invokespecial 354, 3) := by decide +kernel
theorem dX11_led_49 : decode cX11_led 49 = .ok (.athrow, 1) := by decide +kernel
theorem dX11_size_0 : decode cX11_size 0 = .ok (.iload_n 1, 1) := by decide +kernel
theorem dX11_size_1 : decode cX11_size 1 = .ok (.tableswitch 182 0 12 #[67, 75, 83, 92, 100, 109, 118, 127, 137, 147, 155, 163, 171], 67) := by decide +kernel
theorem dX11_size_68 : decode cX11_size 68 = .ok (.aload_n 0, 1) := by decide +kernel
theorem dX11_size_69 : decode cX11_size 69 = .ok (.getfield 19, 3) := by decide +kernel
theorem dX11_size_72 : decode cX11_size 72 = .ok (.invokevirtual 355, 3) := by decide +kernel
theorem dX11_size_75 : decode cX11_size 75 = .ok (.ireturn, 1) := by decide +kernel
theorem dX11_size_76 : decode cX11_size 76 = .ok (.aload_n 0, 1) := by decide +kernel
theorem dX11_size_77 : decode cX11_size 77 = .ok (.getfield 19, 3) := by decide +kernel
theorem dX11_size_80 : decode cX11_size 80 = .ok (.invokevirtual 307, 3) := by decide +kernel
theorem dX11_size_83 : decode cX11_size 83 = .ok (.ireturn, 1) := by decide +kernel
theorem dX11_size_84 : decode cX11_size 84 = .ok (.aload_n 0, 1) := by decide +kernel
theorem dX11_size_85 : decode cX11_size 85 = .ok (.getfield 19, 3) := by decide +kernel
theorem dX11_size_88 : decode cX11_size 88 = .ok (.iconst 1, 1) := by decide +kernel
theorem dX11_size_89 : decode cX11_size 89 = .ok (.invokevirtual 113, 3) := by decide +kernel
theorem dX11_size_92 : decode cX11_size 92 = .ok (.ireturn, 1) := by decide +kernel
theorem dX11_size_93 : decode cX11_size 93 = .ok (.aload_n 0, 1) := by decide +kernel
theorem dX11_size_94 : decode cX11_size 94 = .ok (.getfield 26, 3) := by decide +kernel
theorem dX11_size_97 : decode cX11_size 97 = .ok (.invokevirtual 164, 3) := by decide +kernel
theorem dX11_size_100 : decode cX11_size 100 = .ok (.ireturn, 1) := by decide +kernel
theorem dX11_size_101 : decode cX11_size 101 = .ok (.aload_n 0, 1) := by decide +kernel
theorem dX11_size_102 : decode cX11_size 102 = .ok (.getfield 19, 3) := by decide +kernel
theorem dX11_size_105 : decode cX11_size 105 = .ok (.iconst 3, 1) := by decide +kernel
theorem dX11_size_106 : decode cX11_size 106 = .ok (.invokevirtual 113, 3) := by decide +kernel
theorem dX11_size_109 : decode cX11_size 109 = .ok (.ireturn, 1) := by decide +kernel
theorem dX11_size_110 : decode cX11_size 110 = .ok (.aload_n 0, 1) := by decide +kernel
theorem dX11_size_111 : decode cX11_size 111 = .ok (.getfield 19, 3) := by decide +kernel
theorem dX11_size_114 : decode cX11_size 114 = .ok (.iconst 4, 1) := by decide +kernel
theorem dX11_size_115 : decode cX11_size 115 = .ok (.invokevirtual 113, 3) := by decide +kernel
theorem dX11_size_118 : decode cX11_size 118 = .ok (.ireturn, 1) := by decide +kernel
theorem dX11_size_119 : decode cX11_size 119 = .ok (.aload_n 0, 1) := by decide +kernel
theorem dX11_size_120 : decode cX11_size 120 = .ok (.getfield 19, 3) := by decide +kernel
theorem dX11_size_123 : decode cX11_size 123 = .ok (.iconst 5, 1) := by decide +kernel
theorem dX11_size_124 : decode cX11_size 124 = .ok (.invokevirtual 113, 3) := by decide +kernel
theorem dX11_size_127 : decode cX11_size 127 = .ok (.ireturn, 1) := by decide +kernel
theorem dX11_size_128 : decode cX11_size 128 = .ok (.aload_n 0, 1) := by decide +kernel
theorem dX11_size_129 : decode cX11_size 129 = .ok (.getfield 19, 3) := by decide +kernel
theorem dX11_size_132 : decode cX11_size 132 = .ok (.bipush 6, 2) := by decide +kernel
theorem dX11_size_134 : decode cX11_size 134 = .ok (.invokevirtual 113, 3) := by decide +kernel
theorem dX11_size_137 : decode cX11_size 137 = .ok (.ireturn, 1) := by decide +kernel
theorem dX11_size_138 : decode cX11_size 138 = .ok (.aload_n 0, 1) := by decide +kernel
theorem dX11_size_139 : decode cX11_size 139 = .ok (.getfield 19, 3) := by decide +kernel
theorem dX11_size_142 : decode cX11_size 142 = .ok (.bipush 7, 2) := by decide +kernel
theorem dX11_size_144 : decode cX11_size 144 = .ok (.invokevirtual 113, 3) := by decide +kernel
theorem dX11_size_147 : decode cX11_size 147 = .ok (.ireturn, 1) := by decide +kernel
theorem dX11_size_148 : decode cX11_size 148 = .ok (.aload_n 0, 1) := by decide +kernel
theorem dX11_size_149 : decode cX11_size 149 = .ok (.getfield 26, 3) := by decide +kernel
theorem dX11_size_152 : decode cX11_size 152 = .ok (.invokevirtual 317, 3) := by decide +kernel
theorem dX11_size_155 : decode cX11_size 155 = .ok (.ireturn, 1) := by decide +kernel
theorem dX11_size_156 : decode cX11_size 156 = .ok (.aload_n 0, 1) := by decide +kernel
theorem dX11_size_157 : decode cX11_size 157 = .ok (.getfield 33, 3) := by decide +kernel
theorem dX11_size_160 : decode cX11_size 160 = .ok (.getfield 339, 3) := by decide +kernel
theorem dX11_size_163 : decode cX11_size 163 = .ok (.ireturn, 1) := by decide +kernel
theorem dX11_size_164 : decode cX11_size 164 = .ok (.aload_n 0, 1) := by decide +kernel
theorem dX11_size_165 : decode cX11_size 165 = .ok (.getfield 33, 3) := by decide +kernel
theorem dX11_size_168 : decode cX11_size 168 = .ok (.getfield 343, 3) := by decide +kernel
theorem dX11_size_171 : decode cX11_size 171 = .ok (.ireturn, 1) := by decide +kernel
theorem dX11_size_172 : decode cX11_size 172 = .ok (.aload_n 0, 1) := by decide +kernel
theorem dX11_size_173 : decode cX11_size 173 = .ok (.getfield 10, 3) := by decide +kernel
theorem dX11_size_176 : decode cX11_size 176 = .ok (.getfield 65, 3) := by decide +kernel
theorem dX11_size_179 : decode cX11_size 179 = .ok (.getfield 79, 3) := by decide +kernel
theorem dX11_size_182 : decode cX11_size 182 = .ok (.ireturn, 1) := by decide +kernel
theorem dX11_size_183 : decode cX11_size 183 = .ok (.iconst (-1), 1) := by decide +kernel
theorem dX11_size_184 : decode cX11_size 184 = .ok (.ireturn, 1) := by decide +kernel
theorem dX11_trouble_0 : decode cX11_trouble 0 = .ok (.aload_n 0, 1) := by decide +kernel
theorem dX11_trouble_1 : decode cX11_trouble 1 = .ok (.getfield 117, 3) := by decide +kernel
theorem dX11_trouble_4 : decode cX11_trouble 4 = .ok (.ireturn, 1) := by decide +kernel
theorem dX11_refused_0 : decode cX11_refused 0 = .ok (.aload_n 0, 1) := by decide +kernel
theorem dX11_refused_1 : decode cX11_refused 1 = .ok (.iload_n 1, 1) := by decide +kernel
theorem dX11_refused_2 : decode cX11_refused 2 = .ok (.putfield 117, 3) := by decide +kernel
theorem dX11_refused_5 : decode cX11_refused 5 = .ok (.iload_n 1, 1) := by decide +kernel
theorem dX11_refused_6 : decode cX11_refused 6 = .ok (.ifCond .eq 7, 3) := by decide +kernel
theorem dX11_refused_9 : decode cX11_refused 9 = .ok (.iconst 1, 1) := by decide +kernel
theorem dX11_refused_10 : decode cX11_refused 10 = .ok (.goto 4, 3) := by decide +kernel
theorem dX11_refused_13 : decode cX11_refused 13 = .ok (.iconst 0, 1) := by decide +kernel
theorem dX11_refused_14 : decode cX11_refused 14 = .ok (.ireturn, 1) := by decide +kernel
theorem dX11_firstOf_0 : decode cX11_firstOf 0 = .ok (.iload_n 0, 1) := by decide +kernel
theorem dX11_firstOf_1 : decode cX11_firstOf 1 = .ok (.ifCond .eq 7, 3) := by decide +kernel
theorem dX11_firstOf_4 : decode cX11_firstOf 4 = .ok (.iload_n 0, 1) := by decide +kernel
theorem dX11_firstOf_5 : decode cX11_firstOf 5 = .ok (.goto 4, 3) := by decide +kernel
theorem dX11_firstOf_8 : decode cX11_firstOf 8 = .ok (.iload_n 1, 1) := by decide +kernel
theorem dX11_firstOf_9 : decode cX11_firstOf 9 = .ok (.ireturn, 1) := by decide +kernel
theorem dX11_within_0 : decode cX11_within 0 = .ok (.iload_n 0, 1) := by decide +kernel
theorem dX11_within_1 : decode cX11_within 1 = .ok (.iload_n 1, 1) := by decide +kernel
theorem dX11_within_2 : decode cX11_within 2 = .ok (.if_icmp .lt 12, 3) := by decide +kernel
theorem dX11_within_5 : decode cX11_within 5 = .ok (.iload_n 0, 1) := by decide +kernel
theorem dX11_within_6 : decode cX11_within 6 = .ok (.iload_n 2, 1) := by decide +kernel
theorem dX11_within_7 : decode cX11_within 7 = .ok (.if_icmp .gt 7, 3) := by decide +kernel
theorem dX11_within_10 : decode cX11_within 10 = .ok (.iconst 0, 1) := by decide +kernel
theorem dX11_within_11 : decode cX11_within 11 = .ok (.goto 4, 3) := by decide +kernel
theorem dX11_within_14 : decode cX11_within 14 = .ok (.iconst 2, 1) := by decide +kernel
theorem dX11_within_15 : decode cX11_within 15 = .ok (.ireturn, 1) := by decide +kernel
theorem dX11_needYears_0 : decode cX11_needYears 0 = .ok (.iload_n 0, 1) := by decide +kernel
theorem dX11_needYears_1 : decode cX11_needYears 1 = .ok (.iconst 0, 1) := by decide +kernel
theorem dX11_needYears_2 : decode cX11_needYears 2 = .ok (.bipush 60, 2) := by decide +kernel
theorem dX11_needYears_4 : decode cX11_needYears 4 = .ok (.invokestatic 83, 3) := by decide +kernel
theorem dX11_needYears_7 : decode cX11_needYears 7 = .ok (.ireturn, 1) := by decide +kernel
theorem dX11_needWeb_0 : decode cX11_needWeb 0 = .ok (.aload_n 0, 1) := by decide +kernel
theorem dX11_needWeb_1 : decode cX11_needWeb 1 = .ok (.getfield 19, 3) := by decide +kernel
theorem dX11_needWeb_4 : decode cX11_needWeb 4 = .ok (.iconst 1, 1) := by decide +kernel
theorem dX11_needWeb_5 : decode cX11_needWeb 5 = .ok (.invokevirtual 113, 3) := by decide +kernel
theorem dX11_needWeb_8 : decode cX11_needWeb 8 = .ok (.ifCond .le 7, 3) := by decide +kernel
theorem dX11_needWeb_11 : decode cX11_needWeb 11 = .ok (.iconst 0, 1) := by decide +kernel
theorem dX11_needWeb_12 : decode cX11_needWeb 12 = .ok (.goto 4, 3) := by decide +kernel
theorem dX11_needWeb_15 : decode cX11_needWeb 15 = .ok (.iconst 1, 1) := by decide +kernel
theorem dX11_needWeb_16 : decode cX11_needWeb 16 = .ok (.ireturn, 1) := by decide +kernel
theorem dX11_needRow_0 : decode cX11_needRow 0 = .ok (.iload_n 2, 1) := by decide +kernel
theorem dX11_needRow_1 : decode cX11_needRow 1 = .ok (.ifCond .lt 19, 3) := by decide +kernel
theorem dX11_needRow_4 : decode cX11_needRow 4 = .ok (.iload_n 2, 1) := by decide +kernel
theorem dX11_needRow_5 : decode cX11_needRow 5 = .ok (.aload_n 0, 1) := by decide +kernel
theorem dX11_needRow_6 : decode cX11_needRow 6 = .ok (.getfield 19, 3) := by decide +kernel
theorem dX11_needRow_9 : decode cX11_needRow 9 = .ok (.iload_n 1, 1) := by decide +kernel
theorem dX11_needRow_10 : decode cX11_needRow 10 = .ok (.invokevirtual 113, 3) := by decide +kernel
theorem dX11_needRow_13 : decode cX11_needRow 13 = .ok (.if_icmp .ge 7, 3) := by decide +kernel
theorem dX11_needRow_16 : decode cX11_needRow 16 = .ok (.iconst 0, 1) := by decide +kernel
theorem dX11_needRow_17 : decode cX11_needRow 17 = .ok (.goto 4, 3) := by decide +kernel
theorem dX11_needRow_20 : decode cX11_needRow 20 = .ok (.iconst 1, 1) := by decide +kernel
theorem dX11_needRow_21 : decode cX11_needRow 21 = .ok (.ireturn, 1) := by decide +kernel
theorem dX11_needNail_0 : decode cX11_needNail 0 = .ok (.aload_n 0, 1) := by decide +kernel
theorem dX11_needNail_1 : decode cX11_needNail 1 = .ok (.iconst 1, 1) := by decide +kernel
theorem dX11_needNail_2 : decode cX11_needNail 2 = .ok (.iload_n 1, 1) := by decide +kernel
theorem dX11_needNail_3 : decode cX11_needNail 3 = .ok (.invokevirtual 238, 3) := by decide +kernel
theorem dX11_needNail_6 : decode cX11_needNail 6 = .ok (.ireturn, 1) := by decide +kernel
theorem dX11_needTwoNails_0 : decode cX11_needTwoNails 0 = .ok (.iload_n 1, 1) := by decide +kernel
theorem dX11_needTwoNails_1 : decode cX11_needTwoNails 1 = .ok (.iload_n 2, 1) := by decide +kernel
theorem dX11_needTwoNails_2 : decode cX11_needTwoNails 2 = .ok (.if_icmp .ne 7, 3) := by decide +kernel
theorem dX11_needTwoNails_5 : decode cX11_needTwoNails 5 = .ok (.iconst 1, 1) := by decide +kernel
theorem dX11_needTwoNails_6 : decode cX11_needTwoNails 6 = .ok (.goto 16, 3) := by decide +kernel
theorem dX11_needTwoNails_9 : decode cX11_needTwoNails 9 = .ok (.aload_n 0, 1) := by decide +kernel
theorem dX11_needTwoNails_10 : decode cX11_needTwoNails 10 = .ok (.iload_n 1, 1) := by decide +kernel
theorem dX11_needTwoNails_11 : decode cX11_needTwoNails 11 = .ok (.invokevirtual 142, 3) := by decide +kernel
theorem dX11_needTwoNails_14 : decode cX11_needTwoNails 14 = .ok (.aload_n 0, 1) := by decide +kernel
theorem dX11_needTwoNails_15 : decode cX11_needTwoNails 15 = .ok (.iload_n 2, 1) := by decide +kernel
theorem dX11_needTwoNails_16 : decode cX11_needTwoNails 16 = .ok (.invokevirtual 142, 3) := by decide +kernel
theorem dX11_needTwoNails_19 : decode cX11_needTwoNails 19 = .ok (.invokestatic 126, 3) := by decide +kernel
theorem dX11_needTwoNails_22 : decode cX11_needTwoNails 22 = .ok (.ireturn, 1) := by decide +kernel
theorem dX11_needLoad_0 : decode cX11_needLoad 0 = .ok (.aload_n 0, 1) := by decide +kernel
theorem dX11_needLoad_1 : decode cX11_needLoad 1 = .ok (.iconst 4, 1) := by decide +kernel
theorem dX11_needLoad_2 : decode cX11_needLoad 2 = .ok (.iload_n 1, 1) := by decide +kernel
theorem dX11_needLoad_3 : decode cX11_needLoad 3 = .ok (.invokevirtual 238, 3) := by decide +kernel
theorem dX11_needLoad_6 : decode cX11_needLoad 6 = .ok (.ireturn, 1) := by decide +kernel
theorem dX11_needThread_0 : decode cX11_needThread 0 = .ok (.iload_n 1, 1) := by decide +kernel
theorem dX11_needThread_1 : decode cX11_needThread 1 = .ok (.ifCond .lt 18, 3) := by decide +kernel
theorem dX11_needThread_4 : decode cX11_needThread 4 = .ok (.iload_n 1, 1) := by decide +kernel
theorem dX11_needThread_5 : decode cX11_needThread 5 = .ok (.aload_n 0, 1) := by decide +kernel
theorem dX11_needThread_6 : decode cX11_needThread 6 = .ok (.getfield 26, 3) := by decide +kernel
theorem dX11_needThread_9 : decode cX11_needThread 9 = .ok (.invokevirtual 164, 3) := by decide +kernel
theorem dX11_needThread_12 : decode cX11_needThread 12 = .ok (.if_icmp .ge 7, 3) := by decide +kernel
theorem dX11_needThread_15 : decode cX11_needThread 15 = .ok (.iconst 0, 1) := by decide +kernel
theorem dX11_needThread_16 : decode cX11_needThread 16 = .ok (.goto 4, 3) := by decide +kernel
theorem dX11_needThread_19 : decode cX11_needThread 19 = .ok (.iconst 1, 1) := by decide +kernel
theorem dX11_needThread_20 : decode cX11_needThread 20 = .ok (.ireturn, 1) := by decide +kernel
theorem dX11_has_0 : decode cX11_has 0 = .ok (.iload_n 0, 1) := by decide +kernel
theorem dX11_has_1 : decode cX11_has 1 = .ok (.iload_n 1, 1) := by decide +kernel
theorem dX11_has_2 : decode cX11_has 2 = .ok (.ishr, 1) := by decide +kernel
theorem dX11_has_3 : decode cX11_has 3 = .ok (.iconst 1, 1) := by decide +kernel
theorem dX11_has_4 : decode cX11_has 4 = .ok (.iand, 1) := by decide +kernel
theorem dX11_has_5 : decode cX11_has 5 = .ok (.iconst 1, 1) := by decide +kernel
theorem dX11_has_6 : decode cX11_has 6 = .ok (.if_icmp .ne 7, 3) := by decide +kernel
theorem dX11_has_9 : decode cX11_has 9 = .ok (.iconst 1, 1) := by decide +kernel
theorem dX11_has_10 : decode cX11_has 10 = .ok (.goto 4, 3) := by decide +kernel
theorem dX11_has_13 : decode cX11_has 13 = .ok (.iconst 0, 1) := by decide +kernel
theorem dX11_has_14 : decode cX11_has 14 = .ok (.ireturn, 1) := by decide +kernel
theorem dX11_isWithin_0 : decode cX11_isWithin 0 = .ok (.iload_n 0, 1) := by decide +kernel
theorem dX11_isWithin_1 : decode cX11_isWithin 1 = .ok (.iload_n 1, 1) := by decide +kernel
theorem dX11_isWithin_2 : decode cX11_isWithin 2 = .ok (.iconst (-1), 1) := by decide +kernel
theorem dX11_isWithin_3 : decode cX11_isWithin 3 = .ok (.ixor, 1) := by decide +kernel
theorem dX11_isWithin_4 : decode cX11_isWithin 4 = .ok (.iand, 1) := by decide +kernel
theorem dX11_isWithin_5 : decode cX11_isWithin 5 = .ok (.ifCond .ne 7, 3) := by decide +kernel
theorem dX11_isWithin_8 : decode cX11_isWithin 8 = .ok (.iconst 1, 1) := by decide +kernel
theorem dX11_isWithin_9 : decode cX11_isWithin 9 = .ok (.goto 4, 3) := by decide +kernel
theorem dX11_isWithin_12 : decode cX11_isWithin 12 = .ok (.iconst 0, 1) := by decide +kernel
theorem dX11_isWithin_13 : decode cX11_isWithin 13 = .ok (.ireturn, 1) := by decide +kernel
theorem dX11_goBehind_0 : decode cX11_goBehind 0 = .ok (.aload_n 0, 1) := by decide +kernel
theorem dX11_goBehind_1 : decode cX11_goBehind 1 = .ok (.getfield 40, 3) := by decide +kernel
theorem dX11_goBehind_4 : decode cX11_goBehind 4 = .ok (.aload_n 0, 1) := by decide +kernel
theorem dX11_goBehind_5 : decode cX11_goBehind 5 = .ok (.getfield 26, 3) := by decide +kernel
theorem dX11_goBehind_8 : decode cX11_goBehind 8 = .ok (.aload_n 0, 1) := by decide +kernel
theorem dX11_goBehind_9 : decode cX11_goBehind 9 = .ok (.getfield 19, 3) := by decide +kernel
theorem dX11_goBehind_12 : decode cX11_goBehind 12 = .ok (.invokevirtual 358, 3) := by decide +kernel
theorem dX11_goBehind_15 : decode cX11_goBehind 15 = .ok (.aload_n 0, 1) := by decide +kernel
theorem dX11_goBehind_16 : decode cX11_goBehind 16 = .ok (.getfield 40, 3) := by decide +kernel
theorem dX11_goBehind_19 : decode cX11_goBehind 19 = .ok (.aload_n 0, 1) := by decide +kernel
theorem dX11_goBehind_20 : decode cX11_goBehind 20 = .ok (.getfield 26, 3) := by decide +kernel
theorem dX11_goBehind_23 : decode cX11_goBehind 23 = .ok (.iload_n 1, 1) := by decide +kernel
theorem dX11_goBehind_24 : decode cX11_goBehind 24 = .ok (.invokevirtual 202, 3) := by decide +kernel
theorem dX11_goBehind_27 : decode cX11_goBehind 27 = .ok (.return_, 1) := by decide +kernel
theorem dX11_partForLoad_0 : decode cX11_partForLoad 0 = .ok (.aload_n 0, 1) := by decide +kernel
theorem dX11_partForLoad_1 : decode cX11_partForLoad 1 = .ok (.getfield 40, 3) := by decide +kernel
theorem dX11_partForLoad_4 : decode cX11_partForLoad 4 = .ok (.aload_n 0, 1) := by decide +kernel
theorem dX11_partForLoad_5 : decode cX11_partForLoad 5 = .ok (.getfield 19, 3) := by decide +kernel
theorem dX11_partForLoad_8 : decode cX11_partForLoad 8 = .ok (.iconst 4, 1) := by decide +kernel
theorem dX11_partForLoad_9 : decode cX11_partForLoad 9 = .ok (.iload_n 1, 1) := by decide +kernel
theorem dX11_partForLoad_10 : decode cX11_partForLoad 10 = .ok (.iconst 0, 1) := by decide +kernel
theorem dX11_partForLoad_11 : decode cX11_partForLoad 11 = .ok (.invokevirtual 206, 3) := by decide +kernel
theorem dX11_partForLoad_14 : decode cX11_partForLoad 14 = .ok (.aload_n 0, 1) := by decide +kernel
theorem dX11_partForLoad_15 : decode cX11_partForLoad 15 = .ok (.getfield 19, 3) := by decide +kernel
theorem dX11_partForLoad_18 : decode cX11_partForLoad 18 = .ok (.iconst 4, 1) := by decide +kernel
theorem dX11_partForLoad_19 : decode cX11_partForLoad 19 = .ok (.iload_n 1, 1) := by decide +kernel
theorem dX11_partForLoad_20 : decode cX11_partForLoad 20 = .ok (.iconst 1, 1) := by decide +kernel
theorem dX11_partForLoad_21 : decode cX11_partForLoad 21 = .ok (.invokevirtual 206, 3) := by decide +kernel
theorem dX11_partForLoad_24 : decode cX11_partForLoad 24 = .ok (.invokevirtual 173, 3) := by decide +kernel
theorem dX11_partForLoad_27 : decode cX11_partForLoad 27 = .ok (.return_, 1) := by decide +kernel
theorem dX11_loadsBorneBy_0 : decode cX11_loadsBorneBy 0 = .ok (.iconst 0, 1) := by decide +kernel
theorem dX11_loadsBorneBy_1 : decode cX11_loadsBorneBy 1 = .ok (.istore_n 2, 1) := by decide +kernel
theorem dX11_loadsBorneBy_2 : decode cX11_loadsBorneBy 2 = .ok (.iconst 0, 1) := by decide +kernel
theorem dX11_loadsBorneBy_3 : decode cX11_loadsBorneBy 3 = .ok (.istore_n 3, 1) := by decide +kernel
theorem dX11_loadsBorneBy_4 : decode cX11_loadsBorneBy 4 = .ok (.iload_n 3, 1) := by decide +kernel
theorem dX11_loadsBorneBy_5 : decode cX11_loadsBorneBy 5 = .ok (.aload_n 0, 1) := by decide +kernel
theorem dX11_loadsBorneBy_6 : decode cX11_loadsBorneBy 6 = .ok (.getfield 19, 3) := by decide +kernel
theorem dX11_loadsBorneBy_9 : decode cX11_loadsBorneBy 9 = .ok (.iconst 4, 1) := by decide +kernel
theorem dX11_loadsBorneBy_10 : decode cX11_loadsBorneBy 10 = .ok (.invokevirtual 113, 3) := by decide +kernel
theorem dX11_loadsBorneBy_13 : decode cX11_loadsBorneBy 13 = .ok (.if_icmp .ge 41, 3) := by decide +kernel
theorem dX11_loadsBorneBy_16 : decode cX11_loadsBorneBy 16 = .ok (.aload_n 0, 1) := by decide +kernel
theorem dX11_loadsBorneBy_17 : decode cX11_loadsBorneBy 17 = .ok (.iload_n 3, 1) := by decide +kernel
theorem dX11_loadsBorneBy_18 : decode cX11_loadsBorneBy 18 = .ok (.invokevirtual 199, 3) := by decide +kernel
theorem dX11_loadsBorneBy_21 : decode cX11_loadsBorneBy 21 = .ok (.aload_n 0, 1) := by decide +kernel
theorem dX11_loadsBorneBy_22 : decode cX11_loadsBorneBy 22 = .ok (.getfield 40, 3) := by decide +kernel
theorem dX11_loadsBorneBy_25 : decode cX11_loadsBorneBy 25 = .ok (.iload_n 1, 1) := by decide +kernel
theorem dX11_loadsBorneBy_26 : decode cX11_loadsBorneBy 26 = .ok (.invokevirtual 184, 3) := by decide +kernel
theorem dX11_loadsBorneBy_29 : decode cX11_loadsBorneBy 29 = .ok (.aload_n 0, 1) := by decide +kernel
theorem dX11_loadsBorneBy_30 : decode cX11_loadsBorneBy 30 = .ok (.getfield 19, 3) := by decide +kernel
theorem dX11_loadsBorneBy_33 : decode cX11_loadsBorneBy 33 = .ok (.iconst 4, 1) := by decide +kernel
theorem dX11_loadsBorneBy_34 : decode cX11_loadsBorneBy 34 = .ok (.iload_n 3, 1) := by decide +kernel
theorem dX11_loadsBorneBy_35 : decode cX11_loadsBorneBy 35 = .ok (.iconst 2, 1) := by decide +kernel
theorem dX11_loadsBorneBy_36 : decode cX11_loadsBorneBy 36 = .ok (.invokevirtual 206, 3) := by decide +kernel
theorem dX11_loadsBorneBy_39 : decode cX11_loadsBorneBy 39 = .ok (.if_icmp .lt 9, 3) := by decide +kernel
theorem dX11_loadsBorneBy_42 : decode cX11_loadsBorneBy 42 = .ok (.iload_n 2, 1) := by decide +kernel
theorem dX11_loadsBorneBy_43 : decode cX11_loadsBorneBy 43 = .ok (.iconst 1, 1) := by decide +kernel
theorem dX11_loadsBorneBy_44 : decode cX11_loadsBorneBy 44 = .ok (.iload_n 3, 1) := by decide +kernel
theorem dX11_loadsBorneBy_45 : decode cX11_loadsBorneBy 45 = .ok (.ishl, 1) := by decide +kernel
theorem dX11_loadsBorneBy_46 : decode cX11_loadsBorneBy 46 = .ok (.ior, 1) := by decide +kernel
theorem dX11_loadsBorneBy_47 : decode cX11_loadsBorneBy 47 = .ok (.istore_n 2, 1) := by decide +kernel
theorem dX11_loadsBorneBy_48 : decode cX11_loadsBorneBy 48 = .ok (.iinc 3 1, 3) := by decide +kernel
theorem dX11_loadsBorneBy_51 : decode cX11_loadsBorneBy 51 = .ok (.goto (-47), 3) := by decide +kernel
theorem dX11_loadsBorneBy_54 : decode cX11_loadsBorneBy 54 = .ok (.iload_n 2, 1) := by decide +kernel
theorem dX11_loadsBorneBy_55 : decode cX11_loadsBorneBy 55 = .ok (.ireturn, 1) := by decide +kernel
theorem dX11_costOf_0 : decode cX11_costOf 0 = .ok (.iconst 0, 1) := by decide +kernel
theorem dX11_costOf_1 : decode cX11_costOf 1 = .ok (.istore_n 2, 1) := by decide +kernel
theorem dX11_costOf_2 : decode cX11_costOf 2 = .ok (.iconst 0, 1) := by decide +kernel
theorem dX11_costOf_3 : decode cX11_costOf 3 = .ok (.istore_n 3, 1) := by decide +kernel
theorem dX11_costOf_4 : decode cX11_costOf 4 = .ok (.iload_n 3, 1) := by decide +kernel
theorem dX11_costOf_5 : decode cX11_costOf 5 = .ok (.aload_n 0, 1) := by decide +kernel
theorem dX11_costOf_6 : decode cX11_costOf 6 = .ok (.getfield 19, 3) := by decide +kernel
theorem dX11_costOf_9 : decode cX11_costOf 9 = .ok (.iconst 5, 1) := by decide +kernel
theorem dX11_costOf_10 : decode cX11_costOf 10 = .ok (.invokevirtual 113, 3) := by decide +kernel
theorem dX11_costOf_13 : decode cX11_costOf 13 = .ok (.if_icmp .ge 30, 3) := by decide +kernel
theorem dX11_costOf_16 : decode cX11_costOf 16 = .ok (.iload_n 1, 1) := by decide +kernel
theorem dX11_costOf_17 : decode cX11_costOf 17 = .ok (.iload_n 3, 1) := by decide +kernel
theorem dX11_costOf_18 : decode cX11_costOf 18 = .ok (.invokestatic 180, 3) := by decide +kernel
theorem dX11_costOf_21 : decode cX11_costOf 21 = .ok (.ifCond .eq 16, 3) := by decide +kernel
theorem dX11_costOf_24 : decode cX11_costOf 24 = .ok (.iload_n 2, 1) := by decide +kernel
theorem dX11_costOf_25 : decode cX11_costOf 25 = .ok (.aload_n 0, 1) := by decide +kernel
theorem dX11_costOf_26 : decode cX11_costOf 26 = .ok (.getfield 19, 3) := by decide +kernel
theorem dX11_costOf_29 : decode cX11_costOf 29 = .ok (.iconst 5, 1) := by decide +kernel
theorem dX11_costOf_30 : decode cX11_costOf 30 = .ok (.iload_n 3, 1) := by decide +kernel
theorem dX11_costOf_31 : decode cX11_costOf 31 = .ok (.iconst 3, 1) := by decide +kernel
theorem dX11_costOf_32 : decode cX11_costOf 32 = .ok (.invokevirtual 206, 3) := by decide +kernel
theorem dX11_costOf_35 : decode cX11_costOf 35 = .ok (.iadd, 1) := by decide +kernel
theorem dX11_costOf_36 : decode cX11_costOf 36 = .ok (.istore_n 2, 1) := by decide +kernel
theorem dX11_costOf_37 : decode cX11_costOf 37 = .ok (.iinc 3 1, 3) := by decide +kernel
theorem dX11_costOf_40 : decode cX11_costOf 40 = .ok (.goto (-36), 3) := by decide +kernel
theorem dX11_costOf_43 : decode cX11_costOf 43 = .ok (.iload_n 2, 1) := by decide +kernel
theorem dX11_costOf_44 : decode cX11_costOf 44 = .ok (.ireturn, 1) := by decide +kernel
theorem dX11_cheapestMend_0 : decode cX11_cheapestMend 0 = .ok (.aload_n 0, 1) := by decide +kernel
theorem dX11_cheapestMend_1 : decode cX11_cheapestMend 1 = .ok (.iconst 0, 1) := by decide +kernel
theorem dX11_cheapestMend_2 : decode cX11_cheapestMend 2 = .ok (.invokevirtual 145, 3) := by decide +kernel
theorem dX11_cheapestMend_5 : decode cX11_cheapestMend 5 = .ok (.aload_n 0, 1) := by decide +kernel
theorem dX11_cheapestMend_6 : decode cX11_cheapestMend 6 = .ok (.getfield 40, 3) := by decide +kernel
theorem dX11_cheapestMend_9 : decode cX11_cheapestMend 9 = .ok (.invokevirtual 161, 3) := by decide +kernel
theorem dX11_cheapestMend_12 : decode cX11_cheapestMend 12 = .ok (.istore_n 1, 1) := by decide +kernel
theorem dX11_cheapestMend_13 : decode cX11_cheapestMend 13 = .ok (.iconst 1, 1) := by decide +kernel
theorem dX11_cheapestMend_14 : decode cX11_cheapestMend 14 = .ok (.aload_n 0, 1) := by decide +kernel
theorem dX11_cheapestMend_15 : decode cX11_cheapestMend 15 = .ok (.getfield 19, 3) := by decide +kernel
theorem dX11_cheapestMend_18 : decode cX11_cheapestMend 18 = .ok (.iconst 4, 1) := by decide +kernel
theorem dX11_cheapestMend_19 : decode cX11_cheapestMend 19 = .ok (.invokevirtual 113, 3) := by decide +kernel
theorem dX11_cheapestMend_22 : decode cX11_cheapestMend 22 = .ok (.ishl, 1) := by decide +kernel
theorem dX11_cheapestMend_23 : decode cX11_cheapestMend 23 = .ok (.iconst 1, 1) := by decide +kernel
theorem dX11_cheapestMend_24 : decode cX11_cheapestMend 24 = .ok (.isub, 1) := by decide +kernel
theorem dX11_cheapestMend_25 : decode cX11_cheapestMend 25 = .ok (.istore_n 2, 1) := by decide +kernel
theorem dX11_cheapestMend_26 : decode cX11_cheapestMend 26 = .ok (.bipush (-2), 2) := by decide +kernel
theorem dX11_cheapestMend_28 : decode cX11_cheapestMend 28 = .ok (.istore_n 3, 1) := by decide +kernel
theorem dX11_cheapestMend_29 : decode cX11_cheapestMend 29 = .ok (.iconst 0, 1) := by decide +kernel
theorem dX11_cheapestMend_30 : decode cX11_cheapestMend 30 = .ok (.istore 4, 2) := by decide +kernel
theorem dX11_cheapestMend_32 : decode cX11_cheapestMend 32 = .ok (.iconst 0, 1) := by decide +kernel
theorem dX11_cheapestMend_33 : decode cX11_cheapestMend 33 = .ok (.istore 5, 2) := by decide +kernel
theorem dX11_cheapestMend_35 : decode cX11_cheapestMend 35 = .ok (.iload 5, 2) := by decide +kernel
theorem dX11_cheapestMend_37 : decode cX11_cheapestMend 37 = .ok (.iconst 1, 1) := by decide +kernel
theorem dX11_cheapestMend_38 : decode cX11_cheapestMend 38 = .ok (.aload_n 0, 1) := by decide +kernel
theorem dX11_cheapestMend_39 : decode cX11_cheapestMend 39 = .ok (.getfield 19, 3) := by decide +kernel
theorem dX11_cheapestMend_42 : decode cX11_cheapestMend 42 = .ok (.iconst 5, 1) := by decide +kernel
theorem dX11_cheapestMend_43 : decode cX11_cheapestMend 43 = .ok (.invokevirtual 113, 3) := by decide +kernel
theorem dX11_cheapestMend_46 : decode cX11_cheapestMend 46 = .ok (.ishl, 1) := by decide +kernel
theorem dX11_cheapestMend_47 : decode cX11_cheapestMend 47 = .ok (.if_icmp .ge 64, 3) := by decide +kernel
theorem dX11_cheapestMend_50 : decode cX11_cheapestMend 50 = .ok (.aload_n 0, 1) := by decide +kernel
theorem dX11_cheapestMend_51 : decode cX11_cheapestMend 51 = .ok (.iload 5, 2) := by decide +kernel
theorem dX11_cheapestMend_53 : decode cX11_cheapestMend 53 = .ok (.invokevirtual 211, 3) := by decide +kernel
theorem dX11_cheapestMend_56 : decode cX11_cheapestMend 56 = .ok (.istore 6, 2) := by decide +kernel
theorem dX11_cheapestMend_58 : decode cX11_cheapestMend 58 = .ok (.iload_n 3, 1) := by decide +kernel
theorem dX11_cheapestMend_59 : decode cX11_cheapestMend 59 = .ok (.bipush (-2), 2) := by decide +kernel
theorem dX11_cheapestMend_61 : decode cX11_cheapestMend 61 = .ok (.if_icmp .eq 10, 3) := by decide +kernel
theorem dX11_cheapestMend_64 : decode cX11_cheapestMend 64 = .ok (.iload 6, 2) := by decide +kernel
theorem dX11_cheapestMend_66 : decode cX11_cheapestMend 66 = .ok (.iload 4, 2) := by decide +kernel
theorem dX11_cheapestMend_68 : decode cX11_cheapestMend 68 = .ok (.if_icmp .ge 7, 3) := by decide +kernel
theorem dX11_cheapestMend_71 : decode cX11_cheapestMend 71 = .ok (.iconst 1, 1) := by decide +kernel
theorem dX11_cheapestMend_72 : decode cX11_cheapestMend 72 = .ok (.goto 4, 3) := by decide +kernel
theorem dX11_cheapestMend_75 : decode cX11_cheapestMend 75 = .ok (.iconst 0, 1) := by decide +kernel
theorem dX11_cheapestMend_76 : decode cX11_cheapestMend 76 = .ok (.istore 7, 2) := by decide +kernel
theorem dX11_cheapestMend_78 : decode cX11_cheapestMend 78 = .ok (.iload 7, 2) := by decide +kernel
theorem dX11_cheapestMend_80 : decode cX11_cheapestMend 80 = .ok (.ifCond .eq 25, 3) := by decide +kernel
theorem dX11_cheapestMend_83 : decode cX11_cheapestMend 83 = .ok (.aload_n 0, 1) := by decide +kernel
theorem dX11_cheapestMend_84 : decode cX11_cheapestMend 84 = .ok (.iload_n 1, 1) := by decide +kernel
theorem dX11_cheapestMend_85 : decode cX11_cheapestMend 85 = .ok (.iload 5, 2) := by decide +kernel
theorem dX11_cheapestMend_87 : decode cX11_cheapestMend 87 = .ok (.invokestatic 219, 3) := by decide +kernel
theorem dX11_cheapestMend_90 : decode cX11_cheapestMend 90 = .ok (.ior, 1) := by decide +kernel
theorem dX11_cheapestMend_91 : decode cX11_cheapestMend 91 = .ok (.invokevirtual 193, 3) := by decide +kernel
theorem dX11_cheapestMend_94 : decode cX11_cheapestMend 94 = .ok (.iload_n 2, 1) := by decide +kernel
theorem dX11_cheapestMend_95 : decode cX11_cheapestMend 95 = .ok (.if_icmp .ne 10, 3) := by decide +kernel
theorem dX11_cheapestMend_98 : decode cX11_cheapestMend 98 = .ok (.iload 6, 2) := by decide +kernel
theorem dX11_cheapestMend_100 : decode cX11_cheapestMend 100 = .ok (.istore 4, 2) := by decide +kernel
theorem dX11_cheapestMend_102 : decode cX11_cheapestMend 102 = .ok (.iload 5, 2) := by decide +kernel
theorem dX11_cheapestMend_104 : decode cX11_cheapestMend 104 = .ok (.istore_n 3, 1) := by decide +kernel
theorem dX11_cheapestMend_105 : decode cX11_cheapestMend 105 = .ok (.iinc 5 1, 3) := by decide +kernel
theorem dX11_cheapestMend_108 : decode cX11_cheapestMend 108 = .ok (.goto (-73), 3) := by decide +kernel
theorem dX11_cheapestMend_111 : decode cX11_cheapestMend 111 = .ok (.iload_n 3, 1) := by decide +kernel
theorem dX11_cheapestMend_112 : decode cX11_cheapestMend 112 = .ok (.ireturn, 1) := by decide +kernel
theorem dX11_leastBreak_0 : decode cX11_leastBreak 0 = .ok (.aload_n 0, 1) := by decide +kernel
theorem dX11_leastBreak_1 : decode cX11_leastBreak 1 = .ok (.iconst 0, 1) := by decide +kernel
theorem dX11_leastBreak_2 : decode cX11_leastBreak 2 = .ok (.invokevirtual 145, 3) := by decide +kernel
theorem dX11_leastBreak_5 : decode cX11_leastBreak 5 = .ok (.aload_n 0, 1) := by decide +kernel
theorem dX11_leastBreak_6 : decode cX11_leastBreak 6 = .ok (.getfield 40, 3) := by decide +kernel
theorem dX11_leastBreak_9 : decode cX11_leastBreak 9 = .ok (.invokevirtual 161, 3) := by decide +kernel
theorem dX11_leastBreak_12 : decode cX11_leastBreak 12 = .ok (.istore_n 2, 1) := by decide +kernel
theorem dX11_leastBreak_13 : decode cX11_leastBreak 13 = .ok (.iload_n 2, 1) := by decide +kernel
theorem dX11_leastBreak_14 : decode cX11_leastBreak 14 = .ok (.istore_n 3, 1) := by decide +kernel
theorem dX11_leastBreak_15 : decode cX11_leastBreak 15 = .ok (.iload_n 1, 1) := by decide +kernel
theorem dX11_leastBreak_16 : decode cX11_leastBreak 16 = .ok (.ifCond .eq 14, 3) := by decide +kernel
theorem dX11_leastBreak_19 : decode cX11_leastBreak 19 = .ok (.aload_n 0, 1) := by decide +kernel
theorem dX11_leastBreak_20 : decode cX11_leastBreak 20 = .ok (.getfield 40, 3) := by decide +kernel
theorem dX11_leastBreak_23 : decode cX11_leastBreak 23 = .ok (.iload_n 2, 1) := by decide +kernel
theorem dX11_leastBreak_24 : decode cX11_leastBreak 24 = .ok (.invokevirtual 151, 3) := by decide +kernel
theorem dX11_leastBreak_27 : decode cX11_leastBreak 27 = .ok (.goto 7, 3) := by decide +kernel
theorem dX11_leastBreak_30 : decode cX11_leastBreak 30 = .ok (.iload_n 2, 1) := by decide +kernel
theorem dX11_leastBreak_31 : decode cX11_leastBreak 31 = .ok (.invokestatic 214, 3) := by decide +kernel
theorem dX11_leastBreak_34 : decode cX11_leastBreak 34 = .ok (.istore 4, 2) := by decide +kernel
theorem dX11_leastBreak_36 : decode cX11_leastBreak 36 = .ok (.iconst 0, 1) := by decide +kernel
theorem dX11_leastBreak_37 : decode cX11_leastBreak 37 = .ok (.istore 5, 2) := by decide +kernel
theorem dX11_leastBreak_39 : decode cX11_leastBreak 39 = .ok (.iload 5, 2) := by decide +kernel
theorem dX11_leastBreak_41 : decode cX11_leastBreak 41 = .ok (.iload_n 2, 1) := by decide +kernel
theorem dX11_leastBreak_42 : decode cX11_leastBreak 42 = .ok (.if_icmp .gt 71, 3) := by decide +kernel
theorem dX11_leastBreak_45 : decode cX11_leastBreak 45 = .ok (.iload 5, 2) := by decide +kernel
theorem dX11_leastBreak_47 : decode cX11_leastBreak 47 = .ok (.iload_n 2, 1) := by decide +kernel
theorem dX11_leastBreak_48 : decode cX11_leastBreak 48 = .ok (.invokestatic 229, 3) := by decide +kernel
theorem dX11_leastBreak_51 : decode cX11_leastBreak 51 = .ok (.ifCond .eq 56, 3) := by decide +kernel
theorem dX11_leastBreak_54 : decode cX11_leastBreak 54 = .ok (.aload_n 0, 1) := by decide +kernel
theorem dX11_leastBreak_55 : decode cX11_leastBreak 55 = .ok (.getfield 19, 3) := by decide +kernel
theorem dX11_leastBreak_58 : decode cX11_leastBreak 58 = .ok (.iload_n 2, 1) := by decide +kernel
theorem dX11_leastBreak_59 : decode cX11_leastBreak 59 = .ok (.iload 5, 2) := by decide +kernel
theorem dX11_leastBreak_61 : decode cX11_leastBreak 61 = .ok (.iconst (-1), 1) := by decide +kernel
theorem dX11_leastBreak_62 : decode cX11_leastBreak 62 = .ok (.ixor, 1) := by decide +kernel
theorem dX11_leastBreak_63 : decode cX11_leastBreak 63 = .ok (.iand, 1) := by decide +kernel
theorem dX11_leastBreak_64 : decode cX11_leastBreak 64 = .ok (.invokevirtual 222, 3) := by decide +kernel
theorem dX11_leastBreak_67 : decode cX11_leastBreak 67 = .ok (.ifCond .ne 40, 3) := by decide +kernel
theorem dX11_leastBreak_70 : decode cX11_leastBreak 70 = .ok (.iload_n 1, 1) := by decide +kernel
theorem dX11_leastBreak_71 : decode cX11_leastBreak 71 = .ok (.ifCond .eq 15, 3) := by decide +kernel
theorem dX11_leastBreak_74 : decode cX11_leastBreak 74 = .ok (.aload_n 0, 1) := by decide +kernel
theorem dX11_leastBreak_75 : decode cX11_leastBreak 75 = .ok (.getfield 40, 3) := by decide +kernel
theorem dX11_leastBreak_78 : decode cX11_leastBreak 78 = .ok (.iload 5, 2) := by decide +kernel
theorem dX11_leastBreak_80 : decode cX11_leastBreak 80 = .ok (.invokevirtual 151, 3) := by decide +kernel
theorem dX11_leastBreak_83 : decode cX11_leastBreak 83 = .ok (.goto 8, 3) := by decide +kernel
theorem dX11_leastBreak_86 : decode cX11_leastBreak 86 = .ok (.iload 5, 2) := by decide +kernel
theorem dX11_leastBreak_88 : decode cX11_leastBreak 88 = .ok (.invokestatic 214, 3) := by decide +kernel
theorem dX11_leastBreak_91 : decode cX11_leastBreak 91 = .ok (.istore 6, 2) := by decide +kernel
theorem dX11_leastBreak_93 : decode cX11_leastBreak 93 = .ok (.iload 6, 2) := by decide +kernel
theorem dX11_leastBreak_95 : decode cX11_leastBreak 95 = .ok (.iload 4, 2) := by decide +kernel
theorem dX11_leastBreak_97 : decode cX11_leastBreak 97 = .ok (.if_icmp .ge 10, 3) := by decide +kernel
theorem dX11_leastBreak_100 : decode cX11_leastBreak 100 = .ok (.iload 6, 2) := by decide +kernel
theorem dX11_leastBreak_102 : decode cX11_leastBreak 102 = .ok (.istore 4, 2) := by decide +kernel
theorem dX11_leastBreak_104 : decode cX11_leastBreak 104 = .ok (.iload 5, 2) := by decide +kernel
theorem dX11_leastBreak_106 : decode cX11_leastBreak 106 = .ok (.istore_n 3, 1) := by decide +kernel
theorem dX11_leastBreak_107 : decode cX11_leastBreak 107 = .ok (.iinc 5 1, 3) := by decide +kernel
theorem dX11_leastBreak_110 : decode cX11_leastBreak 110 = .ok (.goto (-71), 3) := by decide +kernel
theorem dX11_leastBreak_113 : decode cX11_leastBreak 113 = .ok (.iload_n 3, 1) := by decide +kernel
theorem dX11_leastBreak_114 : decode cX11_leastBreak 114 = .ok (.ireturn, 1) := by decide +kernel
theorem dX11_gain_0 : decode cX11_gain 0 = .ok (.iload_n 1, 1) := by decide +kernel
theorem dX11_gain_1 : decode cX11_gain 1 = .ok (.ifCond .eq 15, 3) := by decide +kernel
theorem dX11_gain_4 : decode cX11_gain 4 = .ok (.iload_n 2, 1) := by decide +kernel
theorem dX11_gain_5 : decode cX11_gain 5 = .ok (.ifCond .eq 9, 3) := by decide +kernel
theorem dX11_gain_8 : decode cX11_gain 8 = .ok (.iconst 1, 1) := by decide +kernel
theorem dX11_gain_9 : decode cX11_gain 9 = .ok (.iload_n 0, 1) := by decide +kernel
theorem dX11_gain_10 : decode cX11_gain 10 = .ok (.isub, 1) := by decide +kernel
theorem dX11_gain_11 : decode cX11_gain 11 = .ok (.goto 4, 3) := by decide +kernel
theorem dX11_gain_14 : decode cX11_gain 14 = .ok (.iconst 2, 1) := by decide +kernel
theorem dX11_gain_15 : decode cX11_gain 15 = .ok (.ireturn, 1) := by decide +kernel
theorem dX11_gain_16 : decode cX11_gain 16 = .ok (.iload_n 2, 1) := by decide +kernel
theorem dX11_gain_17 : decode cX11_gain 17 = .ok (.ifCond .eq 7, 3) := by decide +kernel
theorem dX11_gain_20 : decode cX11_gain 20 = .ok (.iconst (-1), 1) := by decide +kernel
theorem dX11_gain_21 : decode cX11_gain 21 = .ok (.goto 4, 3) := by decide +kernel
theorem dX11_gain_24 : decode cX11_gain 24 = .ok (.iconst 1, 1) := by decide +kernel
theorem dX11_gain_25 : decode cX11_gain 25 = .ok (.ireturn, 1) := by decide +kernel
theorem dX11_isRest_0 : decode cX11_isRest 0 = .ok (.iload_n 0, 1) := by decide +kernel
theorem dX11_isRest_1 : decode cX11_isRest 1 = .ok (.iload_n 1, 1) := by decide +kernel
theorem dX11_isRest_2 : decode cX11_isRest 2 = .ok (.iload_n 2, 1) := by decide +kernel
theorem dX11_isRest_3 : decode cX11_isRest 3 = .ok (.invokestatic 286, 3) := by decide +kernel
theorem dX11_isRest_6 : decode cX11_isRest 6 = .ok (.iload_n 0, 1) := by decide +kernel
theorem dX11_isRest_7 : decode cX11_isRest 7 = .ok (.iload_n 1, 1) := by decide +kernel
theorem dX11_isRest_8 : decode cX11_isRest 8 = .ok (.ifCond .ne 7, 3) := by decide +kernel
theorem dX11_isRest_11 : decode cX11_isRest 11 = .ok (.iconst 1, 1) := by decide +kernel
theorem dX11_isRest_12 : decode cX11_isRest 12 = .ok (.goto 4, 3) := by decide +kernel
theorem dX11_isRest_15 : decode cX11_isRest 15 = .ok (.iconst 0, 1) := by decide +kernel
theorem dX11_isRest_16 : decode cX11_isRest 16 = .ok (.iload_n 2, 1) := by decide +kernel
theorem dX11_isRest_17 : decode cX11_isRest 17 = .ok (.invokestatic 286, 3) := by decide +kernel
theorem dX11_isRest_20 : decode cX11_isRest 20 = .ok (.if_icmp .lt 30, 3) := by decide +kernel
theorem dX11_isRest_23 : decode cX11_isRest 23 = .ok (.iload_n 0, 1) := by decide +kernel
theorem dX11_isRest_24 : decode cX11_isRest 24 = .ok (.iload_n 2, 1) := by decide +kernel
theorem dX11_isRest_25 : decode cX11_isRest 25 = .ok (.iload_n 1, 1) := by decide +kernel
theorem dX11_isRest_26 : decode cX11_isRest 26 = .ok (.invokestatic 286, 3) := by decide +kernel
theorem dX11_isRest_29 : decode cX11_isRest 29 = .ok (.iload_n 0, 1) := by decide +kernel
theorem dX11_isRest_30 : decode cX11_isRest 30 = .ok (.iload_n 2, 1) := by decide +kernel
theorem dX11_isRest_31 : decode cX11_isRest 31 = .ok (.ifCond .ne 7, 3) := by decide +kernel
theorem dX11_isRest_34 : decode cX11_isRest 34 = .ok (.iconst 1, 1) := by decide +kernel
theorem dX11_isRest_35 : decode cX11_isRest 35 = .ok (.goto 4, 3) := by decide +kernel
theorem dX11_isRest_38 : decode cX11_isRest 38 = .ok (.iconst 0, 1) := by decide +kernel
theorem dX11_isRest_39 : decode cX11_isRest 39 = .ok (.iload_n 1, 1) := by decide +kernel
theorem dX11_isRest_40 : decode cX11_isRest 40 = .ok (.invokestatic 286, 3) := by decide +kernel
theorem dX11_isRest_43 : decode cX11_isRest 43 = .ok (.if_icmp .lt 7, 3) := by decide +kernel
theorem dX11_isRest_46 : decode cX11_isRest 46 = .ok (.iconst 1, 1) := by decide +kernel
theorem dX11_isRest_47 : decode cX11_isRest 47 = .ok (.goto 4, 3) := by decide +kernel
theorem dX11_isRest_50 : decode cX11_isRest 50 = .ok (.iconst 0, 1) := by decide +kernel
theorem dX11_isRest_51 : decode cX11_isRest 51 = .ok (.ireturn, 1) := by decide +kernel
theorem dX11_chanceOf_0 : decode cX11_chanceOf 0 = .ok (.aload_n 0, 1) := by decide +kernel
theorem dX11_chanceOf_1 : decode cX11_chanceOf 1 = .ok (.getfield 19, 3) := by decide +kernel
theorem dX11_chanceOf_4 : decode cX11_chanceOf 4 = .ok (.invokevirtual 307, 3) := by decide +kernel
theorem dX11_chanceOf_7 : decode cX11_chanceOf 7 = .ok (.istore_n 3, 1) := by decide +kernel
theorem dX11_chanceOf_8 : decode cX11_chanceOf 8 = .ok (.bipush 100, 2) := by decide +kernel
theorem dX11_chanceOf_10 : decode cX11_chanceOf 10 = .ok (.iload_n 3, 1) := by decide +kernel
theorem dX11_chanceOf_11 : decode cX11_chanceOf 11 = .ok (.isub, 1) := by decide +kernel
theorem dX11_chanceOf_12 : decode cX11_chanceOf 12 = .ok (.i2l, 1) := by decide +kernel
theorem dX11_chanceOf_13 : decode cX11_chanceOf 13 = .ok (.iload_n 1, 1) := by decide +kernel
theorem dX11_chanceOf_14 : decode cX11_chanceOf 14 = .ok (.invokestatic 214, 3) := by decide +kernel
theorem dX11_chanceOf_17 : decode cX11_chanceOf 17 = .ok (.invokestatic 300, 3) := by decide +kernel
theorem dX11_chanceOf_20 : decode cX11_chanceOf 20 = .ok (.iload_n 3, 1) := by decide +kernel
theorem dX11_chanceOf_21 : decode cX11_chanceOf 21 = .ok (.i2l, 1) := by decide +kernel
theorem dX11_chanceOf_22 : decode cX11_chanceOf 22 = .ok (.iload_n 2, 1) := by decide +kernel
theorem dX11_chanceOf_23 : decode cX11_chanceOf 23 = .ok (.iload_n 1, 1) := by decide +kernel
theorem dX11_chanceOf_24 : decode cX11_chanceOf 24 = .ok (.iconst (-1), 1) := by decide +kernel
theorem dX11_chanceOf_25 : decode cX11_chanceOf 25 = .ok (.ixor, 1) := by decide +kernel
theorem dX11_chanceOf_26 : decode cX11_chanceOf 26 = .ok (.iand, 1) := by decide +kernel
theorem dX11_chanceOf_27 : decode cX11_chanceOf 27 = .ok (.invokestatic 214, 3) := by decide +kernel
theorem dX11_chanceOf_30 : decode cX11_chanceOf 30 = .ok (.invokestatic 300, 3) := by decide +kernel
theorem dX11_chanceOf_33 : decode cX11_chanceOf 33 = .ok (.lmul, 1) := by decide +kernel
theorem dX11_chanceOf_34 : decode cX11_chanceOf 34 = .ok (.lreturn, 1) := by decide +kernel
theorem dX11_power_0 : decode cX11_power 0 = .ok (.lconst 1, 1) := by decide +kernel
theorem dX11_power_1 : decode cX11_power 1 = .ok (.lstore_n 3, 1) := by decide +kernel
theorem dX11_power_2 : decode cX11_power 2 = .ok (.iconst 0, 1) := by decide +kernel
theorem dX11_power_3 : decode cX11_power 3 = .ok (.istore 5, 2) := by decide +kernel
theorem dX11_power_5 : decode cX11_power 5 = .ok (.iload 5, 2) := by decide +kernel
theorem dX11_power_7 : decode cX11_power 7 = .ok (.iload_n 2, 1) := by decide +kernel
theorem dX11_power_8 : decode cX11_power 8 = .ok (.if_icmp .ge 13, 3) := by decide +kernel
theorem dX11_power_11 : decode cX11_power 11 = .ok (.lload_n 3, 1) := by decide +kernel
theorem dX11_power_12 : decode cX11_power 12 = .ok (.lload_n 0, 1) := by decide +kernel
theorem dX11_power_13 : decode cX11_power 13 = .ok (.lmul, 1) := by decide +kernel
theorem dX11_power_14 : decode cX11_power 14 = .ok (.lstore_n 3, 1) := by decide +kernel
theorem dX11_power_15 : decode cX11_power 15 = .ok (.iinc 5 1, 3) := by decide +kernel
theorem dX11_power_18 : decode cX11_power 18 = .ok (.goto (-13), 3) := by decide +kernel
theorem dX11_power_21 : decode cX11_power 21 = .ok (.lload_n 3, 1) := by decide +kernel
theorem dX11_power_22 : decode cX11_power 22 = .ok (.lreturn, 1) := by decide +kernel
