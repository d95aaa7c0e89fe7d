theorem dR_holdAll_9 : decode cR_holdAll 9 = .ok (.aload_n 0, 1) := by decide +kernel
theorem dR_holdAll_10 : decode cR_holdAll 10 = .ok (.iconst 1, 1) := by decide +kernel
theorem dR_holdAll_11 : decode cR_holdAll 11 = .ok (.putfield 15, 3) := by decide +kernel
theorem dR_holdAll_14 : decode cR_holdAll 14 = .ok (.return_, 1) := by decide +kernel
theorem dR_init_0 : decode cR_init 0 = .ok (.aload_n 0, 1) := by decide +kernel
theorem dR_init_1 : decode cR_init 1 = .ok (.invokespecial 5, 3) := by decide +kernel
theorem dR_init_4 : decode cR_init 4 = .ok (.aload_n 0, 1) := by decide +kernel
theorem dR_init_5 : decode cR_init 5 = .ok (.sipush 1024, 3) := by decide +kernel
theorem dR_init_8 : decode cR_init 8 = .ok (.newarray .long, 2) := by decide +kernel
theorem dR_init_10 : decode cR_init 10 = .ok (.putfield 11, 3) := by decide +kernel
theorem dR_init_13 : decode cR_init 13 = .ok (.aload_n 0, 1) := by decide +kernel
theorem dR_init_14 : decode cR_init 14 = .ok (.iconst 0, 1) := by decide +kernel
theorem dR_init_15 : decode cR_init 15 = .ok (.putfield 15, 3) := by decide +kernel
theorem dR_init_18 : decode cR_init 18 = .ok (.return_, 1) := by decide +kernel
theorem dR_innerRows_0 : decode cR_innerRows 0 = .ok (.iload_n 0, 1) := by decide +kernel
theorem dR_innerRows_1 : decode cR_innerRows 1 = .ok (.iconst 1, 1) := by decide +kernel
theorem dR_innerRows_2 : decode cR_innerRows 2 = .ok (.ishr, 1) := by decide +kernel
theorem dR_innerRows_3 : decode cR_innerRows 3 = .ok (.istore_n 1, 1) := by decide +kernel
theorem dR_innerRows_4 : decode cR_innerRows 4 = .ok (.iload_n 1, 1) := by decide +kernel
theorem dR_innerRows_5 : decode cR_innerRows 5 = .ok (.ifCond .lt 11, 3) := by decide +kernel
theorem dR_innerRows_8 : decode cR_innerRows 8 = .ok (.iload_n 1, 1) := by decide +kernel
theorem dR_innerRows_9 : decode cR_innerRows 9 = .ok (.getstatic 31, 3) := by decide +kernel
theorem dR_innerRows_12 : decode cR_innerRows 12 = .ok (.arraylength, 1) := by decide +kernel
theorem dR_innerRows_13 : decode cR_innerRows 13 = .ok (.if_icmp .lt 5, 3) := by decide +kernel
theorem dR_innerRows_16 : decode cR_innerRows 16 = .ok (.lconst 0, 1) := by decide +kernel
theorem dR_innerRows_17 : decode cR_innerRows 17 = .ok (.lreturn, 1) := by decide +kernel
theorem dR_innerRows_18 : decode cR_innerRows 18 = .ok (.iload_n 0, 1) := by decide +kernel
theorem dR_innerRows_19 : decode cR_innerRows 19 = .ok (.iconst 1, 1) := by decide +kernel
theorem dR_innerRows_20 : decode cR_innerRows 20 = .ok (.iand, 1) := by decide +kernel
theorem dR_innerRows_21 : decode cR_innerRows 21 = .ok (.ifCond .ne 11, 3) := by decide +kernel
theorem dR_innerRows_24 : decode cR_innerRows 24 = .ok (.getstatic 31, 3) := by decide +kernel
theorem dR_innerRows_27 : decode cR_innerRows 27 = .ok (.iload_n 1, 1) := by decide +kernel
theorem dR_innerRows_28 : decode cR_innerRows 28 = .ok (.laload, 1) := by decide +kernel
theorem dR_innerRows_29 : decode cR_innerRows 29 = .ok (.goto 12, 3) := by decide +kernel
theorem dR_innerRows_32 : decode cR_innerRows 32 = .ok (.getstatic 31, 3) := by decide +kernel
theorem dR_innerRows_35 : decode cR_innerRows 35 = .ok (.iload_n 1, 1) := by decide +kernel
theorem dR_innerRows_36 : decode cR_innerRows 36 = .ok (.laload, 1) := by decide +kernel
theorem dR_innerRows_37 : decode cR_innerRows 37 = .ok (.ldc2_w 19, 3) := by decide +kernel
theorem dR_innerRows_40 : decode cR_innerRows 40 = .ok (.lxor, 1) := by decide +kernel
theorem dR_innerRows_41 : decode cR_innerRows 41 = .ok (.lreturn, 1) := by decide +kernel
theorem dR_keepClause_0 : decode cR_keepClause 0 = .ok (.aload_n 1, 1) := by decide +kernel
theorem dR_keepClause_1 : decode cR_keepClause 1 = .ok (.ifnonnull 4, 3) := by decide +kernel
theorem dR_keepClause_4 : decode cR_keepClause 4 = .ok (.return_, 1) := by decide +kernel
theorem dR_keepClause_5 : decode cR_keepClause 5 = .ok (.lconst 0, 1) := by decide +kernel
theorem dR_keepClause_6 : decode cR_keepClause 6 = .ok (.lstore_n 3, 1) := by decide +kernel
theorem dR_keepClause_7 : decode cR_keepClause 7 = .ok (.iconst 0, 1) := by decide +kernel
theorem dR_keepClause_8 : decode cR_keepClause 8 = .ok (.istore 5, 2) := by decide +kernel
theorem dR_keepClause_10 : decode cR_keepClause 10 = .ok (.iconst 0, 1) := by decide +kernel
theorem dR_keepClause_11 : decode cR_keepClause 11 = .ok (.istore 6, 2) := by decide +kernel
theorem dR_keepClause_13 : decode cR_keepClause 13 = .ok (.iconst 0, 1) := by decide +kernel
theorem dR_keepClause_14 : decode cR_keepClause 14 = .ok (.istore 7, 2) := by decide +kernel
theorem dR_keepClause_16 : decode cR_keepClause 16 = .ok (.iload 7, 2) := by decide +kernel
theorem dR_keepClause_18 : decode cR_keepClause 18 = .ok (.iload_n 2, 1) := by decide +kernel
theorem dR_keepClause_19 : decode cR_keepClause 19 = .ok (.if_icmp .ge 50, 3) := by decide +kernel
theorem dR_keepClause_22 : decode cR_keepClause 22 = .ok (.iload 7, 2) := by decide +kernel
theorem dR_keepClause_24 : decode cR_keepClause 24 = .ok (.aload_n 1, 1) := by decide +kernel
theorem dR_keepClause_25 : decode cR_keepClause 25 = .ok (.arraylength, 1) := by decide +kernel
theorem dR_keepClause_26 : decode cR_keepClause 26 = .ok (.if_icmp .ge 43, 3) := by decide +kernel
theorem dR_keepClause_29 : decode cR_keepClause 29 = .ok (.lload_n 3, 1) := by decide +kernel
theorem dR_keepClause_30 : decode cR_keepClause 30 = .ok (.aload_n 1, 1) := by decide +kernel
theorem dR_keepClause_31 : decode cR_keepClause 31 = .ok (.iload 7, 2) := by decide +kernel
theorem dR_keepClause_33 : decode cR_keepClause 33 = .ok (.iaload, 1) := by decide +kernel
theorem dR_keepClause_34 : decode cR_keepClause 34 = .ok (.invokestatic 42, 3) := by decide +kernel
theorem dR_keepClause_37 : decode cR_keepClause 37 = .ok (.lor, 1) := by decide +kernel
theorem dR_keepClause_38 : decode cR_keepClause 38 = .ok (.lstore_n 3, 1) := by decide +kernel
theorem dR_keepClause_39 : decode cR_keepClause 39 = .ok (.iload 5, 2) := by decide +kernel
theorem dR_keepClause_41 : decode cR_keepClause 41 = .ok (.aload_n 1, 1) := by decide +kernel
theorem dR_keepClause_42 : decode cR_keepClause 42 = .ok (.iload 7, 2) := by decide +kernel
theorem dR_keepClause_44 : decode cR_keepClause 44 = .ok (.iaload, 1) := by decide +kernel
theorem dR_keepClause_45 : decode cR_keepClause 45 = .ok (.invokestatic 46, 3) := by decide +kernel
theorem dR_keepClause_48 : decode cR_keepClause 48 = .ok (.ior, 1) := by decide +kernel
theorem dR_keepClause_49 : decode cR_keepClause 49 = .ok (.istore 5, 2) := by decide +kernel
theorem dR_keepClause_51 : decode cR_keepClause 51 = .ok (.iload 6, 2) := by decide +kernel
theorem dR_keepClause_53 : decode cR_keepClause 53 = .ok (.aload_n 1, 1) := by decide +kernel
theorem dR_keepClause_54 : decode cR_keepClause 54 = .ok (.iload 7, 2) := by decide +kernel
theorem dR_keepClause_56 : decode cR_keepClause 56 = .ok (.iaload, 1) := by decide +kernel
theorem dR_keepClause_57 : decode cR_keepClause 57 = .ok (.invokestatic 50, 3) := by decide +kernel
theorem dR_keepClause_60 : decode cR_keepClause 60 = .ok (.ior, 1) := by decide +kernel
theorem dR_keepClause_61 : decode cR_keepClause 61 = .ok (.istore 6, 2) := by decide +kernel
theorem dR_keepClause_63 : decode cR_keepClause 63 = .ok (.iinc 7 1, 3) := by decide +kernel
theorem dR_keepClause_66 : decode cR_keepClause 66 = .ok (.goto (-50), 3) := by decide +kernel
theorem dR_keepClause_69 : decode cR_keepClause 69 = .ok (.aload_n 0, 1) := by decide +kernel
theorem dR_keepClause_70 : decode cR_keepClause 70 = .ok (.lload_n 3, 1) := by decide +kernel
theorem dR_keepClause_71 : decode cR_keepClause 71 = .ok (.iload 5, 2) := by decide +kernel
theorem dR_keepClause_73 : decode cR_keepClause 73 = .ok (.iload 6, 2) := by decide +kernel
theorem dR_keepClause_75 : decode cR_keepClause 75 = .ok (.invokevirtual 57, 3) := by decide +kernel
theorem dR_keepClause_78 : decode cR_keepClause 78 = .ok (.pop, 1) := by decide +kernel
theorem dR_keepClause_79 : decode cR_keepClause 79 = .ok (.return_, 1) := by decide +kernel
theorem dR_keepRows_0 : decode cR_keepRows 0 = .ok (.lconst 0, 1) := by decide +kernel
theorem dR_keepRows_1 : decode cR_keepRows 1 = .ok (.lstore 5, 2) := by decide +kernel
theorem dR_keepRows_3 : decode cR_keepRows 3 = .ok (.aload_n 0, 1) := by decide +kernel
theorem dR_keepRows_4 : decode cR_keepRows 4 = .ok (.invokevirtual 21, 3) := by decide +kernel
theorem dR_keepRows_7 : decode cR_keepRows 7 = .ok (.istore 7, 2) := by decide +kernel
theorem dR_keepRows_9 : decode cR_keepRows 9 = .ok (.iconst 0, 1) := by decide +kernel
theorem dR_keepRows_10 : decode cR_keepRows 10 = .ok (.istore 8, 2) := by decide +kernel
theorem dR_keepRows_12 : decode cR_keepRows 12 = .ok (.iload 8, 2) := by decide +kernel
theorem dR_keepRows_14 : decode cR_keepRows 14 = .ok (.iload 7, 2) := by decide +kernel
theorem dR_keepRows_16 : decode cR_keepRows 16 = .ok (.if_icmp .ge 49, 3) := by decide +kernel
theorem dR_keepRows_19 : decode cR_keepRows 19 = .ok (.iload 8, 2) := by decide +kernel
theorem dR_keepRows_21 : decode cR_keepRows 21 = .ok (.iload_n 3, 1) := by decide +kernel
theorem dR_keepRows_22 : decode cR_keepRows 22 = .ok (.iand, 1) := by decide +kernel
theorem dR_keepRows_23 : decode cR_keepRows 23 = .ok (.ifCond .ne 24, 3) := by decide +kernel
theorem dR_keepRows_26 : decode cR_keepRows 26 = .ok (.iload 8, 2) := by decide +kernel
theorem dR_keepRows_28 : decode cR_keepRows 28 = .ok (.iconst (-1), 1) := by decide +kernel
theorem dR_keepRows_29 : decode cR_keepRows 29 = .ok (.ixor, 1) := by decide +kernel
theorem dR_keepRows_30 : decode cR_keepRows 30 = .ok (.iload 4, 2) := by decide +kernel
theorem dR_keepRows_32 : decode cR_keepRows 32 = .ok (.iand, 1) := by decide +kernel
theorem dR_keepRows_33 : decode cR_keepRows 33 = .ok (.ifCond .ne 14, 3) := by decide +kernel
theorem dR_keepRows_36 : decode cR_keepRows 36 = .ok (.aload_n 0, 1) := by decide +kernel
theorem dR_keepRows_37 : decode cR_keepRows 37 = .ok (.getfield 11, 3) := by decide +kernel
theorem dR_keepRows_40 : decode cR_keepRows 40 = .ok (.iload 8, 2) := by decide +kernel
theorem dR_keepRows_42 : decode cR_keepRows 42 = .ok (.dup2, 1) := by decide +kernel
theorem dR_keepRows_43 : decode cR_keepRows 43 = .ok (.laload, 1) := by decide +kernel
theorem dR_keepRows_44 : decode cR_keepRows 44 = .ok (.lload_n 1, 1) := by decide +kernel
theorem dR_keepRows_45 : decode cR_keepRows 45 = .ok (.land, 1) := by decide +kernel
theorem dR_keepRows_46 : decode cR_keepRows 46 = .ok (.lastore, 1) := by decide +kernel
theorem dR_keepRows_47 : decode cR_keepRows 47 = .ok (.lload 5, 2) := by decide +kernel
theorem dR_keepRows_49 : decode cR_keepRows 49 = .ok (.aload_n 0, 1) := by decide +kernel
theorem dR_keepRows_50 : decode cR_keepRows 50 = .ok (.getfield 11, 3) := by decide +kernel
theorem dR_keepRows_53 : decode cR_keepRows 53 = .ok (.iload 8, 2) := by decide +kernel
theorem dR_keepRows_55 : decode cR_keepRows 55 = .ok (.laload, 1) := by decide +kernel
theorem dR_keepRows_56 : decode cR_keepRows 56 = .ok (.lor, 1) := by decide +kernel
theorem dR_keepRows_57 : decode cR_keepRows 57 = .ok (.lstore 5, 2) := by decide +kernel
theorem dR_keepRows_59 : decode cR_keepRows 59 = .ok (.iinc 8 1, 3) := by decide +kernel
theorem dR_keepRows_62 : decode cR_keepRows 62 = .ok (.goto (-50), 3) := by decide +kernel
theorem dR_keepRows_65 : decode cR_keepRows 65 = .ok (.lload 5, 2) := by decide +kernel
theorem dR_keepRows_67 : decode cR_keepRows 67 = .ok (.lconst 0, 1) := by decide +kernel
theorem dR_keepRows_68 : decode cR_keepRows 68 = .ok (.lcmp, 1) := by decide +kernel
theorem dR_keepRows_69 : decode cR_keepRows 69 = .ok (.ifCond .eq 7, 3) := by decide +kernel
theorem dR_keepRows_72 : decode cR_keepRows 72 = .ok (.iconst 1, 1) := by decide +kernel
theorem dR_keepRows_73 : decode cR_keepRows 73 = .ok (.goto 4, 3) := by decide +kernel
theorem dR_keepRows_76 : decode cR_keepRows 76 = .ok (.iconst 0, 1) := by decide +kernel
theorem dR_keepRows_77 : decode cR_keepRows 77 = .ok (.ireturn, 1) := by decide +kernel
theorem dR_keepWith_0 : decode cR_keepWith 0 = .ok (.aload_n 0, 1) := by decide +kernel
theorem dR_keepWith_1 : decode cR_keepWith 1 = .ok (.iload_n 1, 1) := by decide +kernel
theorem dR_keepWith_2 : decode cR_keepWith 2 = .ok (.invokestatic 42, 3) := by decide +kernel
theorem dR_keepWith_5 : decode cR_keepWith 5 = .ok (.iload_n 1, 1) := by decide +kernel
theorem dR_keepWith_6 : decode cR_keepWith 6 = .ok (.invokestatic 46, 3) := by decide +kernel
theorem dR_keepWith_9 : decode cR_keepWith 9 = .ok (.iload_n 1, 1) := by decide +kernel
theorem dR_keepWith_10 : decode cR_keepWith 10 = .ok (.invokestatic 50, 3) := by decide +kernel
theorem dR_keepWith_13 : decode cR_keepWith 13 = .ok (.invokevirtual 57, 3) := by decide +kernel
theorem dR_keepWith_16 : decode cR_keepWith 16 = .ok (.ireturn, 1) := by decide +kernel
theorem dR_leastRow_0 : decode cR_leastRow 0 = .ok (.lconst 0, 1) := by decide +kernel
theorem dR_leastRow_1 : decode cR_leastRow 1 = .ok (.lstore_n 1, 1) := by decide +kernel
theorem dR_leastRow_2 : decode cR_leastRow 2 = .ok (.aload_n 0, 1) := by decide +kernel
theorem dR_leastRow_3 : decode cR_leastRow 3 = .ok (.invokevirtual 21, 3) := by decide +kernel
theorem dR_leastRow_6 : decode cR_leastRow 6 = .ok (.istore_n 3, 1) := by decide +kernel
theorem dR_leastRow_7 : decode cR_leastRow 7 = .ok (.iconst 0, 1) := by decide +kernel
theorem dR_leastRow_8 : decode cR_leastRow 8 = .ok (.istore 4, 2) := by decide +kernel
theorem dR_leastRow_10 : decode cR_leastRow 10 = .ok (.iload 4, 2) := by decide +kernel
theorem dR_leastRow_12 : decode cR_leastRow 12 = .ok (.iload_n 3, 1) := by decide +kernel
theorem dR_leastRow_13 : decode cR_leastRow 13 = .ok (.if_icmp .ge 19, 3) := by decide +kernel
theorem dR_leastRow_16 : decode cR_leastRow 16 = .ok (.lload_n 1, 1) := by decide +kernel
theorem dR_leastRow_17 : decode cR_leastRow 17 = .ok (.aload_n 0, 1) := by decide +kernel
theorem dR_leastRow_18 : decode cR_leastRow 18 = .ok (.getfield 11, 3) := by decide +kernel
theorem dR_leastRow_21 : decode cR_leastRow 21 = .ok (.iload 4, 2) := by decide +kernel
theorem dR_leastRow_23 : decode cR_leastRow 23 = .ok (.laload, 1) := by decide +kernel
theorem dR_leastRow_24 : decode cR_leastRow 24 = .ok (.lor, 1) := by decide +kernel
theorem dR_leastRow_25 : decode cR_leastRow 25 = .ok (.lstore_n 1, 1) := by decide +kernel
theorem dR_leastRow_26 : decode cR_leastRow 26 = .ok (.iinc 4 1, 3) := by decide +kernel
theorem dR_leastRow_29 : decode cR_leastRow 29 = .ok (.goto (-19), 3) := by decide +kernel
theorem dR_leastRow_32 : decode cR_leastRow 32 = .ok (.iconst 0, 1) := by decide +kernel
theorem dR_leastRow_33 : decode cR_leastRow 33 = .ok (.istore 4, 2) := by decide +kernel
theorem dR_leastRow_35 : decode cR_leastRow 35 = .ok (.iconst 0, 1) := by decide +kernel
theorem dR_leastRow_36 : decode cR_leastRow 36 = .ok (.istore 5, 2) := by decide +kernel
theorem dR_leastRow_38 : decode cR_leastRow 38 = .ok (.iload 5, 2) := by decide +kernel
theorem dR_leastRow_40 : decode cR_leastRow 40 = .ok (.getstatic 31, 3) := by decide +kernel
theorem dR_leastRow_43 : decode cR_leastRow 43 = .ok (.arraylength, 1) := by decide +kernel
theorem dR_leastRow_44 : decode cR_leastRow 44 = .ok (.if_icmp .ge 45, 3) := by decide +kernel
theorem dR_leastRow_47 : decode cR_leastRow 47 = .ok (.lload_n 1, 1) := by decide +kernel
theorem dR_leastRow_48 : decode cR_leastRow 48 = .ok (.getstatic 31, 3) := by decide +kernel
theorem dR_leastRow_51 : decode cR_leastRow 51 = .ok (.iload 5, 2) := by decide +kernel
theorem dR_leastRow_53 : decode cR_leastRow 53 = .ok (.laload, 1) := by decide +kernel
theorem dR_leastRow_54 : decode cR_leastRow 54 = .ok (.ldc2_w 19, 3) := by decide +kernel
theorem dR_leastRow_57 : decode cR_leastRow 57 = .ok (.lxor, 1) := by decide +kernel
theorem dR_leastRow_58 : decode cR_leastRow 58 = .ok (.land, 1) := by decide +kernel
theorem dR_leastRow_59 : decode cR_leastRow 59 = .ok (.lstore 6, 2) := by decide +kernel
theorem dR_leastRow_61 : decode cR_leastRow 61 = .ok (.lload 6, 2) := by decide +kernel
theorem dR_leastRow_63 : decode cR_leastRow 63 = .ok (.lconst 0, 1) := by decide +kernel
theorem dR_leastRow_64 : decode cR_leastRow 64 = .ok (.lcmp, 1) := by decide +kernel
theorem dR_leastRow_65 : decode cR_leastRow 65 = .ok (.ifCond .eq 9, 3) := by decide +kernel
theorem dR_leastRow_68 : decode cR_leastRow 68 = .ok (.lload 6, 2) := by decide +kernel
theorem dR_leastRow_70 : decode cR_leastRow 70 = .ok (.lstore_n 1, 1) := by decide +kernel
theorem dR_leastRow_71 : decode cR_leastRow 71 = .ok (.goto 12, 3) := by decide +kernel
theorem dR_leastRow_74 : decode cR_leastRow 74 = .ok (.iload 4, 2) := by decide +kernel
theorem dR_leastRow_76 : decode cR_leastRow 76 = .ok (.iconst 1, 1) := by decide +kernel
theorem dR_leastRow_77 : decode cR_leastRow 77 = .ok (.iload 5, 2) := by decide +kernel
theorem dR_leastRow_79 : decode cR_leastRow 79 = .ok (.ishl, 1) := by decide +kernel
theorem dR_leastRow_80 : decode cR_leastRow 80 = .ok (.ior, 1) := by decide +kernel
theorem dR_leastRow_81 : decode cR_leastRow 81 = .ok (.istore 4, 2) := by decide +kernel
theorem dR_leastRow_83 : decode cR_leastRow 83 = .ok (.iinc 5 1, 3) := by decide +kernel
theorem dR_leastRow_86 : decode cR_leastRow 86 = .ok (.goto (-48), 3) := by decide +kernel
theorem dR_leastRow_89 : decode cR_leastRow 89 = .ok (.iconst 0, 1) := by decide +kernel
theorem dR_leastRow_90 : decode cR_leastRow 90 = .ok (.istore 5, 2) := by decide +kernel
theorem dR_leastRow_92 : decode cR_leastRow 92 = .ok (.iconst 1, 1) := by decide +kernel
theorem dR_leastRow_93 : decode cR_leastRow 93 = .ok (.istore 6, 2) := by decide +kernel
theorem dR_leastRow_95 : decode cR_leastRow 95 = .ok (.iload 6, 2) := by decide +kernel
theorem dR_leastRow_97 : decode cR_leastRow 97 = .ok (.iload_n 3, 1) := by decide +kernel
theorem dR_leastRow_98 : decode cR_leastRow 98 = .ok (.if_icmp .ge 41, 3) := by decide +kernel
theorem dR_leastRow_101 : decode cR_leastRow 101 = .ok (.iload 6, 2) := by decide +kernel
theorem dR_leastRow_103 : decode cR_leastRow 103 = .ok (.sipush 1024, 3) := by decide +kernel
theorem dR_leastRow_106 : decode cR_leastRow 106 = .ok (.if_icmp .ge 33, 3) := by decide +kernel
theorem dR_leastRow_109 : decode cR_leastRow 109 = .ok (.aload_n 0, 1) := by decide +kernel
theorem dR_leastRow_110 : decode cR_leastRow 110 = .ok (.iload 5, 2) := by decide +kernel
theorem dR_leastRow_112 : decode cR_leastRow 112 = .ok (.iconst 2, 1) := by decide +kernel
theorem dR_leastRow_113 : decode cR_leastRow 113 = .ok (.iload 6, 2) := by decide +kernel
theorem dR_leastRow_115 : decode cR_leastRow 115 = .ok (.imul, 1) := by decide +kernel
theorem dR_leastRow_116 : decode cR_leastRow 116 = .ok (.lload_n 1, 1) := by decide +kernel
theorem dR_leastRow_117 : decode cR_leastRow 117 = .ok (.invokevirtual 53, 3) := by decide +kernel
theorem dR_leastRow_120 : decode cR_leastRow 120 = .ok (.ifCond .ne 10, 3) := by decide +kernel
theorem dR_leastRow_123 : decode cR_leastRow 123 = .ok (.iload 5, 2) := by decide +kernel
theorem dR_leastRow_125 : decode cR_leastRow 125 = .ok (.iload 6, 2) := by decide +kernel
theorem dR_leastRow_127 : decode cR_leastRow 127 = .ok (.ior, 1) := by decide +kernel
theorem dR_leastRow_128 : decode cR_leastRow 128 = .ok (.istore 5, 2) := by decide +kernel
theorem dR_leastRow_130 : decode cR_leastRow 130 = .ok (.iload 6, 2) := by decide +kernel
theorem dR_leastRow_132 : decode cR_leastRow 132 = .ok (.iconst 2, 1) := by decide +kernel
theorem dR_leastRow_133 : decode cR_leastRow 133 = .ok (.imul, 1) := by decide +kernel
theorem dR_leastRow_134 : decode cR_leastRow 134 = .ok (.istore 6, 2) := by decide +kernel
theorem dR_leastRow_136 : decode cR_leastRow 136 = .ok (.goto (-41), 3) := by decide +kernel
theorem dR_leastRow_139 : decode cR_leastRow 139 = .ok (.iload 5, 2) := by decide +kernel
theorem dR_leastRow_141 : decode cR_leastRow 141 = .ok (.bipush 6, 2) := by decide +kernel
theorem dR_leastRow_143 : decode cR_leastRow 143 = .ok (.ishl, 1) := by decide +kernel
theorem dR_leastRow_144 : decode cR_leastRow 144 = .ok (.iload 4, 2) := by decide +kernel
theorem dR_leastRow_146 : decode cR_leastRow 146 = .ok (.ior, 1) := by decide +kernel
theorem dR_leastRow_147 : decode cR_leastRow 147 = .ok (.ireturn, 1) := by decide +kernel
theorem dR_outerBit_0 : decode cR_outerBit 0 = .ok (.iload_n 0, 1) := by decide +kernel
theorem dR_outerBit_1 : decode cR_outerBit 1 = .ok (.bipush 6, 2) := by decide +kernel
theorem dR_outerBit_3 : decode cR_outerBit 3 = .ok (.if_icmp .lt 18, 3) := by decide +kernel
theorem dR_outerBit_6 : decode cR_outerBit 6 = .ok (.iload_n 0, 1) := by decide +kernel
theorem dR_outerBit_7 : decode cR_outerBit 7 = .ok (.bipush 16, 2) := by decide +kernel
theorem dR_outerBit_9 : decode cR_outerBit 9 = .ok (.if_icmp .ge 12, 3) := by decide +kernel
theorem dR_outerBit_12 : decode cR_outerBit 12 = .ok (.iconst 1, 1) := by decide +kernel
theorem dR_outerBit_13 : decode cR_outerBit 13 = .ok (.iload_n 0, 1) := by decide +kernel
theorem dR_outerBit_14 : decode cR_outerBit 14 = .ok (.bipush 6, 2) := by decide +kernel
theorem dR_outerBit_16 : decode cR_outerBit 16 = .ok (.isub, 1) := by decide +kernel
theorem dR_outerBit_17 : decode cR_outerBit 17 = .ok (.ishl, 1) := by decide +kernel
theorem dR_outerBit_18 : decode cR_outerBit 18 = .ok (.goto 4, 3) := by decide +kernel
theorem dR_outerBit_21 : decode cR_outerBit 21 = .ok (.iconst 0, 1) := by decide +kernel
theorem dR_outerBit_22 : decode cR_outerBit 22 = .ok (.ireturn, 1) := by decide +kernel
theorem dR_outerOnes_0 : decode cR_outerOnes 0 = .ok (.iload_n 0, 1) := by decide +kernel
theorem dR_outerOnes_1 : decode cR_outerOnes 1 = .ok (.iconst 1, 1) := by decide +kernel
theorem dR_outerOnes_2 : decode cR_outerOnes 2 = .ok (.iand, 1) := by decide +kernel
theorem dR_outerOnes_3 : decode cR_outerOnes 3 = .ok (.ifCond .ne 12, 3) := by decide +kernel
theorem dR_outerOnes_6 : decode cR_outerOnes 6 = .ok (.iload_n 0, 1) := by decide +kernel
theorem dR_outerOnes_7 : decode cR_outerOnes 7 = .ok (.iconst 1, 1) := by decide +kernel
theorem dR_outerOnes_8 : decode cR_outerOnes 8 = .ok (.ishr, 1) := by decide +kernel
theorem dR_outerOnes_9 : decode cR_outerOnes 9 = .ok (.invokestatic 67, 3) := by decide +kernel
theorem dR_outerOnes_12 : decode cR_outerOnes 12 = .ok (.goto 4, 3) := by decide +kernel
theorem dR_outerOnes_15 : decode cR_outerOnes 15 = .ok (.iconst 0, 1) := by decide +kernel
theorem dR_outerOnes_16 : decode cR_outerOnes 16 = .ok (.ireturn, 1) := by decide +kernel
theorem dR_outerZeros_0 : decode cR_outerZeros 0 = .ok (.iload_n 0, 1) := by decide +kernel
theorem dR_outerZeros_1 : decode cR_outerZeros 1 = .ok (.iconst 1, 1) := by decide +kernel
theorem dR_outerZeros_2 : decode cR_outerZeros 2 = .ok (.iand, 1) := by decide +kernel
theorem dR_outerZeros_3 : decode cR_outerZeros 3 = .ok (.ifCond .ne 7, 3) := by decide +kernel
theorem dR_outerZeros_6 : decode cR_outerZeros 6 = .ok (.iconst 0, 1) := by decide +kernel
theorem dR_outerZeros_7 : decode cR_outerZeros 7 = .ok (.goto 9, 3) := by decide +kernel
theorem dR_outerZeros_10 : decode cR_outerZeros 10 = .ok (.iload_n 0, 1) := by decide +kernel
theorem dR_outerZeros_11 : decode cR_outerZeros 11 = .ok (.iconst 1, 1) := by decide +kernel
theorem dR_outerZeros_12 : decode cR_outerZeros 12 = .ok (.ishr, 1) := by decide +kernel
theorem dR_outerZeros_13 : decode cR_outerZeros 13 = .ok (.invokestatic 67, 3) := by decide +kernel
theorem dR_outerZeros_16 : decode cR_outerZeros 16 = .ok (.ireturn, 1) := by decide +kernel
theorem dS_assume_0 : decode cS_assume 0 = .ok (.aload_n 0, 1) := by decide +kernel
theorem dS_assume_1 : decode cS_assume 1 = .ok (.iload_n 1, 1) := by decide +kernel
theorem dS_assume_2 : decode cS_assume 2 = .ok (.invokevirtual 44, 3) := by decide +kernel
theorem dS_assume_5 : decode cS_assume 5 = .ok (.aload_n 0, 1) := by decide +kernel
theorem dS_assume_6 : decode cS_assume 6 = .ok (.getfield 66, 3) := by decide +kernel
theorem dS_assume_9 : decode cS_assume 9 = .ok (.aload_n 0, 1) := by decide +kernel
theorem dS_assume_10 : decode cS_assume 10 = .ok (.getfield 23, 3) := by decide +kernel
theorem dS_assume_13 : decode cS_assume 13 = .ok (.arraylength, 1) := by decide +kernel
theorem dS_assume_14 : decode cS_assume 14 = .ok (.if_icmp .lt 13, 3) := by decide +kernel
theorem dS_assume_17 : decode cS_assume 17 = .ok (.new 33, 3) := by decide +kernel
theorem dS_assume_20 : decode cS_assume 20 = .ok (.dup, 1) := by decide +kernel
theorem dS_assume_21 : decode cS_assume 21 = .ok (.ldc 69, 2) := by decide +kernel
theorem dS_assume_23 : decode cS_assume 23 = .ok (.invokespecial 37, 3) := by decide +kernel
theorem dS_assume_26 : decode cS_assume 26 = .ok (.athrow, 1) := by decide +kernel
theorem dS_assume_27 : decode cS_assume 27 = .ok (.aload_n 0, 1) := by decide +kernel
theorem dS_assume_28 : decode cS_assume 28 = .ok (.getfield 23, 3) := by decide +kernel
theorem dS_assume_31 : decode cS_assume 31 = .ok (.aload_n 0, 1) := by decide +kernel
theorem dS_assume_32 : decode cS_assume 32 = .ok (.getfield 66, 3) := by decide +kernel
theorem dS_assume_35 : decode cS_assume 35 = .ok (.iload_n 1, 1) := by decide +kernel
theorem dS_assume_36 : decode cS_assume 36 = .ok (.iastore, 1) := by decide +kernel
theorem dS_assume_37 : decode cS_assume 37 = .ok (.aload_n 0, 1) := by decide +kernel
theorem dS_assume_38 : decode cS_assume 38 = .ok (.dup, 1) := by decide +kernel
theorem dS_assume_39 : decode cS_assume 39 = .ok (.getfield 66, 3) := by decide +kernel
theorem dS_assume_42 : decode cS_assume 42 = .ok (.iconst 1, 1) := by decide +kernel
theorem dS_assume_43 : decode cS_assume 43 = .ok (.iadd, 1) := by decide +kernel
theorem dS_assume_44 : decode cS_assume 44 = .ok (.putfield 66, 3) := by decide +kernel
theorem dS_assume_47 : decode cS_assume 47 = .ok (.aload_n 0, 1) := by decide +kernel
theorem dS_assume_48 : decode cS_assume 48 = .ok (.getfield 66, 3) := by decide +kernel
theorem dS_assume_51 : decode cS_assume 51 = .ok (.ireturn, 1) := by decide +kernel
theorem dS_blame_0 : decode cS_blame 0 = .ok (.aload_n 0, 1) := by decide +kernel
theorem dS_blame_1 : decode cS_blame 1 = .ok (.getfield 79, 3) := by decide +kernel
theorem dS_blame_4 : decode cS_blame 4 = .ok (.ireturn, 1) := by decide +kernel
theorem dS_clear_0 : decode cS_clear 0 = .ok (.aload_n 0, 1) := by decide +kernel
theorem dS_clear_1 : decode cS_clear 1 = .ok (.invokevirtual 26, 3) := by decide +kernel
theorem dS_clear_4 : decode cS_clear 4 = .ok (.return_, 1) := by decide +kernel
theorem dS_close_0 : decode cS_close 0 = .ok (.aload_n 0, 1) := by decide +kernel
theorem dS_close_1 : decode cS_close 1 = .ok (.getfield 57, 3) := by decide +kernel
theorem dS_close_4 : decode cS_close 4 = .ok (.sipush 500, 3) := by decide +kernel
theorem dS_close_7 : decode cS_close 7 = .ok (.if_icmp .lt 13, 3) := by decide +kernel
theorem dS_close_10 : decode cS_close 10 = .ok (.new 33, 3) := by decide +kernel
theorem dS_close_13 : decode cS_close 13 = .ok (.dup, 1) := by decide +kernel
theorem dS_close_14 : decode cS_close 14 = .ok (.ldc 60, 2) := by decide +kernel
theorem dS_close_16 : decode cS_close 16 = .ok (.invokespecial 37, 3) := by decide +kernel
theorem dS_close_19 : decode cS_close 19 = .ok (.athrow, 1) := by decide +kernel
theorem dS_close_20 : decode cS_close 20 = .ok (.aload_n 0, 1) := by decide +kernel
theorem dS_close_21 : decode cS_close 21 = .ok (.getfield 10, 3) := by decide +kernel
theorem dS_close_24 : decode cS_close 24 = .ok (.aload_n 0, 1) := by decide +kernel
theorem dS_close_25 : decode cS_close 25 = .ok (.getfield 19, 3) := by decide +kernel
theorem dS_close_28 : decode cS_close 28 = .ok (.aload_n 0, 1) := by decide +kernel
theorem dS_close_29 : decode cS_close 29 = .ok (.getfield 47, 3) := by decide +kernel
theorem dS_close_32 : decode cS_close 32 = .ok (.invokevirtual 62, 3) := by decide +kernel
theorem dS_close_35 : decode cS_close 35 = .ok (.aload_n 0, 1) := by decide +kernel
theorem dS_close_36 : decode cS_close 36 = .ok (.iconst 0, 1) := by decide +kernel
theorem dS_close_37 : decode cS_close 37 = .ok (.putfield 47, 3) := by decide +kernel
theorem dS_close_40 : decode cS_close 40 = .ok (.aload_n 0, 1) := by decide +kernel
theorem dS_close_41 : decode cS_close 41 = .ok (.dup, 1) := by decide +kernel
theorem dS_close_42 : decode cS_close 42 = .ok (.getfield 57, 3) := by decide +kernel
theorem dS_close_45 : decode cS_close 45 = .ok (.iconst 1, 1) := by decide +kernel
theorem dS_close_46 : decode cS_close 46 = .ok (.iadd, 1) := by decide +kernel
theorem dS_close_47 : decode cS_close 47 = .ok (.putfield 57, 3) := by decide +kernel
theorem dS_close_50 : decode cS_close 50 = .ok (.aload_n 0, 1) := by decide +kernel
theorem dS_close_51 : decode cS_close 51 = .ok (.getfield 57, 3) := by decide +kernel
theorem dS_close_54 : decode cS_close 54 = .ok (.ireturn, 1) := by decide +kernel
theorem dS_init_0 : decode cS_init 0 = .ok (.aload_n 0, 1) := by decide +kernel
theorem dS_init_1 : decode cS_init 1 = .ok (.invokespecial 1, 3) := by decide +kernel
theorem dS_init_4 : decode cS_init 4 = .ok (.aload_n 0, 1) := by decide +kernel
theorem dS_init_5 : decode cS_init 5 = .ok (.new 7, 3) := by decide +kernel
theorem dS_init_8 : decode cS_init 8 = .ok (.dup, 1) := by decide +kernel
theorem dS_init_9 : decode cS_init 9 = .ok (.invokespecial 9, 3) := by decide +kernel
theorem dS_init_12 : decode cS_init 12 = .ok (.putfield 10, 3) := by decide +kernel
theorem dS_init_15 : decode cS_init 15 = .ok (.aload_n 0, 1) := by decide +kernel
theorem dS_init_16 : decode cS_init 16 = .ok (.new 7, 3) := by decide +kernel
theorem dS_init_19 : decode cS_init 19 = .ok (.dup, 1) := by decide +kernel
theorem dS_init_20 : decode cS_init 20 = .ok (.invokespecial 9, 3) := by decide +kernel
theorem dS_init_23 : decode cS_init 23 = .ok (.putfield 16, 3) := by decide +kernel
theorem dS_init_26 : decode cS_init 26 = .ok (.aload_n 0, 1) := by decide +kernel
theorem dS_init_27 : decode cS_init 27 = .ok (.bipush 40, 2) := by decide +kernel
theorem dS_init_29 : decode cS_init 29 = .ok (.newarray .int, 2) := by decide +kernel
theorem dS_init_31 : decode cS_init 31 = .ok (.putfield 19, 3) := by decide +kernel
theorem dS_init_34 : decode cS_init 34 = .ok (.aload_n 0, 1) := by decide +kernel
theorem dS_init_35 : decode cS_init 35 = .ok (.bipush 64, 2) := by decide +kernel
theorem dS_init_37 : decode cS_init 37 = .ok (.newarray .int, 2) := by decide +kernel
theorem dS_init_39 : decode cS_init 39 = .ok (.putfield 23, 3) := by decide +kernel
theorem dS_init_42 : decode cS_init 42 = .ok (.aload_n 0, 1) := by decide +kernel
theorem dS_init_43 : decode cS_init 43 = .ok (.invokevirtual 26, 3) := by decide +kernel
theorem dS_init_46 : decode cS_init 46 = .ok (.return_, 1) := by decide +kernel
theorem dS_least_0 : decode cS_least 0 = .ok (.iload_n 1, 1) := by decide +kernel
theorem dS_least_1 : decode cS_least 1 = .ok (.ifCond .lt 11, 3) := by decide +kernel
theorem dS_least_4 : decode cS_least 4 = .ok (.iload_n 1, 1) := by decide +kernel
theorem dS_least_5 : decode cS_least 5 = .ok (.aload_n 0, 1) := by decide +kernel
theorem dS_least_6 : decode cS_least 6 = .ok (.getfield 29, 3) := by decide +kernel
theorem dS_least_9 : decode cS_least 9 = .ok (.if_icmp .lt 13, 3) := by decide +kernel
theorem dS_least_12 : decode cS_least 12 = .ok (.new 95, 3) := by decide +kernel
theorem dS_least_15 : decode cS_least 15 = .ok (.dup, 1) := by decide +kernel
theorem dS_least_16 : decode cS_least 16 = .ok (.ldc 97, 2) := by decide +kernel
theorem dS_least_18 : decode cS_least 18 = .ok (.invokespecial 99, 3) := by decide +kernel
theorem dS_least_21 : decode cS_least 21 = .ok (.athrow, 1) := by decide +kernel
theorem dS_least_22 : decode cS_least 22 = .ok (.aload_n 0, 1) := by decide +kernel
theorem dS_least_23 : decode cS_least 23 = .ok (.getfield 82, 3) := by decide +kernel
theorem dS_least_26 : decode cS_least 26 = .ok (.ifCond .eq 11, 3) := by decide +kernel
theorem dS_least_29 : decode cS_least 29 = .ok (.iload_n 1, 1) := by decide +kernel
theorem dS_least_30 : decode cS_least 30 = .ok (.aload_n 0, 1) := by decide +kernel
theorem dS_least_31 : decode cS_least 31 = .ok (.getfield 92, 3) := by decide +kernel
theorem dS_least_34 : decode cS_least 34 = .ok (.if_icmp .lt 5, 3) := by decide +kernel
theorem dS_least_37 : decode cS_least 37 = .ok (.iconst (-1), 1) := by decide +kernel
theorem dS_least_38 : decode cS_least 38 = .ok (.ireturn, 1) := by decide +kernel
theorem dS_least_39 : decode cS_least 39 = .ok (.aload_n 0, 1) := by decide +kernel
theorem dS_least_40 : decode cS_least 40 = .ok (.getfield 89, 3) := by decide +kernel
theorem dS_least_43 : decode cS_least 43 = .ok (.iload_n 1, 1) := by decide +kernel
theorem dS_least_44 : decode cS_least 44 = .ok (.ishr, 1) := by decide +kernel
theorem dS_least_45 : decode cS_least 45 = .ok (.iconst 1, 1) := by decide +kernel
theorem dS_least_46 : decode cS_least 46 = .ok (.iand, 1) := by decide +kernel
theorem dS_least_47 : decode cS_least 47 = .ok (.ireturn, 1) := by decide +kernel
theorem dS_literal_0 : decode cS_literal 0 = .ok (.aload_n 0, 1) := by decide +kernel
theorem dS_literal_1 : decode cS_literal 1 = .ok (.iload_n 1, 1) := by decide +kernel
theorem dS_literal_2 : decode cS_literal 2 = .ok (.invokevirtual 44, 3) := by decide +kernel
theorem dS_literal_5 : decode cS_literal 5 = .ok (.aload_n 0, 1) := by decide +kernel
theorem dS_literal_6 : decode cS_literal 6 = .ok (.getfield 47, 3) := by decide +kernel
theorem dS_literal_9 : decode cS_literal 9 = .ok (.aload_n 0, 1) := by decide +kernel
theorem dS_literal_10 : decode cS_literal 10 = .ok (.getfield 19, 3) := by decide +kernel
theorem dS_literal_13 : decode cS_literal 13 = .ok (.arraylength, 1) := by decide +kernel
theorem dS_literal_14 : decode cS_literal 14 = .ok (.if_icmp .lt 13, 3) := by decide +kernel
theorem dS_literal_17 : decode cS_literal 17 = .ok (.new 33, 3) := by decide +kernel
theorem dS_literal_20 : decode cS_literal 20 = .ok (.dup, 1) := by decide +kernel
theorem dS_literal_21 : decode cS_literal 21 = .ok (.ldc 50, 2) := by decide +kernel
theorem dS_literal_23 : decode cS_literal 23 = .ok (.invokespecial 37, 3) := by decide +kernel
theorem dS_literal_26 : decode cS_literal 26 = .ok (.athrow, 1) := by decide +kernel
theorem dS_literal_27 : decode cS_literal 27 = .ok (.aload_n 0, 1) := by decide +kernel
theorem dS_literal_28 : decode cS_literal 28 = .ok (.getfield 52, 3) := by decide +kernel
theorem dS_literal_31 : decode cS_literal 31 = .ok (.sipush 4000, 3) := by decide +kernel
theorem dS_literal_34 : decode cS_literal 34 = .ok (.if_icmp .lt 13, 3) := by decide +kernel
theorem dS_literal_37 : decode cS_literal 37 = .ok (.new 33, 3) := by decide +kernel
theorem dS_literal_40 : decode cS_literal 40 = .ok (.dup, 1) := by decide +kernel
theorem dS_literal_41 : decode cS_literal 41 = .ok (.ldc 55, 2) := by decide +kernel
theorem dS_literal_43 : decode cS_literal 43 = .ok (.invokespecial 37, 3) := by decide +kernel
theorem dS_literal_46 : decode cS_literal 46 = .ok (.athrow, 1) := by decide +kernel
theorem dS_literal_47 : decode cS_literal 47 = .ok (.aload_n 0, 1) := by decide +kernel
theorem dS_literal_48 : decode cS_literal 48 = .ok (.getfield 19, 3) := by decide +kernel
theorem dS_literal_51 : decode cS_literal 51 = .ok (.aload_n 0, 1) := by decide +kernel
theorem dS_literal_52 : decode cS_literal 52 = .ok (.getfield 47, 3) := by decide +kernel
theorem dS_literal_55 : decode cS_literal 55 = .ok (.iload_n 1, 1) := by decide +kernel
theorem dS_literal_56 : decode cS_literal 56 = .ok (.iastore, 1) := by decide +kernel
theorem dS_literal_57 : decode cS_literal 57 = .ok (.aload_n 0, 1) := by decide +kernel
theorem dS_literal_58 : decode cS_literal 58 = .ok (.dup, 1) := by decide +kernel
theorem dS_literal_59 : decode cS_literal 59 = .ok (.getfield 47, 3) := by decide +kernel
theorem dS_literal_62 : decode cS_literal 62 = .ok (.iconst 1, 1) := by decide +kernel
theorem dS_literal_63 : decode cS_literal 63 = .ok (.iadd, 1) := by decide +kernel
theorem dS_literal_64 : decode cS_literal 64 = .ok (.putfield 47, 3) := by decide +kernel
theorem dS_literal_67 : decode cS_literal 67 = .ok (.aload_n 0, 1) := by decide +kernel
theorem dS_literal_68 : decode cS_literal 68 = .ok (.dup, 1) := by decide +kernel
theorem dS_literal_69 : decode cS_literal 69 = .ok (.getfield 52, 3) := by decide +kernel
theorem dS_literal_72 : decode cS_literal 72 = .ok (.iconst 1, 1) := by decide +kernel
theorem dS_literal_73 : decode cS_literal 73 = .ok (.iadd, 1) := by decide +kernel
theorem dS_literal_74 : decode cS_literal 74 = .ok (.putfield 52, 3) := by decide +kernel
theorem dS_literal_77 : decode cS_literal 77 = .ok (.aload_n 0, 1) := by decide +kernel
theorem dS_literal_78 : decode cS_literal 78 = .ok (.getfield 47, 3) := by decide +kernel
theorem dS_literal_81 : decode cS_literal 81 = .ok (.ireturn, 1) := by decide +kernel
theorem dS_must_0 : decode cS_must 0 = .ok (.aload_n 0, 1) := by decide +kernel
theorem dS_must_1 : decode cS_must 1 = .ok (.iload_n 1, 1) := by decide +kernel
theorem dS_must_2 : decode cS_must 2 = .ok (.invokevirtual 44, 3) := by decide +kernel
theorem dS_must_5 : decode cS_must 5 = .ok (.aload_n 0, 1) := by decide +kernel
theorem dS_must_6 : decode cS_must 6 = .ok (.getfield 10, 3) := by decide +kernel
theorem dS_must_9 : decode cS_must 9 = .ok (.iload_n 1, 1) := by decide +kernel
theorem dS_must_10 : decode cS_must 10 = .ok (.invokevirtual 100, 3) := by decide +kernel
theorem dS_must_13 : decode cS_must 13 = .ok (.istore_n 2, 1) := by decide +kernel
theorem dS_must_14 : decode cS_must 14 = .ok (.aload_n 0, 1) := by decide +kernel
theorem dS_must_15 : decode cS_must 15 = .ok (.getfield 10, 3) := by decide +kernel
theorem dS_must_18 : decode cS_must 18 = .ok (.iload_n 1, 1) := by decide +kernel
theorem dS_must_19 : decode cS_must 19 = .ok (.iconst 1, 1) := by decide +kernel
theorem dS_must_20 : decode cS_must 20 = .ok (.ixor, 1) := by decide +kernel
theorem dS_must_21 : decode cS_must 21 = .ok (.invokevirtual 100, 3) := by decide +kernel
theorem dS_must_24 : decode cS_must 24 = .ok (.istore_n 3, 1) := by decide +kernel
theorem dS_must_25 : decode cS_must 25 = .ok (.iload_n 2, 1) := by decide +kernel
theorem dS_must_26 : decode cS_must 26 = .ok (.ifCond .eq 13, 3) := by decide +kernel
theorem dS_must_29 : decode cS_must 29 = .ok (.iload_n 3, 1) := by decide +kernel
theorem dS_must_30 : decode cS_must 30 = .ok (.ifCond .eq 7, 3) := by decide +kernel
theorem dS_must_33 : decode cS_must 33 = .ok (.iconst 2, 1) := by decide +kernel
theorem dS_must_34 : decode cS_must 34 = .ok (.goto 4, 3) := by decide +kernel
theorem dS_must_37 : decode cS_must 37 = .ok (.iconst 1, 1) := by decide +kernel
theorem dS_must_38 : decode cS_must 38 = .ok (.ireturn, 1) := by decide +kernel
theorem dS_must_39 : decode cS_must 39 = .ok (.iload_n 3, 1) := by decide +kernel
theorem dS_must_40 : decode cS_must 40 = .ok (.ifCond .eq 7, 3) := by decide +kernel
theorem dS_must_43 : decode cS_must 43 = .ok (.iconst 0, 1) := by decide +kernel
theorem dS_must_44 : decode cS_must 44 = .ok (.goto 4, 3) := by decide +kernel
theorem dS_must_47 : decode cS_must 47 = .ok (.iconst (-1), 1) := by decide +kernel
theorem dS_must_48 : decode cS_must 48 = .ok (.ireturn, 1) := by decide +kernel
theorem dS_narrowToAssumptions_0 : decode cS_narrowToAssumptions 0 = .ok (.aload_n 0, 1) := by decide +kernel
theorem dS_narrowToAssumptions_1 : decode cS_narrowToAssumptions 1 = .ok (.getfield 16, 3) := by decide +kernel
theorem dS_narrowToAssumptions_4 : decode cS_narrowToAssumptions 4 = .ok (.iconst 0, 1) := by decide +kernel
theorem dS_narrowToAssumptions_5 : decode cS_narrowToAssumptions 5 = .ok (.iconst 1, 1) := by decide +kernel
theorem dS_narrowToAssumptions_6 : decode cS_narrowToAssumptions 6 = .ok (.ldc2_w 122, 3) := by decide +kernel
theorem dS_narrowToAssumptions_9 : decode cS_narrowToAssumptions 9 = .ok (.invokevirtual 124, 3) := by decide +kernel
theorem dS_narrowToAssumptions_12 : decode cS_narrowToAssumptions 12 = .ok (.ifCond .ne 5, 3) := by decide +kernel
theorem dS_narrowToAssumptions_15 : decode cS_narrowToAssumptions 15 = .ok (.iconst 0, 1) := by decide +kernel
theorem dS_narrowToAssumptions_16 : decode cS_narrowToAssumptions 16 = .ok (.ireturn, 1) := by decide +kernel
theorem dS_narrowToAssumptions_17 : decode cS_narrowToAssumptions 17 = .ok (.iconst 0, 1) := by decide +kernel
theorem dS_narrowToAssumptions_18 : decode cS_narrowToAssumptions 18 = .ok (.istore_n 1, 1) := by decide +kernel
theorem dS_narrowToAssumptions_19 : decode cS_narrowToAssumptions 19 = .ok (.iload_n 1, 1) := by decide +kernel
theorem dS_narrowToAssumptions_20 : decode cS_narrowToAssumptions 20 = .ok (.aload_n 0, 1) := by decide +kernel
theorem dS_narrowToAssumptions_21 : decode cS_narrowToAssumptions 21 = .ok (.getfield 66, 3) := by decide +kernel
theorem dS_narrowToAssumptions_24 : decode cS_narrowToAssumptions 24 = .ok (.if_icmp .ge 38, 3) := by decide +kernel
theorem dS_narrowToAssumptions_27 : decode cS_narrowToAssumptions 27 = .ok (.iload_n 1, 1) := by decide +kernel
theorem dS_narrowToAssumptions_28 : decode cS_narrowToAssumptions 28 = .ok (.aload_n 0, 1) := by decide +kernel
theorem dS_narrowToAssumptions_29 : decode cS_narrowToAssumptions 29 = .ok (.getfield 23, 3) := by decide +kernel
theorem dS_narrowToAssumptions_32 : decode cS_narrowToAssumptions 32 = .ok (.arraylength, 1) := by decide +kernel
theorem dS_narrowToAssumptions_33 : decode cS_narrowToAssumptions 33 = .ok (.if_icmp .ge 29, 3) := by decide +kernel
theorem dS_narrowToAssumptions_36 : decode cS_narrowToAssumptions 36 = .ok (.aload_n 0, 1) := by decide +kernel
theorem dS_narrowToAssumptions_37 : decode cS_narrowToAssumptions 37 = .ok (.getfield 16, 3) := by decide +kernel
theorem dS_narrowToAssumptions_40 : decode cS_narrowToAssumptions 40 = .ok (.aload_n 0, 1) := by decide +kernel
theorem dS_narrowToAssumptions_41 : decode cS_narrowToAssumptions 41 = .ok (.getfield 23, 3) := by decide +kernel
theorem dS_narrowToAssumptions_44 : decode cS_narrowToAssumptions 44 = .ok (.iload_n 1, 1) := by decide +kernel
theorem dS_narrowToAssumptions_45 : decode cS_narrowToAssumptions 45 = .ok (.iaload, 1) := by decide +kernel
theorem dS_narrowToAssumptions_46 : decode cS_narrowToAssumptions 46 = .ok (.invokevirtual 128, 3) := by decide +kernel
theorem dS_narrowToAssumptions_49 : decode cS_narrowToAssumptions 49 = .ok (.ifCond .ne 7, 3) := by decide +kernel
theorem dS_narrowToAssumptions_52 : decode cS_narrowToAssumptions 52 = .ok (.iload_n 1, 1) := by decide +kernel
theorem dS_narrowToAssumptions_53 : decode cS_narrowToAssumptions 53 = .ok (.iconst 1, 1) := by decide +kernel
theorem dS_narrowToAssumptions_54 : decode cS_narrowToAssumptions 54 = .ok (.iadd, 1) := by decide +kernel
theorem dS_narrowToAssumptions_55 : decode cS_narrowToAssumptions 55 = .ok (.ireturn, 1) := by decide +kernel
theorem dS_narrowToAssumptions_56 : decode cS_narrowToAssumptions 56 = .ok (.iinc 1 1, 3) := by decide +kernel
theorem dS_narrowToAssumptions_59 : decode cS_narrowToAssumptions 59 = .ok (.goto (-40), 3) := by decide +kernel
theorem dS_narrowToAssumptions_62 : decode cS_narrowToAssumptions 62 = .ok (.iconst (-1), 1) := by decide +kernel
theorem dS_narrowToAssumptions_63 : decode cS_narrowToAssumptions 63 = .ok (.ireturn, 1) := by decide +kernel
theorem dS_proved_0 : decode cS_proved 0 = .ok (.aload_n 0, 1) := by decide +kernel
theorem dS_proved_1 : decode cS_proved 1 = .ok (.getfield 79, 3) := by decide +kernel
theorem dS_proved_4 : decode cS_proved 4 = .ok (.iconst (-1), 1) := by decide +kernel
theorem dS_proved_5 : decode cS_proved 5 = .ok (.if_icmp .eq 7, 3) := by decide +kernel
theorem dS_proved_8 : decode cS_proved 8 = .ok (.iconst 1, 1) := by decide +kernel
theorem dS_proved_9 : decode cS_proved 9 = .ok (.goto 4, 3) := by decide +kernel
theorem dS_proved_12 : decode cS_proved 12 = .ok (.iconst 0, 1) := by decide +kernel
theorem dS_proved_13 : decode cS_proved 13 = .ok (.ireturn, 1) := by decide +kernel
theorem dS_refuseUnknownLiteral_0 : decode cS_refuseUnknownLiteral 0 = .ok (.iload_n 1, 1) := by decide +kernel
theorem dS_refuseUnknownLiteral_1 : decode cS_refuseUnknownLiteral 1 = .ok (.ifCond .lt 13, 3) := by decide +kernel
theorem dS_refuseUnknownLiteral_4 : decode cS_refuseUnknownLiteral 4 = .ok (.iload_n 1, 1) := by decide +kernel
theorem dS_refuseUnknownLiteral_5 : decode cS_refuseUnknownLiteral 5 = .ok (.iconst 2, 1) := by decide +kernel
theorem dS_refuseUnknownLiteral_6 : decode cS_refuseUnknownLiteral 6 = .ok (.aload_n 0, 1) := by decide +kernel
theorem dS_refuseUnknownLiteral_7 : decode cS_refuseUnknownLiteral 7 = .ok (.getfield 29, 3) := by decide +kernel
theorem dS_refuseUnknownLiteral_10 : decode cS_refuseUnknownLiteral 10 = .ok (.imul, 1) := by decide +kernel
theorem dS_refuseUnknownLiteral_11 : decode cS_refuseUnknownLiteral 11 = .ok (.if_icmp .lt 13, 3) := by decide +kernel
theorem dS_refuseUnknownLiteral_14 : decode cS_refuseUnknownLiteral 14 = .ok (.new 104, 3) := by decide +kernel
