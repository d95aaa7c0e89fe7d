theorem dR_keepClause_63 : decode cR_keepClause 63 = .ok (.lastore, 1) := by decide +kernel
theorem dR_keepClause_64 : decode cR_keepClause 64 = .ok (.iinc 3 1, 3) := by decide +kernel
theorem dR_keepClause_67 : decode cR_keepClause 67 = .ok (.goto (-60), 3) := by decide +kernel
theorem dR_keepClause_70 : decode cR_keepClause 70 = .ok (.return_, 1) := by decide +kernel
theorem dR_keepWith_0 : decode cR_keepWith 0 = .ok (.lconst 0, 1) := by decide +kernel
theorem dR_keepWith_1 : decode cR_keepWith 1 = .ok (.lstore_n 2, 1) := by decide +kernel
theorem dR_keepWith_2 : decode cR_keepWith 2 = .ok (.iconst 0, 1) := by decide +kernel
theorem dR_keepWith_3 : decode cR_keepWith 3 = .ok (.istore 4, 2) := by decide +kernel
theorem dR_keepWith_5 : decode cR_keepWith 5 = .ok (.iload 4, 2) := by decide +kernel
theorem dR_keepWith_7 : decode cR_keepWith 7 = .ok (.aload_n 0, 1) := by decide +kernel
theorem dR_keepWith_8 : decode cR_keepWith 8 = .ok (.getfield 15, 3) := by decide +kernel
theorem dR_keepWith_11 : decode cR_keepWith 11 = .ok (.if_icmp .ge 35, 3) := by decide +kernel
theorem dR_keepWith_14 : decode cR_keepWith 14 = .ok (.aload_n 0, 1) := by decide +kernel
theorem dR_keepWith_15 : decode cR_keepWith 15 = .ok (.getfield 11, 3) := by decide +kernel
theorem dR_keepWith_18 : decode cR_keepWith 18 = .ok (.iload 4, 2) := by decide +kernel
theorem dR_keepWith_20 : decode cR_keepWith 20 = .ok (.dup2, 1) := by decide +kernel
theorem dR_keepWith_21 : decode cR_keepWith 21 = .ok (.laload, 1) := by decide +kernel
theorem dR_keepWith_22 : decode cR_keepWith 22 = .ok (.iload_n 1, 1) := by decide +kernel
theorem dR_keepWith_23 : decode cR_keepWith 23 = .ok (.iload 4, 2) := by decide +kernel
theorem dR_keepWith_25 : decode cR_keepWith 25 = .ok (.invokestatic 32, 3) := by decide +kernel
theorem dR_keepWith_28 : decode cR_keepWith 28 = .ok (.land, 1) := by decide +kernel
theorem dR_keepWith_29 : decode cR_keepWith 29 = .ok (.lastore, 1) := by decide +kernel
theorem dR_keepWith_30 : decode cR_keepWith 30 = .ok (.lload_n 2, 1) := by decide +kernel
theorem dR_keepWith_31 : decode cR_keepWith 31 = .ok (.aload_n 0, 1) := by decide +kernel
theorem dR_keepWith_32 : decode cR_keepWith 32 = .ok (.getfield 11, 3) := by decide +kernel
theorem dR_keepWith_35 : decode cR_keepWith 35 = .ok (.iload 4, 2) := by decide +kernel
theorem dR_keepWith_37 : decode cR_keepWith 37 = .ok (.laload, 1) := by decide +kernel
theorem dR_keepWith_38 : decode cR_keepWith 38 = .ok (.lor, 1) := by decide +kernel
theorem dR_keepWith_39 : decode cR_keepWith 39 = .ok (.lstore_n 2, 1) := by decide +kernel
theorem dR_keepWith_40 : decode cR_keepWith 40 = .ok (.iinc 4 1, 3) := by decide +kernel
theorem dR_keepWith_43 : decode cR_keepWith 43 = .ok (.goto (-38), 3) := by decide +kernel
theorem dR_keepWith_46 : decode cR_keepWith 46 = .ok (.lload_n 2, 1) := by decide +kernel
theorem dR_keepWith_47 : decode cR_keepWith 47 = .ok (.lconst 0, 1) := by decide +kernel
theorem dR_keepWith_48 : decode cR_keepWith 48 = .ok (.lcmp, 1) := by decide +kernel
theorem dR_keepWith_49 : decode cR_keepWith 49 = .ok (.ifCond .eq 7, 3) := by decide +kernel
theorem dR_keepWith_52 : decode cR_keepWith 52 = .ok (.iconst 1, 1) := by decide +kernel
theorem dR_keepWith_53 : decode cR_keepWith 53 = .ok (.goto 4, 3) := by decide +kernel
theorem dR_keepWith_56 : decode cR_keepWith 56 = .ok (.iconst 0, 1) := by decide +kernel
theorem dR_keepWith_57 : decode cR_keepWith 57 = .ok (.ireturn, 1) := by decide +kernel
theorem dR_leastRow_0 : decode cR_leastRow 0 = .ok (.lconst 0, 1) := by decide +kernel
theorem dR_leastRow_1 : decode cR_leastRow 1 = .ok (.lstore_n 1, 1) := by decide +kernel
theorem dR_leastRow_2 : decode cR_leastRow 2 = .ok (.iconst 0, 1) := by decide +kernel
theorem dR_leastRow_3 : decode cR_leastRow 3 = .ok (.istore_n 3, 1) := by decide +kernel
theorem dR_leastRow_4 : decode cR_leastRow 4 = .ok (.iload_n 3, 1) := by decide +kernel
theorem dR_leastRow_5 : decode cR_leastRow 5 = .ok (.aload_n 0, 1) := by decide +kernel
theorem dR_leastRow_6 : decode cR_leastRow 6 = .ok (.getfield 15, 3) := by decide +kernel
theorem dR_leastRow_9 : decode cR_leastRow 9 = .ok (.if_icmp .ge 18, 3) := by decide +kernel
theorem dR_leastRow_12 : decode cR_leastRow 12 = .ok (.lload_n 1, 1) := by decide +kernel
theorem dR_leastRow_13 : decode cR_leastRow 13 = .ok (.aload_n 0, 1) := by decide +kernel
theorem dR_leastRow_14 : decode cR_leastRow 14 = .ok (.getfield 11, 3) := by decide +kernel
theorem dR_leastRow_17 : decode cR_leastRow 17 = .ok (.iload_n 3, 1) := by decide +kernel
theorem dR_leastRow_18 : decode cR_leastRow 18 = .ok (.laload, 1) := by decide +kernel
theorem dR_leastRow_19 : decode cR_leastRow 19 = .ok (.lor, 1) := by decide +kernel
theorem dR_leastRow_20 : decode cR_leastRow 20 = .ok (.lstore_n 1, 1) := by decide +kernel
theorem dR_leastRow_21 : decode cR_leastRow 21 = .ok (.iinc 3 1, 3) := by decide +kernel
theorem dR_leastRow_24 : decode cR_leastRow 24 = .ok (.goto (-20), 3) := by decide +kernel
theorem dR_leastRow_27 : decode cR_leastRow 27 = .ok (.iconst 0, 1) := by decide +kernel
theorem dR_leastRow_28 : decode cR_leastRow 28 = .ok (.istore_n 3, 1) := by decide +kernel
theorem dR_leastRow_29 : decode cR_leastRow 29 = .ok (.iconst 0, 1) := by decide +kernel
theorem dR_leastRow_30 : decode cR_leastRow 30 = .ok (.istore 4, 2) := by decide +kernel
theorem dR_leastRow_32 : decode cR_leastRow 32 = .ok (.iload 4, 2) := by decide +kernel
theorem dR_leastRow_34 : decode cR_leastRow 34 = .ok (.getstatic 21, 3) := by decide +kernel
theorem dR_leastRow_37 : decode cR_leastRow 37 = .ok (.arraylength, 1) := by decide +kernel
theorem dR_leastRow_38 : decode cR_leastRow 38 = .ok (.if_icmp .ge 43, 3) := by decide +kernel
theorem dR_leastRow_41 : decode cR_leastRow 41 = .ok (.lload_n 1, 1) := by decide +kernel
theorem dR_leastRow_42 : decode cR_leastRow 42 = .ok (.getstatic 21, 3) := by decide +kernel
theorem dR_leastRow_45 : decode cR_leastRow 45 = .ok (.iload 4, 2) := by decide +kernel
theorem dR_leastRow_47 : decode cR_leastRow 47 = .ok (.laload, 1) := by decide +kernel
theorem dR_leastRow_48 : decode cR_leastRow 48 = .ok (.ldc2_w 19, 3) := by decide +kernel
theorem dR_leastRow_51 : decode cR_leastRow 51 = .ok (.lxor, 1) := by decide +kernel
theorem dR_leastRow_52 : decode cR_leastRow 52 = .ok (.land, 1) := by decide +kernel
theorem dR_leastRow_53 : decode cR_leastRow 53 = .ok (.lstore 5, 2) := by decide +kernel
theorem dR_leastRow_55 : decode cR_leastRow 55 = .ok (.lload 5, 2) := by decide +kernel
theorem dR_leastRow_57 : decode cR_leastRow 57 = .ok (.lconst 0, 1) := by decide +kernel
theorem dR_leastRow_58 : decode cR_leastRow 58 = .ok (.lcmp, 1) := by decide +kernel
theorem dR_leastRow_59 : decode cR_leastRow 59 = .ok (.ifCond .eq 9, 3) := by decide +kernel
theorem dR_leastRow_62 : decode cR_leastRow 62 = .ok (.lload 5, 2) := by decide +kernel
theorem dR_leastRow_64 : decode cR_leastRow 64 = .ok (.lstore_n 1, 1) := by decide +kernel
theorem dR_leastRow_65 : decode cR_leastRow 65 = .ok (.goto 10, 3) := by decide +kernel
theorem dR_leastRow_68 : decode cR_leastRow 68 = .ok (.iload_n 3, 1) := by decide +kernel
theorem dR_leastRow_69 : decode cR_leastRow 69 = .ok (.iconst 1, 1) := by decide +kernel
theorem dR_leastRow_70 : decode cR_leastRow 70 = .ok (.iload 4, 2) := by decide +kernel
theorem dR_leastRow_72 : decode cR_leastRow 72 = .ok (.ishl, 1) := by decide +kernel
theorem dR_leastRow_73 : decode cR_leastRow 73 = .ok (.ior, 1) := by decide +kernel
theorem dR_leastRow_74 : decode cR_leastRow 74 = .ok (.istore_n 3, 1) := by decide +kernel
theorem dR_leastRow_75 : decode cR_leastRow 75 = .ok (.iinc 4 1, 3) := by decide +kernel
theorem dR_leastRow_78 : decode cR_leastRow 78 = .ok (.goto (-46), 3) := by decide +kernel
theorem dR_leastRow_81 : decode cR_leastRow 81 = .ok (.iconst 0, 1) := by decide +kernel
theorem dR_leastRow_82 : decode cR_leastRow 82 = .ok (.istore 4, 2) := by decide +kernel
theorem dR_leastRow_84 : decode cR_leastRow 84 = .ok (.iconst 1, 1) := by decide +kernel
theorem dR_leastRow_85 : decode cR_leastRow 85 = .ok (.istore 5, 2) := by decide +kernel
theorem dR_leastRow_87 : decode cR_leastRow 87 = .ok (.iload 5, 2) := by decide +kernel
theorem dR_leastRow_89 : decode cR_leastRow 89 = .ok (.aload_n 0, 1) := by decide +kernel
theorem dR_leastRow_90 : decode cR_leastRow 90 = .ok (.getfield 15, 3) := by decide +kernel
theorem dR_leastRow_93 : decode cR_leastRow 93 = .ok (.if_icmp .ge 41, 3) := by decide +kernel
theorem dR_leastRow_96 : decode cR_leastRow 96 = .ok (.iload 5, 2) := by decide +kernel
theorem dR_leastRow_98 : decode cR_leastRow 98 = .ok (.sipush 1024, 3) := by decide +kernel
theorem dR_leastRow_101 : decode cR_leastRow 101 = .ok (.if_icmp .ge 33, 3) := by decide +kernel
theorem dR_leastRow_104 : decode cR_leastRow 104 = .ok (.aload_n 0, 1) := by decide +kernel
theorem dR_leastRow_105 : decode cR_leastRow 105 = .ok (.iload 4, 2) := by decide +kernel
theorem dR_leastRow_107 : decode cR_leastRow 107 = .ok (.iconst 2, 1) := by decide +kernel
theorem dR_leastRow_108 : decode cR_leastRow 108 = .ok (.iload 5, 2) := by decide +kernel
theorem dR_leastRow_110 : decode cR_leastRow 110 = .ok (.imul, 1) := by decide +kernel
theorem dR_leastRow_111 : decode cR_leastRow 111 = .ok (.lload_n 1, 1) := by decide +kernel
theorem dR_leastRow_112 : decode cR_leastRow 112 = .ok (.invokevirtual 36, 3) := by decide +kernel
theorem dR_leastRow_115 : decode cR_leastRow 115 = .ok (.ifCond .ne 10, 3) := by decide +kernel
theorem dR_leastRow_118 : decode cR_leastRow 118 = .ok (.iload 4, 2) := by decide +kernel
theorem dR_leastRow_120 : decode cR_leastRow 120 = .ok (.iload 5, 2) := by decide +kernel
theorem dR_leastRow_122 : decode cR_leastRow 122 = .ok (.ior, 1) := by decide +kernel
theorem dR_leastRow_123 : decode cR_leastRow 123 = .ok (.istore 4, 2) := by decide +kernel
theorem dR_leastRow_125 : decode cR_leastRow 125 = .ok (.iload 5, 2) := by decide +kernel
theorem dR_leastRow_127 : decode cR_leastRow 127 = .ok (.iconst 2, 1) := by decide +kernel
theorem dR_leastRow_128 : decode cR_leastRow 128 = .ok (.imul, 1) := by decide +kernel
theorem dR_leastRow_129 : decode cR_leastRow 129 = .ok (.istore 5, 2) := by decide +kernel
theorem dR_leastRow_131 : decode cR_leastRow 131 = .ok (.goto (-44), 3) := by decide +kernel
theorem dR_leastRow_134 : decode cR_leastRow 134 = .ok (.iload 4, 2) := by decide +kernel
theorem dR_leastRow_136 : decode cR_leastRow 136 = .ok (.bipush 6, 2) := by decide +kernel
theorem dR_leastRow_138 : decode cR_leastRow 138 = .ok (.ishl, 1) := by decide +kernel
theorem dR_leastRow_139 : decode cR_leastRow 139 = .ok (.iload_n 3, 1) := by decide +kernel
theorem dR_leastRow_140 : decode cR_leastRow 140 = .ok (.ior, 1) := by decide +kernel
theorem dR_leastRow_141 : decode cR_leastRow 141 = .ok (.ireturn, 1) := by decide +kernel
theorem dR_rowsWith_0 : decode cR_rowsWith 0 = .ok (.iload_n 0, 1) := by decide +kernel
theorem dR_rowsWith_1 : decode cR_rowsWith 1 = .ok (.iconst 1, 1) := by decide +kernel
theorem dR_rowsWith_2 : decode cR_rowsWith 2 = .ok (.ishr, 1) := by decide +kernel
theorem dR_rowsWith_3 : decode cR_rowsWith 3 = .ok (.istore_n 2, 1) := by decide +kernel
theorem dR_rowsWith_4 : decode cR_rowsWith 4 = .ok (.iload_n 2, 1) := by decide +kernel
theorem dR_rowsWith_5 : decode cR_rowsWith 5 = .ok (.ifCond .lt 20, 3) := by decide +kernel
theorem dR_rowsWith_8 : decode cR_rowsWith 8 = .ok (.iload_n 2, 1) := by decide +kernel
theorem dR_rowsWith_9 : decode cR_rowsWith 9 = .ok (.getstatic 21, 3) := by decide +kernel
theorem dR_rowsWith_12 : decode cR_rowsWith 12 = .ok (.arraylength, 1) := by decide +kernel
theorem dR_rowsWith_13 : decode cR_rowsWith 13 = .ok (.if_icmp .ge 12, 3) := by decide +kernel
theorem dR_rowsWith_16 : decode cR_rowsWith 16 = .ok (.getstatic 21, 3) := by decide +kernel
theorem dR_rowsWith_19 : decode cR_rowsWith 19 = .ok (.iload_n 2, 1) := by decide +kernel
theorem dR_rowsWith_20 : decode cR_rowsWith 20 = .ok (.laload, 1) := by decide +kernel
theorem dR_rowsWith_21 : decode cR_rowsWith 21 = .ok (.lstore_n 3, 1) := by decide +kernel
theorem dR_rowsWith_22 : decode cR_rowsWith 22 = .ok (.goto 22, 3) := by decide +kernel
theorem dR_rowsWith_25 : decode cR_rowsWith 25 = .ok (.iload_n 1, 1) := by decide +kernel
theorem dR_rowsWith_26 : decode cR_rowsWith 26 = .ok (.iload_n 2, 1) := by decide +kernel
theorem dR_rowsWith_27 : decode cR_rowsWith 27 = .ok (.bipush 6, 2) := by decide +kernel
theorem dR_rowsWith_29 : decode cR_rowsWith 29 = .ok (.isub, 1) := by decide +kernel
theorem dR_rowsWith_30 : decode cR_rowsWith 30 = .ok (.ishr, 1) := by decide +kernel
theorem dR_rowsWith_31 : decode cR_rowsWith 31 = .ok (.iconst 1, 1) := by decide +kernel
theorem dR_rowsWith_32 : decode cR_rowsWith 32 = .ok (.iand, 1) := by decide +kernel
theorem dR_rowsWith_33 : decode cR_rowsWith 33 = .ok (.ifCond .eq 9, 3) := by decide +kernel
theorem dR_rowsWith_36 : decode cR_rowsWith 36 = .ok (.ldc2_w 19, 3) := by decide +kernel
theorem dR_rowsWith_39 : decode cR_rowsWith 39 = .ok (.goto 4, 3) := by decide +kernel
theorem dR_rowsWith_42 : decode cR_rowsWith 42 = .ok (.lconst 0, 1) := by decide +kernel
theorem dR_rowsWith_43 : decode cR_rowsWith 43 = .ok (.lstore_n 3, 1) := by decide +kernel
theorem dR_rowsWith_44 : decode cR_rowsWith 44 = .ok (.iload_n 0, 1) := by decide +kernel
theorem dR_rowsWith_45 : decode cR_rowsWith 45 = .ok (.iconst 1, 1) := by decide +kernel
theorem dR_rowsWith_46 : decode cR_rowsWith 46 = .ok (.iand, 1) := by decide +kernel
theorem dR_rowsWith_47 : decode cR_rowsWith 47 = .ok (.ifCond .ne 7, 3) := by decide +kernel
theorem dR_rowsWith_50 : decode cR_rowsWith 50 = .ok (.lload_n 3, 1) := by decide +kernel
theorem dR_rowsWith_51 : decode cR_rowsWith 51 = .ok (.goto 8, 3) := by decide +kernel
theorem dR_rowsWith_54 : decode cR_rowsWith 54 = .ok (.lload_n 3, 1) := by decide +kernel
theorem dR_rowsWith_55 : decode cR_rowsWith 55 = .ok (.ldc2_w 19, 3) := by decide +kernel
theorem dR_rowsWith_58 : decode cR_rowsWith 58 = .ok (.lxor, 1) := by decide +kernel
theorem dR_rowsWith_59 : decode cR_rowsWith 59 = .ok (.lreturn, 1) := by decide +kernel
theorem dS_assume_0 : decode cS_assume 0 = .ok (.aload_n 0, 1) := by decide +kernel
theorem dS_assume_1 : decode cS_assume 1 = .ok (.iload_n 1, 1) := by decide +kernel
theorem dS_assume_2 : decode cS_assume 2 = .ok (.invokevirtual 44, 3) := by decide +kernel
theorem dS_assume_5 : decode cS_assume 5 = .ok (.aload_n 0, 1) := by decide +kernel
theorem dS_assume_6 : decode cS_assume 6 = .ok (.getfield 66, 3) := by decide +kernel
theorem dS_assume_9 : decode cS_assume 9 = .ok (.aload_n 0, 1) := by decide +kernel
theorem dS_assume_10 : decode cS_assume 10 = .ok (.getfield 23, 3) := by decide +kernel
theorem dS_assume_13 : decode cS_assume 13 = .ok (.arraylength, 1) := by decide +kernel
theorem dS_assume_14 : decode cS_assume 14 = .ok (.if_icmp .lt 13, 3) := by decide +kernel
theorem dS_assume_17 : decode cS_assume 17 = .ok (.new 33, 3) := by decide +kernel
theorem dS_assume_20 : decode cS_assume 20 = .ok (.dup, 1) := by decide +kernel
theorem dS_assume_21 : decode cS_assume 21 = .ok (.ldc 69, 2) := by decide +kernel
theorem dS_assume_23 : decode cS_assume 23 = .ok (.invokespecial 37, 3) := by decide +kernel
theorem dS_assume_26 : decode cS_assume 26 = .ok (.athrow, 1) := by decide +kernel
theorem dS_assume_27 : decode cS_assume 27 = .ok (.aload_n 0, 1) := by decide +kernel
theorem dS_assume_28 : decode cS_assume 28 = .ok (.getfield 23, 3) := by decide +kernel
theorem dS_assume_31 : decode cS_assume 31 = .ok (.aload_n 0, 1) := by decide +kernel
theorem dS_assume_32 : decode cS_assume 32 = .ok (.getfield 66, 3) := by decide +kernel
theorem dS_assume_35 : decode cS_assume 35 = .ok (.iload_n 1, 1) := by decide +kernel
theorem dS_assume_36 : decode cS_assume 36 = .ok (.iastore, 1) := by decide +kernel
theorem dS_assume_37 : decode cS_assume 37 = .ok (.aload_n 0, 1) := by decide +kernel
theorem dS_assume_38 : decode cS_assume 38 = .ok (.dup, 1) := by decide +kernel
theorem dS_assume_39 : decode cS_assume 39 = .ok (.getfield 66, 3) := by decide +kernel
theorem dS_assume_42 : decode cS_assume 42 = .ok (.iconst 1, 1) := by decide +kernel
theorem dS_assume_43 : decode cS_assume 43 = .ok (.iadd, 1) := by decide +kernel
theorem dS_assume_44 : decode cS_assume 44 = .ok (.putfield 66, 3) := by decide +kernel
theorem dS_assume_47 : decode cS_assume 47 = .ok (.aload_n 0, 1) := by decide +kernel
theorem dS_assume_48 : decode cS_assume 48 = .ok (.getfield 66, 3) := by decide +kernel
theorem dS_assume_51 : decode cS_assume 51 = .ok (.ireturn, 1) := by decide +kernel
theorem dS_blame_0 : decode cS_blame 0 = .ok (.aload_n 0, 1) := by decide +kernel
theorem dS_blame_1 : decode cS_blame 1 = .ok (.getfield 79, 3) := by decide +kernel
theorem dS_blame_4 : decode cS_blame 4 = .ok (.ireturn, 1) := by decide +kernel
theorem dS_clear_0 : decode cS_clear 0 = .ok (.aload_n 0, 1) := by decide +kernel
theorem dS_clear_1 : decode cS_clear 1 = .ok (.invokevirtual 26, 3) := by decide +kernel
theorem dS_clear_4 : decode cS_clear 4 = .ok (.return_, 1) := by decide +kernel
theorem dS_close_0 : decode cS_close 0 = .ok (.aload_n 0, 1) := by decide +kernel
theorem dS_close_1 : decode cS_close 1 = .ok (.getfield 57, 3) := by decide +kernel
theorem dS_close_4 : decode cS_close 4 = .ok (.sipush 500, 3) := by decide +kernel
theorem dS_close_7 : decode cS_close 7 = .ok (.if_icmp .lt 13, 3) := by decide +kernel
theorem dS_close_10 : decode cS_close 10 = .ok (.new 33, 3) := by decide +kernel
theorem dS_close_13 : decode cS_close 13 = .ok (.dup, 1) := by decide +kernel
theorem dS_close_14 : decode cS_close 14 = .ok (.ldc 60, 2) := by decide +kernel
theorem dS_close_16 : decode cS_close 16 = .ok (.invokespecial 37, 3) := by decide +kernel
theorem dS_close_19 : decode cS_close 19 = .ok (.athrow, 1) := by decide +kernel
theorem dS_close_20 : decode cS_close 20 = .ok (.aload_n 0, 1) := by decide +kernel
theorem dS_close_21 : decode cS_close 21 = .ok (.getfield 10, 3) := by decide +kernel
theorem dS_close_24 : decode cS_close 24 = .ok (.aload_n 0, 1) := by decide +kernel
theorem dS_close_25 : decode cS_close 25 = .ok (.getfield 19, 3) := by decide +kernel
theorem dS_close_28 : decode cS_close 28 = .ok (.aload_n 0, 1) := by decide +kernel
theorem dS_close_29 : decode cS_close 29 = .ok (.getfield 47, 3) := by decide +kernel
theorem dS_close_32 : decode cS_close 32 = .ok (.invokevirtual 62, 3) := by decide +kernel
theorem dS_close_35 : decode cS_close 35 = .ok (.aload_n 0, 1) := by decide +kernel
theorem dS_close_36 : decode cS_close 36 = .ok (.iconst 0, 1) := by decide +kernel
theorem dS_close_37 : decode cS_close 37 = .ok (.putfield 47, 3) := by decide +kernel
theorem dS_close_40 : decode cS_close 40 = .ok (.aload_n 0, 1) := by decide +kernel
theorem dS_close_41 : decode cS_close 41 = .ok (.dup, 1) := by decide +kernel
theorem dS_close_42 : decode cS_close 42 = .ok (.getfield 57, 3) := by decide +kernel
theorem dS_close_45 : decode cS_close 45 = .ok (.iconst 1, 1) := by decide +kernel
theorem dS_close_46 : decode cS_close 46 = .ok (.iadd, 1) := by decide +kernel
theorem dS_close_47 : decode cS_close 47 = .ok (.putfield 57, 3) := by decide +kernel
theorem dS_close_50 : decode cS_close 50 = .ok (.aload_n 0, 1) := by decide +kernel
theorem dS_close_51 : decode cS_close 51 = .ok (.getfield 57, 3) := by decide +kernel
theorem dS_close_54 : decode cS_close 54 = .ok (.ireturn, 1) := by decide +kernel
theorem dS_init_0 : decode cS_init 0 = .ok (.aload_n 0, 1) := by decide +kernel
theorem dS_init_1 : decode cS_init 1 = .ok (.invokespecial 1, 3) := by decide +kernel
theorem dS_init_4 : decode cS_init 4 = .ok (.aload_n 0, 1) := by decide +kernel
theorem dS_init_5 : decode cS_init 5 = .ok (.new 7, 3) := by decide +kernel
theorem dS_init_8 : decode cS_init 8 = .ok (.dup, 1) := by decide +kernel
theorem dS_init_9 : decode cS_init 9 = .ok (.invokespecial 9, 3) := by decide +kernel
theorem dS_init_12 : decode cS_init 12 = .ok (.putfield 10, 3) := by decide +kernel
theorem dS_init_15 : decode cS_init 15 = .ok (.aload_n 0, 1) := by decide +kernel
theorem dS_init_16 : decode cS_init 16 = .ok (.new 7, 3) := by decide +kernel
theorem dS_init_19 : decode cS_init 19 = .ok (.dup, 1) := by decide +kernel
theorem dS_init_20 : decode cS_init 20 = .ok (.invokespecial 9, 3) := by decide +kernel
theorem dS_init_23 : decode cS_init 23 = .ok (.putfield 16, 3) := by decide +kernel
theorem dS_init_26 : decode cS_init 26 = .ok (.aload_n 0, 1) := by decide +kernel
theorem dS_init_27 : decode cS_init 27 = .ok (.bipush 40, 2) := by decide +kernel
theorem dS_init_29 : decode cS_init 29 = .ok (.newarray .int, 2) := by decide +kernel
theorem dS_init_31 : decode cS_init 31 = .ok (.putfield 19, 3) := by decide +kernel
theorem dS_init_34 : decode cS_init 34 = .ok (.aload_n 0, 1) := by decide +kernel
theorem dS_init_35 : decode cS_init 35 = .ok (.bipush 64, 2) := by decide +kernel
theorem dS_init_37 : decode cS_init 37 = .ok (.newarray .int, 2) := by decide +kernel
theorem dS_init_39 : decode cS_init 39 = .ok (.putfield 23, 3) := by decide +kernel
theorem dS_init_42 : decode cS_init 42 = .ok (.aload_n 0, 1) := by decide +kernel
theorem dS_init_43 : decode cS_init 43 = .ok (.invokevirtual 26, 3) := by decide +kernel
theorem dS_init_46 : decode cS_init 46 = .ok (.return_, 1) := by decide +kernel
theorem dS_least_0 : decode cS_least 0 = .ok (.iload_n 1, 1) := by decide +kernel
theorem dS_least_1 : decode cS_least 1 = .ok (.ifCond .lt 11, 3) := by decide +kernel
theorem dS_least_4 : decode cS_least 4 = .ok (.iload_n 1, 1) := by decide +kernel
theorem dS_least_5 : decode cS_least 5 = .ok (.aload_n 0, 1) := by decide +kernel
theorem dS_least_6 : decode cS_least 6 = .ok (.getfield 29, 3) := by decide +kernel
theorem dS_least_9 : decode cS_least 9 = .ok (.if_icmp .lt 13, 3) := by decide +kernel
theorem dS_least_12 : decode cS_least 12 = .ok (.new 95, 3) := by decide +kernel
theorem dS_least_15 : decode cS_least 15 = .ok (.dup, 1) := by decide +kernel
theorem dS_least_16 : decode cS_least 16 = .ok (.ldc 97, 2) := by decide +kernel
theorem dS_least_18 : decode cS_least 18 = .ok (.invokespecial 99, 3) := by decide +kernel
theorem dS_least_21 : decode cS_least 21 = .ok (.athrow, 1) := by decide +kernel
theorem dS_least_22 : decode cS_least 22 = .ok (.aload_n 0, 1) := by decide +kernel
theorem dS_least_23 : decode cS_least 23 = .ok (.getfield 82, 3) := by decide +kernel
theorem dS_least_26 : decode cS_least 26 = .ok (.ifCond .eq 11, 3) := by decide +kernel
theorem dS_least_29 : decode cS_least 29 = .ok (.iload_n 1, 1) := by decide +kernel
theorem dS_least_30 : decode cS_least 30 = .ok (.aload_n 0, 1) := by decide +kernel
theorem dS_least_31 : decode cS_least 31 = .ok (.getfield 92, 3) := by decide +kernel
theorem dS_least_34 : decode cS_least 34 = .ok (.if_icmp .lt 5, 3) := by decide +kernel
theorem dS_least_37 : decode cS_least 37 = .ok (.iconst (-1), 1) := by decide +kernel
theorem dS_least_38 : decode cS_least 38 = .ok (.ireturn, 1) := by decide +kernel
theorem dS_least_39 : decode cS_least 39 = .ok (.aload_n 0, 1) := by decide +kernel
theorem dS_least_40 : decode cS_least 40 = .ok (.getfield 89, 3) := by decide +kernel
theorem dS_least_43 : decode cS_least 43 = .ok (.iload_n 1, 1) := by decide +kernel
theorem dS_least_44 : decode cS_least 44 = .ok (.ishr, 1) := by decide +kernel
theorem dS_least_45 : decode cS_least 45 = .ok (.iconst 1, 1) := by decide +kernel
theorem dS_least_46 : decode cS_least 46 = .ok (.iand, 1) := by decide +kernel
theorem dS_least_47 : decode cS_least 47 = .ok (.ireturn, 1) := by decide +kernel
theorem dS_literal_0 : decode cS_literal 0 = .ok (.aload_n 0, 1) := by decide +kernel
theorem dS_literal_1 : decode cS_literal 1 = .ok (.iload_n 1, 1) := by decide +kernel
theorem dS_literal_2 : decode cS_literal 2 = .ok (.invokevirtual 44, 3) := by decide +kernel
theorem dS_literal_5 : decode cS_literal 5 = .ok (.aload_n 0, 1) := by decide +kernel
theorem dS_literal_6 : decode cS_literal 6 = .ok (.getfield 47, 3) := by decide +kernel
theorem dS_literal_9 : decode cS_literal 9 = .ok (.aload_n 0, 1) := by decide +kernel
theorem dS_literal_10 : decode cS_literal 10 = .ok (.getfield 19, 3) := by decide +kernel
theorem dS_literal_13 : decode cS_literal 13 = .ok (.arraylength, 1) := by decide +kernel
theorem dS_literal_14 : decode cS_literal 14 = .ok (.if_icmp .lt 13, 3) := by decide +kernel
theorem dS_literal_17 : decode cS_literal 17 = .ok (.new 33, 3) := by decide +kernel
theorem dS_literal_20 : decode cS_literal 20 = .ok (.dup, 1) := by decide +kernel
theorem dS_literal_21 : decode cS_literal 21 = .ok (.ldc 50, 2) := by decide +kernel
theorem dS_literal_23 : decode cS_literal 23 = .ok (.invokespecial 37, 3) := by decide +kernel
theorem dS_literal_26 : decode cS_literal 26 = .ok (.athrow, 1) := by decide +kernel
theorem dS_literal_27 : decode cS_literal 27 = .ok (.aload_n 0, 1) := by decide +kernel
theorem dS_literal_28 : decode cS_literal 28 = .ok (.getfield 52, 3) := by decide +kernel
theorem dS_literal_31 : decode cS_literal 31 = .ok (.sipush 4000, 3) := by decide +kernel
theorem dS_literal_34 : decode cS_literal 34 = .ok (.if_icmp .lt 13, 3) := by decide +kernel
theorem dS_literal_37 : decode cS_literal 37 = .ok (.new 33, 3) := by decide +kernel
theorem dS_literal_40 : decode cS_literal 40 = .ok (.dup, 1) := by decide +kernel
theorem dS_literal_41 : decode cS_literal 41 = .ok (.ldc 55, 2) := by decide +kernel
theorem dS_literal_43 : decode cS_literal 43 = .ok (.invokespecial 37, 3) := by decide +kernel
theorem dS_literal_46 : decode cS_literal 46 = .ok (.athrow, 1) := by decide +kernel
theorem dS_literal_47 : decode cS_literal 47 = .ok (.aload_n 0, 1) := by decide +kernel
theorem dS_literal_48 : decode cS_literal 48 = .ok (.getfield 19, 3) := by decide +kernel
theorem dS_literal_51 : decode cS_literal 51 = .ok (.aload_n 0, 1) := by decide +kernel
theorem dS_literal_52 : decode cS_literal 52 = .ok (.getfield 47, 3) := by decide +kernel
theorem dS_literal_55 : decode cS_literal 55 = .ok (.iload_n 1, 1) := by decide +kernel
theorem dS_literal_56 : decode cS_literal 56 = .ok (.iastore, 1) := by decide +kernel
theorem dS_literal_57 : decode cS_literal 57 = .ok (.aload_n 0, 1) := by decide +kernel
theorem dS_literal_58 : decode cS_literal 58 = .ok (.dup, 1) := by decide +kernel
theorem dS_literal_59 : decode cS_literal 59 = .ok (.getfield 47, 3) := by decide +kernel
theorem dS_literal_62 : decode cS_literal 62 = .ok (.iconst 1, 1) := by decide +kernel
theorem dS_literal_63 : decode cS_literal 63 = .ok (.iadd, 1) := by decide +kernel
theorem dS_literal_64 : decode cS_literal 64 = .ok (.putfield 47, 3) := by decide +kernel
theorem dS_literal_67 : decode cS_literal 67 = .ok (.aload_n 0, 1) := by decide +kernel
theorem dS_literal_68 : decode cS_literal 68 = .ok (.dup, 1) := by decide +kernel
theorem dS_literal_69 : decode cS_literal 69 = .ok (.getfield 52, 3) := by decide +kernel
theorem dS_literal_72 : decode cS_literal 72 = .ok (.iconst 1, 1) := by decide +kernel
theorem dS_literal_73 : decode cS_literal 73 = .ok (.iadd, 1) := by decide +kernel
theorem dS_literal_74 : decode cS_literal 74 = .ok (.putfield 52, 3) := by decide +kernel
theorem dS_literal_77 : decode cS_literal 77 = .ok (.aload_n 0, 1) := by decide +kernel
theorem dS_literal_78 : decode cS_literal 78 = .ok (.getfield 47, 3) := by decide +kernel
theorem dS_literal_81 : decode cS_literal 81 = .ok (.ireturn, 1) := by decide +kernel
theorem dS_must_0 : decode cS_must 0 = .ok (.aload_n 0, 1) := by decide +kernel
theorem dS_must_1 : decode cS_must 1 = .ok (.iload_n 1, 1) := by decide +kernel
theorem dS_must_2 : decode cS_must 2 = .ok (.invokevirtual 44, 3) := by decide +kernel
theorem dS_must_5 : decode cS_must 5 = .ok (.aload_n 0, 1) := by decide +kernel
theorem dS_must_6 : decode cS_must 6 = .ok (.getfield 10, 3) := by decide +kernel
theorem dS_must_9 : decode cS_must 9 = .ok (.iload_n 1, 1) := by decide +kernel
theorem dS_must_10 : decode cS_must 10 = .ok (.invokevirtual 100, 3) := by decide +kernel
theorem dS_must_13 : decode cS_must 13 = .ok (.istore_n 2, 1) := by decide +kernel
theorem dS_must_14 : decode cS_must 14 = .ok (.aload_n 0, 1) := by decide +kernel
theorem dS_must_15 : decode cS_must 15 = .ok (.getfield 10, 3) := by decide +kernel
theorem dS_must_18 : decode cS_must 18 = .ok (.iload_n 1, 1) := by decide +kernel
theorem dS_must_19 : decode cS_must 19 = .ok (.iconst 1, 1) := by decide +kernel
theorem dS_must_20 : decode cS_must 20 = .ok (.ixor, 1) := by decide +kernel
theorem dS_must_21 : decode cS_must 21 = .ok (.invokevirtual 100, 3) := by decide +kernel
theorem dS_must_24 : decode cS_must 24 = .ok (.istore_n 3, 1) := by decide +kernel
theorem dS_must_25 : decode cS_must 25 = .ok (.iload_n 2, 1) := by decide +kernel
theorem dS_must_26 : decode cS_must 26 = .ok (.ifCond .eq 13, 3) := by decide +kernel
theorem dS_must_29 : decode cS_must 29 = .ok (.iload_n 3, 1) := by decide +kernel
theorem dS_must_30 : decode cS_must 30 = .ok (.ifCond .eq 7, 3) := by decide +kernel
theorem dS_must_33 : decode cS_must 33 = .ok (.iconst 2, 1) := by decide +kernel
theorem dS_must_34 : decode cS_must 34 = .ok (.goto 4, 3) := by decide +kernel
theorem dS_must_37 : decode cS_must 37 = .ok (.iconst 1, 1) := by decide +kernel
theorem dS_must_38 : decode cS_must 38 = .ok (.ireturn, 1) := by decide +kernel
theorem dS_must_39 : decode cS_must 39 = .ok (.iload_n 3, 1) := by decide +kernel
theorem dS_must_40 : decode cS_must 40 = .ok (.ifCond .eq 7, 3) := by decide +kernel
theorem dS_must_43 : decode cS_must 43 = .ok (.iconst 0, 1) := by decide +kernel
theorem dS_must_44 : decode cS_must 44 = .ok (.goto 4, 3) := by decide +kernel
theorem dS_must_47 : decode cS_must 47 = .ok (.iconst (-1), 1) := by decide +kernel
theorem dS_must_48 : decode cS_must 48 = .ok (.ireturn, 1) := by decide +kernel
theorem dS_narrowToAssumptions_0 : decode cS_narrowToAssumptions 0 = .ok (.aload_n 0, 1) := by decide +kernel
theorem dS_narrowToAssumptions_1 : decode cS_narrowToAssumptions 1 = .ok (.getfield 16, 3) := by decide +kernel
theorem dS_narrowToAssumptions_4 : decode cS_narrowToAssumptions 4 = .ok (.iconst 0, 1) := by decide +kernel
theorem dS_narrowToAssumptions_5 : decode cS_narrowToAssumptions 5 = .ok (.iconst 1, 1) := by decide +kernel
theorem dS_narrowToAssumptions_6 : decode cS_narrowToAssumptions 6 = .ok (.ldc2_w 122, 3) := by decide +kernel
theorem dS_narrowToAssumptions_9 : decode cS_narrowToAssumptions 9 = .ok (.invokevirtual 124, 3) := by decide +kernel
theorem dS_narrowToAssumptions_12 : decode cS_narrowToAssumptions 12 = .ok (.ifCond .ne 5, 3) := by decide +kernel
theorem dS_narrowToAssumptions_15 : decode cS_narrowToAssumptions 15 = .ok (.iconst 0, 1) := by decide +kernel
theorem dS_narrowToAssumptions_16 : decode cS_narrowToAssumptions 16 = .ok (.ireturn, 1) := by decide +kernel
theorem dS_narrowToAssumptions_17 : decode cS_narrowToAssumptions 17 = .ok (.iconst 0, 1) := by decide +kernel
theorem dS_narrowToAssumptions_18 : decode cS_narrowToAssumptions 18 = .ok (.istore_n 1, 1) := by decide +kernel
theorem dS_narrowToAssumptions_19 : decode cS_narrowToAssumptions 19 = .ok (.iload_n 1, 1) := by decide +kernel
theorem dS_narrowToAssumptions_20 : decode cS_narrowToAssumptions 20 = .ok (.aload_n 0, 1) := by decide +kernel
theorem dS_narrowToAssumptions_21 : decode cS_narrowToAssumptions 21 = .ok (.getfield 66, 3) := by decide +kernel
theorem dS_narrowToAssumptions_24 : decode cS_narrowToAssumptions 24 = .ok (.if_icmp .ge 38, 3) := by decide +kernel
theorem dS_narrowToAssumptions_27 : decode cS_narrowToAssumptions 27 = .ok (.iload_n 1, 1) := by decide +kernel
theorem dS_narrowToAssumptions_28 : decode cS_narrowToAssumptions 28 = .ok (.aload_n 0, 1) := by decide +kernel
theorem dS_narrowToAssumptions_29 : decode cS_narrowToAssumptions 29 = .ok (.getfield 23, 3) := by decide +kernel
theorem dS_narrowToAssumptions_32 : decode cS_narrowToAssumptions 32 = .ok (.arraylength, 1) := by decide +kernel
theorem dS_narrowToAssumptions_33 : decode cS_narrowToAssumptions 33 = .ok (.if_icmp .ge 29, 3) := by decide +kernel
theorem dS_narrowToAssumptions_36 : decode cS_narrowToAssumptions 36 = .ok (.aload_n 0, 1) := by decide +kernel
theorem dS_narrowToAssumptions_37 : decode cS_narrowToAssumptions 37 = .ok (.getfield 16, 3) := by decide +kernel
theorem dS_narrowToAssumptions_40 : decode cS_narrowToAssumptions 40 = .ok (.aload_n 0, 1) := by decide +kernel
theorem dS_narrowToAssumptions_41 : decode cS_narrowToAssumptions 41 = .ok (.getfield 23, 3) := by decide +kernel
theorem dS_narrowToAssumptions_44 : decode cS_narrowToAssumptions 44 = .ok (.iload_n 1, 1) := by decide +kernel
theorem dS_narrowToAssumptions_45 : decode cS_narrowToAssumptions 45 = .ok (.iaload, 1) := by decide +kernel
theorem dS_narrowToAssumptions_46 : decode cS_narrowToAssumptions 46 = .ok (.invokevirtual 128, 3) := by decide +kernel
theorem dS_narrowToAssumptions_49 : decode cS_narrowToAssumptions 49 = .ok (.ifCond .ne 7, 3) := by decide +kernel
theorem dS_narrowToAssumptions_52 : decode cS_narrowToAssumptions 52 = .ok (.iload_n 1, 1) := by decide +kernel
theorem dS_narrowToAssumptions_53 : decode cS_narrowToAssumptions 53 = .ok (.iconst 1, 1) := by decide +kernel
theorem dS_narrowToAssumptions_54 : decode cS_narrowToAssumptions 54 = .ok (.iadd, 1) := by decide +kernel
theorem dS_narrowToAssumptions_55 : decode cS_narrowToAssumptions 55 = .ok (.ireturn, 1) := by decide +kernel
theorem dS_narrowToAssumptions_56 : decode cS_narrowToAssumptions 56 = .ok (.iinc 1 1, 3) := by decide +kernel
theorem dS_narrowToAssumptions_59 : decode cS_narrowToAssumptions 59 = .ok (.goto (-40), 3) := by decide +kernel
theorem dS_narrowToAssumptions_62 : decode cS_narrowToAssumptions 62 = .ok (.iconst (-1), 1) := by decide +kernel
theorem dS_narrowToAssumptions_63 : decode cS_narrowToAssumptions 63 = .ok (.ireturn, 1) := by decide +kernel
theorem dS_proved_0 : decode cS_proved 0 = .ok (.aload_n 0, 1) := by decide +kernel
theorem dS_proved_1 : decode cS_proved 1 = .ok (.getfield 79, 3) := by decide +kernel
theorem dS_proved_4 : decode cS_proved 4 = .ok (.iconst (-1), 1) := by decide +kernel
theorem dS_proved_5 : decode cS_proved 5 = .ok (.if_icmp .eq 7, 3) := by decide +kernel
theorem dS_proved_8 : decode cS_proved 8 = .ok (.iconst 1, 1) := by decide +kernel
theorem dS_proved_9 : decode cS_proved 9 = .ok (.goto 4, 3) := by decide +kernel
theorem dS_proved_12 : decode cS_proved 12 = .ok (.iconst 0, 1) := by decide +kernel
theorem dS_proved_13 : decode cS_proved 13 = .ok (.ireturn, 1) := by decide +kernel
theorem dS_refuseUnknownLiteral_0 : decode cS_refuseUnknownLiteral 0 = .ok (.iload_n 1, 1) := by decide +kernel
theorem dS_refuseUnknownLiteral_1 : decode cS_refuseUnknownLiteral 1 = .ok (.ifCond .lt 13, 3) := by decide +kernel
theorem dS_refuseUnknownLiteral_4 : decode cS_refuseUnknownLiteral 4 = .ok (.iload_n 1, 1) := by decide +kernel
theorem dS_refuseUnknownLiteral_5 : decode cS_refuseUnknownLiteral 5 = .ok (.iconst 2, 1) := by decide +kernel
theorem dS_refuseUnknownLiteral_6 : decode cS_refuseUnknownLiteral 6 = .ok (.aload_n 0, 1) := by decide +kernel
theorem dS_refuseUnknownLiteral_7 : decode cS_refuseUnknownLiteral 7 = .ok (.getfield 29, 3) := by decide +kernel
theorem dS_refuseUnknownLiteral_10 : decode cS_refuseUnknownLiteral 10 = .ok (.imul, 1) := by decide +kernel
theorem dS_refuseUnknownLiteral_11 : decode cS_refuseUnknownLiteral 11 = .ok (.if_icmp .lt 13, 3) := by decide +kernel
theorem dS_refuseUnknownLiteral_14 : decode cS_refuseUnknownLiteral 14 = .ok (.new 104, 3) := by decide +kernel
theorem dS_refuseUnknownLiteral_17 : decode cS_refuseUnknownLiteral 17 = .ok (.dup, 1) := by decide +kernel
theorem dS_refuseUnknownLiteral_18 : decode cS_refuseUnknownLiteral 18 = .ok (.ldc 120, 2) := by decide +kernel
theorem dS_refuseUnknownLiteral_20 : decode cS_refuseUnknownLiteral 20 = .ok (.invokespecial 108, 3) := by decide +kernel
theorem dS_refuseUnknownLiteral_23 : decode cS_refuseUnknownLiteral 23 = .ok (.athrow, 1) := by decide +kernel
theorem dS_refuseUnknownLiteral_24 : decode cS_refuseUnknownLiteral 24 = .ok (.return_, 1) := by decide +kernel
theorem dS_shown_0 : decode cS_shown 0 = .ok (.aload_n 0, 1) := by decide +kernel
theorem dS_shown_1 : decode cS_shown 1 = .ok (.getfield 82, 3) := by decide +kernel
theorem dS_shown_4 : decode cS_shown 4 = .ok (.ireturn, 1) := by decide +kernel
theorem dS_solve_0 : decode cS_solve 0 = .ok (.aload_n 0, 1) := by decide +kernel
theorem dS_solve_1 : decode cS_solve 1 = .ok (.getfield 16, 3) := by decide +kernel
theorem dS_solve_4 : decode cS_solve 4 = .ok (.aload_n 0, 1) := by decide +kernel
theorem dS_solve_5 : decode cS_solve 5 = .ok (.getfield 10, 3) := by decide +kernel
theorem dS_solve_8 : decode cS_solve 8 = .ok (.invokevirtual 71, 3) := by decide +kernel
theorem dS_solve_11 : decode cS_solve 11 = .ok (.aload_n 0, 1) := by decide +kernel
theorem dS_solve_12 : decode cS_solve 12 = .ok (.aload_n 0, 1) := by decide +kernel
theorem dS_solve_13 : decode cS_solve 13 = .ok (.invokevirtual 75, 3) := by decide +kernel
theorem dS_solve_16 : decode cS_solve 16 = .ok (.putfield 79, 3) := by decide +kernel
theorem dS_solve_19 : decode cS_solve 19 = .ok (.aload_n 0, 1) := by decide +kernel
theorem dS_solve_20 : decode cS_solve 20 = .ok (.aload_n 0, 1) := by decide +kernel
theorem dS_solve_21 : decode cS_solve 21 = .ok (.getfield 79, 3) := by decide +kernel
theorem dS_solve_24 : decode cS_solve 24 = .ok (.iconst (-1), 1) := by decide +kernel
theorem dS_solve_25 : decode cS_solve 25 = .ok (.if_icmp .ne 7, 3) := by decide +kernel
theorem dS_solve_28 : decode cS_solve 28 = .ok (.iconst 1, 1) := by decide +kernel
theorem dS_solve_29 : decode cS_solve 29 = .ok (.goto 4, 3) := by decide +kernel
theorem dS_solve_32 : decode cS_solve 32 = .ok (.iconst 0, 1) := by decide +kernel
theorem dS_solve_33 : decode cS_solve 33 = .ok (.putfield 82, 3) := by decide +kernel
theorem dS_solve_36 : decode cS_solve 36 = .ok (.aload_n 0, 1) := by decide +kernel
theorem dS_solve_37 : decode cS_solve 37 = .ok (.aload_n 0, 1) := by decide +kernel
theorem dS_solve_38 : decode cS_solve 38 = .ok (.getfield 82, 3) := by decide +kernel
theorem dS_solve_41 : decode cS_solve 41 = .ok (.ifCond .eq 13, 3) := by decide +kernel
theorem dS_solve_44 : decode cS_solve 44 = .ok (.aload_n 0, 1) := by decide +kernel
theorem dS_solve_45 : decode cS_solve 45 = .ok (.getfield 16, 3) := by decide +kernel
theorem dS_solve_48 : decode cS_solve 48 = .ok (.invokevirtual 86, 3) := by decide +kernel
theorem dS_solve_51 : decode cS_solve 51 = .ok (.goto 4, 3) := by decide +kernel
theorem dS_solve_54 : decode cS_solve 54 = .ok (.iconst 0, 1) := by decide +kernel
theorem dS_solve_55 : decode cS_solve 55 = .ok (.putfield 89, 3) := by decide +kernel
theorem dS_solve_58 : decode cS_solve 58 = .ok (.aload_n 0, 1) := by decide +kernel
theorem dS_solve_59 : decode cS_solve 59 = .ok (.aload_n 0, 1) := by decide +kernel
theorem dS_solve_60 : decode cS_solve 60 = .ok (.getfield 29, 3) := by decide +kernel
theorem dS_solve_63 : decode cS_solve 63 = .ok (.putfield 92, 3) := by decide +kernel
theorem dS_solve_66 : decode cS_solve 66 = .ok (.aload_n 0, 1) := by decide +kernel
theorem dS_solve_67 : decode cS_solve 67 = .ok (.iconst 0, 1) := by decide +kernel
theorem dS_solve_68 : decode cS_solve 68 = .ok (.putfield 66, 3) := by decide +kernel
theorem dS_solve_71 : decode cS_solve 71 = .ok (.aload_n 0, 1) := by decide +kernel
theorem dS_solve_72 : decode cS_solve 72 = .ok (.getfield 82, 3) := by decide +kernel
theorem dS_solve_75 : decode cS_solve 75 = .ok (.ireturn, 1) := by decide +kernel
theorem dS_startAnew_0 : decode cS_startAnew 0 = .ok (.aload_n 0, 1) := by decide +kernel
theorem dS_startAnew_1 : decode cS_startAnew 1 = .ok (.getfield 10, 3) := by decide +kernel
theorem dS_startAnew_4 : decode cS_startAnew 4 = .ok (.invokevirtual 117, 3) := by decide +kernel
theorem dS_startAnew_7 : decode cS_startAnew 7 = .ok (.aload_n 0, 1) := by decide +kernel
theorem dS_startAnew_8 : decode cS_startAnew 8 = .ok (.iconst 0, 1) := by decide +kernel
theorem dS_startAnew_9 : decode cS_startAnew 9 = .ok (.putfield 29, 3) := by decide +kernel
theorem dS_startAnew_12 : decode cS_startAnew 12 = .ok (.aload_n 0, 1) := by decide +kernel
theorem dS_startAnew_13 : decode cS_startAnew 13 = .ok (.iconst 0, 1) := by decide +kernel
theorem dS_startAnew_14 : decode cS_startAnew 14 = .ok (.putfield 52, 3) := by decide +kernel
theorem dS_startAnew_17 : decode cS_startAnew 17 = .ok (.aload_n 0, 1) := by decide +kernel
theorem dS_startAnew_18 : decode cS_startAnew 18 = .ok (.iconst 0, 1) := by decide +kernel
theorem dS_startAnew_19 : decode cS_startAnew 19 = .ok (.putfield 57, 3) := by decide +kernel
theorem dS_startAnew_22 : decode cS_startAnew 22 = .ok (.aload_n 0, 1) := by decide +kernel
theorem dS_startAnew_23 : decode cS_startAnew 23 = .ok (.iconst 0, 1) := by decide +kernel
theorem dS_startAnew_24 : decode cS_startAnew 24 = .ok (.putfield 47, 3) := by decide +kernel
theorem dS_startAnew_27 : decode cS_startAnew 27 = .ok (.aload_n 0, 1) := by decide +kernel
theorem dS_startAnew_28 : decode cS_startAnew 28 = .ok (.iconst 0, 1) := by decide +kernel
theorem dS_startAnew_29 : decode cS_startAnew 29 = .ok (.putfield 66, 3) := by decide +kernel
theorem dS_startAnew_32 : decode cS_startAnew 32 = .ok (.aload_n 0, 1) := by decide +kernel
theorem dS_startAnew_33 : decode cS_startAnew 33 = .ok (.iconst 0, 1) := by decide +kernel
theorem dS_startAnew_34 : decode cS_startAnew 34 = .ok (.putfield 82, 3) := by decide +kernel
theorem dS_startAnew_37 : decode cS_startAnew 37 = .ok (.aload_n 0, 1) := by decide +kernel
theorem dS_startAnew_38 : decode cS_startAnew 38 = .ok (.iconst (-1), 1) := by decide +kernel
theorem dS_startAnew_39 : decode cS_startAnew 39 = .ok (.putfield 79, 3) := by decide +kernel
theorem dS_startAnew_42 : decode cS_startAnew 42 = .ok (.aload_n 0, 1) := by decide +kernel
theorem dS_startAnew_43 : decode cS_startAnew 43 = .ok (.iconst 0, 1) := by decide +kernel
theorem dS_startAnew_44 : decode cS_startAnew 44 = .ok (.putfield 89, 3) := by decide +kernel
theorem dS_startAnew_47 : decode cS_startAnew 47 = .ok (.aload_n 0, 1) := by decide +kernel
theorem dS_startAnew_48 : decode cS_startAnew 48 = .ok (.iconst 0, 1) := by decide +kernel
theorem dS_startAnew_49 : decode cS_startAnew 49 = .ok (.putfield 92, 3) := by decide +kernel
theorem dS_startAnew_52 : decode cS_startAnew 52 = .ok (.return_, 1) := by decide +kernel
theorem dS_variable_0 : decode cS_variable 0 = .ok (.aload_n 0, 1) := by decide +kernel
theorem dS_variable_1 : decode cS_variable 1 = .ok (.getfield 29, 3) := by decide +kernel
theorem dS_variable_4 : decode cS_variable 4 = .ok (.bipush 16, 2) := by decide +kernel
theorem dS_variable_6 : decode cS_variable 6 = .ok (.if_icmp .lt 13, 3) := by decide +kernel
theorem dS_variable_9 : decode cS_variable 9 = .ok (.new 33, 3) := by decide +kernel
theorem dS_variable_12 : decode cS_variable 12 = .ok (.dup, 1) := by decide +kernel
theorem dS_variable_13 : decode cS_variable 13 = .ok (.ldc 35, 2) := by decide +kernel
theorem dS_variable_15 : decode cS_variable 15 = .ok (.invokespecial 37, 3) := by decide +kernel
theorem dS_variable_18 : decode cS_variable 18 = .ok (.athrow, 1) := by decide +kernel
theorem dS_variable_19 : decode cS_variable 19 = .ok (.aload_n 0, 1) := by decide +kernel
theorem dS_variable_20 : decode cS_variable 20 = .ok (.getfield 29, 3) := by decide +kernel
theorem dS_variable_23 : decode cS_variable 23 = .ok (.istore_n 1, 1) := by decide +kernel
theorem dS_variable_24 : decode cS_variable 24 = .ok (.aload_n 0, 1) := by decide +kernel
theorem dS_variable_25 : decode cS_variable 25 = .ok (.getfield 10, 3) := by decide +kernel
theorem dS_variable_28 : decode cS_variable 28 = .ok (.iload_n 1, 1) := by decide +kernel
theorem dS_variable_29 : decode cS_variable 29 = .ok (.invokevirtual 40, 3) := by decide +kernel
theorem dS_variable_32 : decode cS_variable 32 = .ok (.aload_n 0, 1) := by decide +kernel
theorem dS_variable_33 : decode cS_variable 33 = .ok (.dup, 1) := by decide +kernel
theorem dS_variable_34 : decode cS_variable 34 = .ok (.getfield 29, 3) := by decide +kernel
theorem dS_variable_37 : decode cS_variable 37 = .ok (.iconst 1, 1) := by decide +kernel
theorem dS_variable_38 : decode cS_variable 38 = .ok (.iadd, 1) := by decide +kernel
theorem dS_variable_39 : decode cS_variable 39 = .ok (.putfield 29, 3) := by decide +kernel
theorem dS_variable_42 : decode cS_variable 42 = .ok (.iload_n 1, 1) := by decide +kernel
theorem dS_variable_43 : decode cS_variable 43 = .ok (.ireturn, 1) := by decide +kernel
theorem dS_ways_0 : decode cS_ways 0 = .ok (.iload_n 2, 1) := by decide +kernel
theorem dS_ways_1 : decode cS_ways 1 = .ok (.ifCond .lt 9, 3) := by decide +kernel
