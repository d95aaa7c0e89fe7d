theorem dM_search_57 : decode cM_search 57 = .ok (.aload_n 0, 1) := by decide +kernel
theorem dM_search_58 : decode cM_search 58 = .ok (.getfield 28, 3) := by decide +kernel
theorem dM_search_61 : decode cM_search 61 = .ok (.iload_n 1, 1) := by decide +kernel
theorem dM_search_62 : decode cM_search 62 = .ok (.iaload, 1) := by decide +kernel
theorem dM_search_63 : decode cM_search 63 = .ok (.iconst 1, 1) := by decide +kernel
theorem dM_search_64 : decode cM_search 64 = .ok (.if_icmp .eq 13, 3) := by decide +kernel
theorem dM_search_67 : decode cM_search 67 = .ok (.aload_n 0, 1) := by decide +kernel
theorem dM_search_68 : decode cM_search 68 = .ok (.getfield 25, 3) := by decide +kernel
theorem dM_search_71 : decode cM_search 71 = .ok (.iload_n 1, 1) := by decide +kernel
theorem dM_search_72 : decode cM_search 72 = .ok (.iaload, 1) := by decide +kernel
theorem dM_search_73 : decode cM_search 73 = .ok (.iconst (-1), 1) := by decide +kernel
theorem dM_search_74 : decode cM_search 74 = .ok (.if_icmp .eq 9, 3) := by decide +kernel
theorem dM_search_77 : decode cM_search 77 = .ok (.iinc 1 (-1), 3) := by decide +kernel
theorem dM_search_80 : decode cM_search 80 = .ok (.goto (-63), 3) := by decide +kernel
theorem dM_search_83 : decode cM_search 83 = .ok (.aload_n 0, 1) := by decide +kernel
theorem dM_search_84 : decode cM_search 84 = .ok (.getfield 28, 3) := by decide +kernel
theorem dM_search_87 : decode cM_search 87 = .ok (.iload_n 1, 1) := by decide +kernel
theorem dM_search_88 : decode cM_search 88 = .ok (.iconst 1, 1) := by decide +kernel
theorem dM_search_89 : decode cM_search 89 = .ok (.iastore, 1) := by decide +kernel
theorem dM_search_90 : decode cM_search 90 = .ok (.aload_n 0, 1) := by decide +kernel
theorem dM_search_91 : decode cM_search 91 = .ok (.iload_n 1, 1) := by decide +kernel
theorem dM_search_92 : decode cM_search 92 = .ok (.invokevirtual 66, 3) := by decide +kernel
theorem dM_search_95 : decode cM_search 95 = .ok (.ifCond .ne 7, 3) := by decide +kernel
theorem dM_search_98 : decode cM_search 98 = .ok (.iconst 1, 1) := by decide +kernel
theorem dM_search_99 : decode cM_search 99 = .ok (.goto 4, 3) := by decide +kernel
theorem dM_search_102 : decode cM_search 102 = .ok (.iconst 0, 1) := by decide +kernel
theorem dM_search_103 : decode cM_search 103 = .ok (.istore_n 2, 1) := by decide +kernel
theorem dM_search_104 : decode cM_search 104 = .ok (.iload_n 2, 1) := by decide +kernel
theorem dM_search_105 : decode cM_search 105 = .ok (.ifCond .eq 7, 3) := by decide +kernel
theorem dM_search_108 : decode cM_search 108 = .ok (.iload_n 1, 1) := by decide +kernel
theorem dM_search_109 : decode cM_search 109 = .ok (.goto 6, 3) := by decide +kernel
theorem dM_search_112 : decode cM_search 112 = .ok (.iload_n 1, 1) := by decide +kernel
theorem dM_search_113 : decode cM_search 113 = .ok (.iconst 1, 1) := by decide +kernel
theorem dM_search_114 : decode cM_search 114 = .ok (.iadd, 1) := by decide +kernel
theorem dM_search_115 : decode cM_search 115 = .ok (.istore_n 1, 1) := by decide +kernel
theorem dM_search_116 : decode cM_search 116 = .ok (.goto (-99), 3) := by decide +kernel
theorem dM_search_119 : decode cM_search 119 = .ok (.iload_n 1, 1) := by decide +kernel
theorem dM_search_120 : decode cM_search 120 = .ok (.aload_n 0, 1) := by decide +kernel
theorem dM_search_121 : decode cM_search 121 = .ok (.getfield 41, 3) := by decide +kernel
theorem dM_search_124 : decode cM_search 124 = .ok (.if_icmp .ne 7, 3) := by decide +kernel
theorem dM_search_127 : decode cM_search 127 = .ok (.iconst 1, 1) := by decide +kernel
theorem dM_search_128 : decode cM_search 128 = .ok (.goto 4, 3) := by decide +kernel
theorem dM_search_131 : decode cM_search 131 = .ok (.iconst 0, 1) := by decide +kernel
theorem dM_search_132 : decode cM_search 132 = .ok (.ireturn, 1) := by decide +kernel
theorem dM_shown_0 : decode cM_shown 0 = .ok (.aload_n 0, 1) := by decide +kernel
theorem dM_shown_1 : decode cM_shown 1 = .ok (.iconst 0, 1) := by decide +kernel
theorem dM_shown_2 : decode cM_shown 2 = .ok (.putfield 37, 3) := by decide +kernel
theorem dM_shown_5 : decode cM_shown 5 = .ok (.aload_n 0, 1) := by decide +kernel
theorem dM_shown_6 : decode cM_shown 6 = .ok (.getfield 56, 3) := by decide +kernel
theorem dM_shown_9 : decode cM_shown 9 = .ok (.iconst 1, 1) := by decide +kernel
theorem dM_shown_10 : decode cM_shown 10 = .ok (.if_icmp .ne 7, 3) := by decide +kernel
theorem dM_shown_13 : decode cM_shown 13 = .ok (.iconst 1, 1) := by decide +kernel
theorem dM_shown_14 : decode cM_shown 14 = .ok (.goto 4, 3) := by decide +kernel
theorem dM_shown_17 : decode cM_shown 17 = .ok (.iconst 0, 1) := by decide +kernel
theorem dM_shown_18 : decode cM_shown 18 = .ok (.ireturn, 1) := by decide +kernel
theorem dM_solve_0 : decode cM_solve 0 = .ok (.aload_n 0, 1) := by decide +kernel
theorem dM_solve_1 : decode cM_solve 1 = .ok (.iconst 0, 1) := by decide +kernel
theorem dM_solve_2 : decode cM_solve 2 = .ok (.putfield 37, 3) := by decide +kernel
theorem dM_solve_5 : decode cM_solve 5 = .ok (.aload_n 0, 1) := by decide +kernel
theorem dM_solve_6 : decode cM_solve 6 = .ok (.aload_n 0, 1) := by decide +kernel
theorem dM_solve_7 : decode cM_solve 7 = .ok (.getfield 41, 3) := by decide +kernel
theorem dM_solve_10 : decode cM_solve 10 = .ok (.putfield 59, 3) := by decide +kernel
theorem dM_solve_13 : decode cM_solve 13 = .ok (.aload_n 0, 1) := by decide +kernel
theorem dM_solve_14 : decode cM_solve 14 = .ok (.aload_n 0, 1) := by decide +kernel
theorem dM_solve_15 : decode cM_solve 15 = .ok (.getfield 53, 3) := by decide +kernel
theorem dM_solve_18 : decode cM_solve 18 = .ok (.invokevirtual 79, 3) := by decide +kernel
theorem dM_solve_21 : decode cM_solve 21 = .ok (.istore_n 1, 1) := by decide +kernel
theorem dM_solve_22 : decode cM_solve 22 = .ok (.aload_n 0, 1) := by decide +kernel
theorem dM_solve_23 : decode cM_solve 23 = .ok (.iload_n 1, 1) := by decide +kernel
theorem dM_solve_24 : decode cM_solve 24 = .ok (.ifCond .eq 7, 3) := by decide +kernel
theorem dM_solve_27 : decode cM_solve 27 = .ok (.iconst 1, 1) := by decide +kernel
theorem dM_solve_28 : decode cM_solve 28 = .ok (.goto 4, 3) := by decide +kernel
theorem dM_solve_31 : decode cM_solve 31 = .ok (.iconst 2, 1) := by decide +kernel
theorem dM_solve_32 : decode cM_solve 32 = .ok (.putfield 56, 3) := by decide +kernel
theorem dM_solve_35 : decode cM_solve 35 = .ok (.aload_n 0, 1) := by decide +kernel
theorem dM_solve_36 : decode cM_solve 36 = .ok (.iconst (-1), 1) := by decide +kernel
theorem dM_solve_37 : decode cM_solve 37 = .ok (.putfield 82, 3) := by decide +kernel
theorem dM_solve_40 : decode cM_solve 40 = .ok (.iconst 0, 1) := by decide +kernel
theorem dM_solve_41 : decode cM_solve 41 = .ok (.istore_n 2, 1) := by decide +kernel
theorem dM_solve_42 : decode cM_solve 42 = .ok (.iload_n 2, 1) := by decide +kernel
theorem dM_solve_43 : decode cM_solve 43 = .ok (.aload_n 0, 1) := by decide +kernel
theorem dM_solve_44 : decode cM_solve 44 = .ok (.getfield 41, 3) := by decide +kernel
theorem dM_solve_47 : decode cM_solve 47 = .ok (.if_icmp .ge 25, 3) := by decide +kernel
theorem dM_solve_50 : decode cM_solve 50 = .ok (.iload_n 1, 1) := by decide +kernel
theorem dM_solve_51 : decode cM_solve 51 = .ok (.ifCond .eq 21, 3) := by decide +kernel
theorem dM_solve_54 : decode cM_solve 54 = .ok (.aload_n 0, 1) := by decide +kernel
theorem dM_solve_55 : decode cM_solve 55 = .ok (.getfield 31, 3) := by decide +kernel
theorem dM_solve_58 : decode cM_solve 58 = .ok (.iload_n 2, 1) := by decide +kernel
theorem dM_solve_59 : decode cM_solve 59 = .ok (.aload_n 0, 1) := by decide +kernel
theorem dM_solve_60 : decode cM_solve 60 = .ok (.getfield 28, 3) := by decide +kernel
theorem dM_solve_63 : decode cM_solve 63 = .ok (.iload_n 2, 1) := by decide +kernel
theorem dM_solve_64 : decode cM_solve 64 = .ok (.iaload, 1) := by decide +kernel
theorem dM_solve_65 : decode cM_solve 65 = .ok (.iastore, 1) := by decide +kernel
theorem dM_solve_66 : decode cM_solve 66 = .ok (.iinc 2 1, 3) := by decide +kernel
theorem dM_solve_69 : decode cM_solve 69 = .ok (.goto (-27), 3) := by decide +kernel
theorem dM_solve_72 : decode cM_solve 72 = .ok (.aload_n 0, 1) := by decide +kernel
theorem dM_solve_73 : decode cM_solve 73 = .ok (.getfield 53, 3) := by decide +kernel
theorem dM_solve_76 : decode cM_solve 76 = .ok (.istore_n 2, 1) := by decide +kernel
theorem dM_solve_77 : decode cM_solve 77 = .ok (.iload_n 2, 1) := by decide +kernel
theorem dM_solve_78 : decode cM_solve 78 = .ok (.ifCond .lt 26, 3) := by decide +kernel
theorem dM_solve_81 : decode cM_solve 81 = .ok (.iload_n 1, 1) := by decide +kernel
theorem dM_solve_82 : decode cM_solve 82 = .ok (.ifCond .ne 22, 3) := by decide +kernel
theorem dM_solve_85 : decode cM_solve 85 = .ok (.aload_n 0, 1) := by decide +kernel
theorem dM_solve_86 : decode cM_solve 86 = .ok (.iload_n 2, 1) := by decide +kernel
theorem dM_solve_87 : decode cM_solve 87 = .ok (.invokevirtual 79, 3) := by decide +kernel
theorem dM_solve_90 : decode cM_solve 90 = .ok (.ifCond .ne 14, 3) := by decide +kernel
theorem dM_solve_93 : decode cM_solve 93 = .ok (.aload_n 0, 1) := by decide +kernel
theorem dM_solve_94 : decode cM_solve 94 = .ok (.iload_n 2, 1) := by decide +kernel
theorem dM_solve_95 : decode cM_solve 95 = .ok (.putfield 82, 3) := by decide +kernel
theorem dM_solve_98 : decode cM_solve 98 = .ok (.iinc 2 (-1), 3) := by decide +kernel
theorem dM_solve_101 : decode cM_solve 101 = .ok (.goto (-24), 3) := by decide +kernel
theorem dM_solve_104 : decode cM_solve 104 = .ok (.aload_n 0, 1) := by decide +kernel
theorem dM_solve_105 : decode cM_solve 105 = .ok (.iconst 0, 1) := by decide +kernel
theorem dM_solve_106 : decode cM_solve 106 = .ok (.putfield 53, 3) := by decide +kernel
theorem dM_solve_109 : decode cM_solve 109 = .ok (.iload_n 1, 1) := by decide +kernel
theorem dM_solve_110 : decode cM_solve 110 = .ok (.ireturn, 1) := by decide +kernel
theorem dM_thrown_0 : decode cM_thrown 0 = .ok (.aload_n 0, 1) := by decide +kernel
theorem dM_thrown_1 : decode cM_thrown 1 = .ok (.getfield 37, 3) := by decide +kernel
theorem dM_thrown_4 : decode cM_thrown 4 = .ok (.ireturn, 1) := by decide +kernel
theorem dM_variable_0 : decode cM_variable 0 = .ok (.aload_n 0, 1) := by decide +kernel
theorem dM_variable_1 : decode cM_variable 1 = .ok (.aload_n 0, 1) := by decide +kernel
theorem dM_variable_2 : decode cM_variable 2 = .ok (.getfield 41, 3) := by decide +kernel
theorem dM_variable_5 : decode cM_variable 5 = .ok (.bipush 16, 2) := by decide +kernel
theorem dM_variable_7 : decode cM_variable 7 = .ok (.if_icmp .ne 7, 3) := by decide +kernel
theorem dM_variable_10 : decode cM_variable 10 = .ok (.iconst 1, 1) := by decide +kernel
theorem dM_variable_11 : decode cM_variable 11 = .ok (.goto 4, 3) := by decide +kernel
theorem dM_variable_14 : decode cM_variable 14 = .ok (.iconst 0, 1) := by decide +kernel
theorem dM_variable_15 : decode cM_variable 15 = .ok (.putfield 37, 3) := by decide +kernel
theorem dM_variable_18 : decode cM_variable 18 = .ok (.aload_n 0, 1) := by decide +kernel
theorem dM_variable_19 : decode cM_variable 19 = .ok (.getfield 37, 3) := by decide +kernel
theorem dM_variable_22 : decode cM_variable 22 = .ok (.ifCond .le 5, 3) := by decide +kernel
theorem dM_variable_25 : decode cM_variable 25 = .ok (.iconst 0, 1) := by decide +kernel
theorem dM_variable_26 : decode cM_variable 26 = .ok (.ireturn, 1) := by decide +kernel
theorem dM_variable_27 : decode cM_variable 27 = .ok (.aload_n 0, 1) := by decide +kernel
theorem dM_variable_28 : decode cM_variable 28 = .ok (.dup, 1) := by decide +kernel
theorem dM_variable_29 : decode cM_variable 29 = .ok (.getfield 41, 3) := by decide +kernel
theorem dM_variable_32 : decode cM_variable 32 = .ok (.iconst 1, 1) := by decide +kernel
theorem dM_variable_33 : decode cM_variable 33 = .ok (.iadd, 1) := by decide +kernel
theorem dM_variable_34 : decode cM_variable 34 = .ok (.putfield 41, 3) := by decide +kernel
theorem dM_variable_37 : decode cM_variable 37 = .ok (.aload_n 0, 1) := by decide +kernel
theorem dM_variable_38 : decode cM_variable 38 = .ok (.getfield 41, 3) := by decide +kernel
theorem dM_variable_41 : decode cM_variable 41 = .ok (.iconst 1, 1) := by decide +kernel
theorem dM_variable_42 : decode cM_variable 42 = .ok (.isub, 1) := by decide +kernel
theorem dM_variable_43 : decode cM_variable 43 = .ok (.ireturn, 1) := by decide +kernel
theorem dM_ways_0 : decode cM_ways 0 = .ok (.aload_n 0, 1) := by decide +kernel
theorem dM_ways_1 : decode cM_ways 1 = .ok (.iload_n 2, 1) := by decide +kernel
theorem dM_ways_2 : decode cM_ways 2 = .ok (.ifCond .lt 9, 3) := by decide +kernel
theorem dM_ways_5 : decode cM_ways 5 = .ok (.iload_n 2, 1) := by decide +kernel
theorem dM_ways_6 : decode cM_ways 6 = .ok (.bipush 8, 2) := by decide +kernel
theorem dM_ways_8 : decode cM_ways 8 = .ok (.if_icmp .le 7, 3) := by decide +kernel
theorem dM_ways_11 : decode cM_ways 11 = .ok (.iconst 1, 1) := by decide +kernel
theorem dM_ways_12 : decode cM_ways 12 = .ok (.goto 22, 3) := by decide +kernel
theorem dM_ways_15 : decode cM_ways 15 = .ok (.iload_n 1, 1) := by decide +kernel
theorem dM_ways_16 : decode cM_ways 16 = .ok (.ifCond .lt 13, 3) := by decide +kernel
theorem dM_ways_19 : decode cM_ways 19 = .ok (.iload_n 1, 1) := by decide +kernel
theorem dM_ways_20 : decode cM_ways 20 = .ok (.aload_n 0, 1) := by decide +kernel
theorem dM_ways_21 : decode cM_ways 21 = .ok (.getfield 41, 3) := by decide +kernel
theorem dM_ways_24 : decode cM_ways 24 = .ok (.iload_n 2, 1) := by decide +kernel
theorem dM_ways_25 : decode cM_ways 25 = .ok (.isub, 1) := by decide +kernel
theorem dM_ways_26 : decode cM_ways 26 = .ok (.if_icmp .le 7, 3) := by decide +kernel
theorem dM_ways_29 : decode cM_ways 29 = .ok (.iconst 2, 1) := by decide +kernel
theorem dM_ways_30 : decode cM_ways 30 = .ok (.goto 4, 3) := by decide +kernel
theorem dM_ways_33 : decode cM_ways 33 = .ok (.iconst 0, 1) := by decide +kernel
theorem dM_ways_34 : decode cM_ways 34 = .ok (.putfield 37, 3) := by decide +kernel
theorem dM_ways_37 : decode cM_ways 37 = .ok (.aload_n 0, 1) := by decide +kernel
theorem dM_ways_38 : decode cM_ways 38 = .ok (.getfield 37, 3) := by decide +kernel
theorem dM_ways_41 : decode cM_ways 41 = .ok (.ifCond .le 5, 3) := by decide +kernel
theorem dM_ways_44 : decode cM_ways 44 = .ok (.iconst 0, 1) := by decide +kernel
theorem dM_ways_45 : decode cM_ways 45 = .ok (.ireturn, 1) := by decide +kernel
theorem dM_ways_46 : decode cM_ways 46 = .ok (.iconst 0, 1) := by decide +kernel
theorem dM_ways_47 : decode cM_ways 47 = .ok (.istore_n 3, 1) := by decide +kernel
theorem dM_ways_48 : decode cM_ways 48 = .ok (.iconst 0, 1) := by decide +kernel
theorem dM_ways_49 : decode cM_ways 49 = .ok (.istore 4, 2) := by decide +kernel
theorem dM_ways_51 : decode cM_ways 51 = .ok (.iload 4, 2) := by decide +kernel
theorem dM_ways_53 : decode cM_ways 53 = .ok (.iconst 1, 1) := by decide +kernel
theorem dM_ways_54 : decode cM_ways 54 = .ok (.iload_n 2, 1) := by decide +kernel
theorem dM_ways_55 : decode cM_ways 55 = .ok (.ishl, 1) := by decide +kernel
theorem dM_ways_56 : decode cM_ways 56 = .ok (.if_icmp .ge 59, 3) := by decide +kernel
theorem dM_ways_59 : decode cM_ways 59 = .ok (.aload_n 0, 1) := by decide +kernel
theorem dM_ways_60 : decode cM_ways 60 = .ok (.invokevirtual 69, 3) := by decide +kernel
theorem dM_ways_63 : decode cM_ways 63 = .ok (.iconst 0, 1) := by decide +kernel
theorem dM_ways_64 : decode cM_ways 64 = .ok (.istore 5, 2) := by decide +kernel
theorem dM_ways_66 : decode cM_ways 66 = .ok (.iload 5, 2) := by decide +kernel
theorem dM_ways_68 : decode cM_ways 68 = .ok (.iload_n 2, 1) := by decide +kernel
theorem dM_ways_69 : decode cM_ways 69 = .ok (.if_icmp .ge 25, 3) := by decide +kernel
theorem dM_ways_72 : decode cM_ways 72 = .ok (.aload_n 0, 1) := by decide +kernel
theorem dM_ways_73 : decode cM_ways 73 = .ok (.getfield 25, 3) := by decide +kernel
theorem dM_ways_76 : decode cM_ways 76 = .ok (.iload_n 1, 1) := by decide +kernel
theorem dM_ways_77 : decode cM_ways 77 = .ok (.iload 5, 2) := by decide +kernel
theorem dM_ways_79 : decode cM_ways 79 = .ok (.iadd, 1) := by decide +kernel
theorem dM_ways_80 : decode cM_ways 80 = .ok (.iload 4, 2) := by decide +kernel
theorem dM_ways_82 : decode cM_ways 82 = .ok (.iload 5, 2) := by decide +kernel
theorem dM_ways_84 : decode cM_ways 84 = .ok (.ishr, 1) := by decide +kernel
theorem dM_ways_85 : decode cM_ways 85 = .ok (.iconst 1, 1) := by decide +kernel
theorem dM_ways_86 : decode cM_ways 86 = .ok (.iand, 1) := by decide +kernel
theorem dM_ways_87 : decode cM_ways 87 = .ok (.iastore, 1) := by decide +kernel
theorem dM_ways_88 : decode cM_ways 88 = .ok (.iinc 5 1, 3) := by decide +kernel
theorem dM_ways_91 : decode cM_ways 91 = .ok (.goto (-25), 3) := by decide +kernel
theorem dM_ways_94 : decode cM_ways 94 = .ok (.aload_n 0, 1) := by decide +kernel
theorem dM_ways_95 : decode cM_ways 95 = .ok (.invokevirtual 75, 3) := by decide +kernel
theorem dM_ways_98 : decode cM_ways 98 = .ok (.ifCond .eq 9, 3) := by decide +kernel
theorem dM_ways_101 : decode cM_ways 101 = .ok (.iload_n 3, 1) := by decide +kernel
theorem dM_ways_102 : decode cM_ways 102 = .ok (.iconst 1, 1) := by decide +kernel
theorem dM_ways_103 : decode cM_ways 103 = .ok (.iadd, 1) := by decide +kernel
theorem dM_ways_104 : decode cM_ways 104 = .ok (.goto 4, 3) := by decide +kernel
theorem dM_ways_107 : decode cM_ways 107 = .ok (.iload_n 3, 1) := by decide +kernel
theorem dM_ways_108 : decode cM_ways 108 = .ok (.istore_n 3, 1) := by decide +kernel
theorem dM_ways_109 : decode cM_ways 109 = .ok (.iinc 4 1, 3) := by decide +kernel
theorem dM_ways_112 : decode cM_ways 112 = .ok (.goto (-61), 3) := by decide +kernel
theorem dM_ways_115 : decode cM_ways 115 = .ok (.iload_n 3, 1) := by decide +kernel
theorem dM_ways_116 : decode cM_ways 116 = .ok (.ireturn, 1) := by decide +kernel
theorem dR_addVariable_0 : decode cR_addVariable 0 = .ok (.iload_n 1, 1) := by decide +kernel
theorem dR_addVariable_1 : decode cR_addVariable 1 = .ok (.bipush 6, 2) := by decide +kernel
theorem dR_addVariable_3 : decode cR_addVariable 3 = .ok (.if_icmp .lt 17, 3) := by decide +kernel
theorem dR_addVariable_6 : decode cR_addVariable 6 = .ok (.aload_n 0, 1) := by decide +kernel
theorem dR_addVariable_7 : decode cR_addVariable 7 = .ok (.getfield 15, 3) := by decide +kernel
theorem dR_addVariable_10 : decode cR_addVariable 10 = .ok (.aload_n 0, 1) := by decide +kernel
theorem dR_addVariable_11 : decode cR_addVariable 11 = .ok (.getfield 11, 3) := by decide +kernel
theorem dR_addVariable_14 : decode cR_addVariable 14 = .ok (.arraylength, 1) := by decide +kernel
theorem dR_addVariable_15 : decode cR_addVariable 15 = .ok (.iconst 2, 1) := by decide +kernel
theorem dR_addVariable_16 : decode cR_addVariable 16 = .ok (.idiv, 1) := by decide +kernel
theorem dR_addVariable_17 : decode cR_addVariable 17 = .ok (.if_icmp .le 4, 3) := by decide +kernel
theorem dR_addVariable_20 : decode cR_addVariable 20 = .ok (.return_, 1) := by decide +kernel
theorem dR_addVariable_21 : decode cR_addVariable 21 = .ok (.iconst 0, 1) := by decide +kernel
theorem dR_addVariable_22 : decode cR_addVariable 22 = .ok (.istore_n 2, 1) := by decide +kernel
theorem dR_addVariable_23 : decode cR_addVariable 23 = .ok (.iload_n 2, 1) := by decide +kernel
theorem dR_addVariable_24 : decode cR_addVariable 24 = .ok (.aload_n 0, 1) := by decide +kernel
theorem dR_addVariable_25 : decode cR_addVariable 25 = .ok (.getfield 15, 3) := by decide +kernel
theorem dR_addVariable_28 : decode cR_addVariable 28 = .ok (.if_icmp .ge 26, 3) := by decide +kernel
theorem dR_addVariable_31 : decode cR_addVariable 31 = .ok (.aload_n 0, 1) := by decide +kernel
theorem dR_addVariable_32 : decode cR_addVariable 32 = .ok (.getfield 11, 3) := by decide +kernel
theorem dR_addVariable_35 : decode cR_addVariable 35 = .ok (.aload_n 0, 1) := by decide +kernel
theorem dR_addVariable_36 : decode cR_addVariable 36 = .ok (.getfield 15, 3) := by decide +kernel
theorem dR_addVariable_39 : decode cR_addVariable 39 = .ok (.iload_n 2, 1) := by decide +kernel
theorem dR_addVariable_40 : decode cR_addVariable 40 = .ok (.iadd, 1) := by decide +kernel
theorem dR_addVariable_41 : decode cR_addVariable 41 = .ok (.aload_n 0, 1) := by decide +kernel
theorem dR_addVariable_42 : decode cR_addVariable 42 = .ok (.getfield 11, 3) := by decide +kernel
theorem dR_addVariable_45 : decode cR_addVariable 45 = .ok (.iload_n 2, 1) := by decide +kernel
theorem dR_addVariable_46 : decode cR_addVariable 46 = .ok (.laload, 1) := by decide +kernel
theorem dR_addVariable_47 : decode cR_addVariable 47 = .ok (.lastore, 1) := by decide +kernel
theorem dR_addVariable_48 : decode cR_addVariable 48 = .ok (.iinc 2 1, 3) := by decide +kernel
theorem dR_addVariable_51 : decode cR_addVariable 51 = .ok (.goto (-28), 3) := by decide +kernel
theorem dR_addVariable_54 : decode cR_addVariable 54 = .ok (.aload_n 0, 1) := by decide +kernel
theorem dR_addVariable_55 : decode cR_addVariable 55 = .ok (.iconst 2, 1) := by decide +kernel
theorem dR_addVariable_56 : decode cR_addVariable 56 = .ok (.aload_n 0, 1) := by decide +kernel
theorem dR_addVariable_57 : decode cR_addVariable 57 = .ok (.getfield 15, 3) := by decide +kernel
theorem dR_addVariable_60 : decode cR_addVariable 60 = .ok (.imul, 1) := by decide +kernel
theorem dR_addVariable_61 : decode cR_addVariable 61 = .ok (.putfield 15, 3) := by decide +kernel
theorem dR_addVariable_64 : decode cR_addVariable 64 = .ok (.return_, 1) := by decide +kernel
theorem dR_anyIn_0 : decode cR_anyIn 0 = .ok (.iload_n 1, 1) := by decide +kernel
theorem dR_anyIn_1 : decode cR_anyIn 1 = .ok (.ifCond .lt 15, 3) := by decide +kernel
theorem dR_anyIn_4 : decode cR_anyIn 4 = .ok (.iload_n 2, 1) := by decide +kernel
theorem dR_anyIn_5 : decode cR_anyIn 5 = .ok (.iconst 1, 1) := by decide +kernel
theorem dR_anyIn_6 : decode cR_anyIn 6 = .ok (.if_icmp .lt 10, 3) := by decide +kernel
theorem dR_anyIn_9 : decode cR_anyIn 9 = .ok (.iload_n 2, 1) := by decide +kernel
theorem dR_anyIn_10 : decode cR_anyIn 10 = .ok (.sipush 1024, 3) := by decide +kernel
theorem dR_anyIn_13 : decode cR_anyIn 13 = .ok (.if_icmp .le 5, 3) := by decide +kernel
theorem dR_anyIn_16 : decode cR_anyIn 16 = .ok (.iconst 0, 1) := by decide +kernel
theorem dR_anyIn_17 : decode cR_anyIn 17 = .ok (.ireturn, 1) := by decide +kernel
theorem dR_anyIn_18 : decode cR_anyIn 18 = .ok (.aload_n 0, 1) := by decide +kernel
theorem dR_anyIn_19 : decode cR_anyIn 19 = .ok (.invokevirtual 21, 3) := by decide +kernel
theorem dR_anyIn_22 : decode cR_anyIn 22 = .ok (.istore 5, 2) := by decide +kernel
theorem dR_anyIn_24 : decode cR_anyIn 24 = .ok (.iload_n 1, 1) := by decide +kernel
theorem dR_anyIn_25 : decode cR_anyIn 25 = .ok (.istore 6, 2) := by decide +kernel
theorem dR_anyIn_27 : decode cR_anyIn 27 = .ok (.iload 6, 2) := by decide +kernel
theorem dR_anyIn_29 : decode cR_anyIn 29 = .ok (.iload 5, 2) := by decide +kernel
theorem dR_anyIn_31 : decode cR_anyIn 31 = .ok (.if_icmp .ge 28, 3) := by decide +kernel
theorem dR_anyIn_34 : decode cR_anyIn 34 = .ok (.aload_n 0, 1) := by decide +kernel
theorem dR_anyIn_35 : decode cR_anyIn 35 = .ok (.getfield 11, 3) := by decide +kernel
theorem dR_anyIn_38 : decode cR_anyIn 38 = .ok (.iload 6, 2) := by decide +kernel
theorem dR_anyIn_40 : decode cR_anyIn 40 = .ok (.laload, 1) := by decide +kernel
theorem dR_anyIn_41 : decode cR_anyIn 41 = .ok (.lload_n 3, 1) := by decide +kernel
theorem dR_anyIn_42 : decode cR_anyIn 42 = .ok (.land, 1) := by decide +kernel
theorem dR_anyIn_43 : decode cR_anyIn 43 = .ok (.lconst 0, 1) := by decide +kernel
theorem dR_anyIn_44 : decode cR_anyIn 44 = .ok (.lcmp, 1) := by decide +kernel
theorem dR_anyIn_45 : decode cR_anyIn 45 = .ok (.ifCond .eq 5, 3) := by decide +kernel
theorem dR_anyIn_48 : decode cR_anyIn 48 = .ok (.iconst 1, 1) := by decide +kernel
theorem dR_anyIn_49 : decode cR_anyIn 49 = .ok (.ireturn, 1) := by decide +kernel
theorem dR_anyIn_50 : decode cR_anyIn 50 = .ok (.iload 6, 2) := by decide +kernel
theorem dR_anyIn_52 : decode cR_anyIn 52 = .ok (.iload_n 2, 1) := by decide +kernel
theorem dR_anyIn_53 : decode cR_anyIn 53 = .ok (.iadd, 1) := by decide +kernel
theorem dR_anyIn_54 : decode cR_anyIn 54 = .ok (.istore 6, 2) := by decide +kernel
theorem dR_anyIn_56 : decode cR_anyIn 56 = .ok (.goto (-29), 3) := by decide +kernel
theorem dR_anyIn_59 : decode cR_anyIn 59 = .ok (.iconst 0, 1) := by decide +kernel
theorem dR_anyIn_60 : decode cR_anyIn 60 = .ok (.ireturn, 1) := by decide +kernel
theorem dR_anyWith_0 : decode cR_anyWith 0 = .ok (.iload_n 1, 1) := by decide +kernel
theorem dR_anyWith_1 : decode cR_anyWith 1 = .ok (.invokestatic 42, 3) := by decide +kernel
theorem dR_anyWith_4 : decode cR_anyWith 4 = .ok (.lstore_n 2, 1) := by decide +kernel
theorem dR_anyWith_5 : decode cR_anyWith 5 = .ok (.iload_n 1, 1) := by decide +kernel
theorem dR_anyWith_6 : decode cR_anyWith 6 = .ok (.invokestatic 46, 3) := by decide +kernel
theorem dR_anyWith_9 : decode cR_anyWith 9 = .ok (.istore 4, 2) := by decide +kernel
theorem dR_anyWith_11 : decode cR_anyWith 11 = .ok (.iload_n 1, 1) := by decide +kernel
theorem dR_anyWith_12 : decode cR_anyWith 12 = .ok (.invokestatic 50, 3) := by decide +kernel
theorem dR_anyWith_15 : decode cR_anyWith 15 = .ok (.istore 5, 2) := by decide +kernel
theorem dR_anyWith_17 : decode cR_anyWith 17 = .ok (.aload_n 0, 1) := by decide +kernel
theorem dR_anyWith_18 : decode cR_anyWith 18 = .ok (.invokevirtual 21, 3) := by decide +kernel
theorem dR_anyWith_21 : decode cR_anyWith 21 = .ok (.istore 6, 2) := by decide +kernel
theorem dR_anyWith_23 : decode cR_anyWith 23 = .ok (.iconst 0, 1) := by decide +kernel
theorem dR_anyWith_24 : decode cR_anyWith 24 = .ok (.istore 7, 2) := by decide +kernel
theorem dR_anyWith_26 : decode cR_anyWith 26 = .ok (.iload 7, 2) := by decide +kernel
theorem dR_anyWith_28 : decode cR_anyWith 28 = .ok (.iload 6, 2) := by decide +kernel
theorem dR_anyWith_30 : decode cR_anyWith 30 = .ok (.if_icmp .ge 65, 3) := by decide +kernel
theorem dR_anyWith_33 : decode cR_anyWith 33 = .ok (.iload 7, 2) := by decide +kernel
theorem dR_anyWith_35 : decode cR_anyWith 35 = .ok (.iload 4, 2) := by decide +kernel
theorem dR_anyWith_37 : decode cR_anyWith 37 = .ok (.iand, 1) := by decide +kernel
theorem dR_anyWith_38 : decode cR_anyWith 38 = .ok (.ifCond .ne 13, 3) := by decide +kernel
theorem dR_anyWith_41 : decode cR_anyWith 41 = .ok (.iload 7, 2) := by decide +kernel
theorem dR_anyWith_43 : decode cR_anyWith 43 = .ok (.iconst (-1), 1) := by decide +kernel
theorem dR_anyWith_44 : decode cR_anyWith 44 = .ok (.ixor, 1) := by decide +kernel
theorem dR_anyWith_45 : decode cR_anyWith 45 = .ok (.iload 5, 2) := by decide +kernel
theorem dR_anyWith_47 : decode cR_anyWith 47 = .ok (.iand, 1) := by decide +kernel
theorem dR_anyWith_48 : decode cR_anyWith 48 = .ok (.ifCond .eq 7, 3) := by decide +kernel
theorem dR_anyWith_51 : decode cR_anyWith 51 = .ok (.iconst 1, 1) := by decide +kernel
theorem dR_anyWith_52 : decode cR_anyWith 52 = .ok (.goto 4, 3) := by decide +kernel
theorem dR_anyWith_55 : decode cR_anyWith 55 = .ok (.iconst 0, 1) := by decide +kernel
theorem dR_anyWith_56 : decode cR_anyWith 56 = .ok (.istore 8, 2) := by decide +kernel
theorem dR_anyWith_58 : decode cR_anyWith 58 = .ok (.iload 8, 2) := by decide +kernel
theorem dR_anyWith_60 : decode cR_anyWith 60 = .ok (.ifCond .eq 13, 3) := by decide +kernel
theorem dR_anyWith_63 : decode cR_anyWith 63 = .ok (.aload_n 0, 1) := by decide +kernel
theorem dR_anyWith_64 : decode cR_anyWith 64 = .ok (.getfield 11, 3) := by decide +kernel
theorem dR_anyWith_67 : decode cR_anyWith 67 = .ok (.iload 7, 2) := by decide +kernel
theorem dR_anyWith_69 : decode cR_anyWith 69 = .ok (.laload, 1) := by decide +kernel
theorem dR_anyWith_70 : decode cR_anyWith 70 = .ok (.goto 12, 3) := by decide +kernel
theorem dR_anyWith_73 : decode cR_anyWith 73 = .ok (.aload_n 0, 1) := by decide +kernel
theorem dR_anyWith_74 : decode cR_anyWith 74 = .ok (.getfield 11, 3) := by decide +kernel
theorem dR_anyWith_77 : decode cR_anyWith 77 = .ok (.iload 7, 2) := by decide +kernel
theorem dR_anyWith_79 : decode cR_anyWith 79 = .ok (.laload, 1) := by decide +kernel
theorem dR_anyWith_80 : decode cR_anyWith 80 = .ok (.lload_n 2, 1) := by decide +kernel
theorem dR_anyWith_81 : decode cR_anyWith 81 = .ok (.land, 1) := by decide +kernel
theorem dR_anyWith_82 : decode cR_anyWith 82 = .ok (.lconst 0, 1) := by decide +kernel
theorem dR_anyWith_83 : decode cR_anyWith 83 = .ok (.lcmp, 1) := by decide +kernel
theorem dR_anyWith_84 : decode cR_anyWith 84 = .ok (.ifCond .eq 5, 3) := by decide +kernel
theorem dR_anyWith_87 : decode cR_anyWith 87 = .ok (.iconst 1, 1) := by decide +kernel
theorem dR_anyWith_88 : decode cR_anyWith 88 = .ok (.ireturn, 1) := by decide +kernel
theorem dR_anyWith_89 : decode cR_anyWith 89 = .ok (.iinc 7 1, 3) := by decide +kernel
theorem dR_anyWith_92 : decode cR_anyWith 92 = .ok (.goto (-66), 3) := by decide +kernel
theorem dR_anyWith_95 : decode cR_anyWith 95 = .ok (.iconst 0, 1) := by decide +kernel
theorem dR_anyWith_96 : decode cR_anyWith 96 = .ok (.ireturn, 1) := by decide +kernel
theorem dR_copyFrom_0 : decode cR_copyFrom 0 = .ok (.aload_n 1, 1) := by decide +kernel
theorem dR_copyFrom_1 : decode cR_copyFrom 1 = .ok (.ifnonnull 4, 3) := by decide +kernel
theorem dR_copyFrom_4 : decode cR_copyFrom 4 = .ok (.return_, 1) := by decide +kernel
theorem dR_copyFrom_5 : decode cR_copyFrom 5 = .ok (.aload_n 1, 1) := by decide +kernel
theorem dR_copyFrom_6 : decode cR_copyFrom 6 = .ok (.invokevirtual 21, 3) := by decide +kernel
theorem dR_copyFrom_9 : decode cR_copyFrom 9 = .ok (.aload_n 0, 1) := by decide +kernel
theorem dR_copyFrom_10 : decode cR_copyFrom 10 = .ok (.getfield 11, 3) := by decide +kernel
theorem dR_copyFrom_13 : decode cR_copyFrom 13 = .ok (.arraylength, 1) := by decide +kernel
theorem dR_copyFrom_14 : decode cR_copyFrom 14 = .ok (.invokestatic 25, 3) := by decide +kernel
theorem dR_copyFrom_17 : decode cR_copyFrom 17 = .ok (.istore_n 2, 1) := by decide +kernel
theorem dR_copyFrom_18 : decode cR_copyFrom 18 = .ok (.iconst 0, 1) := by decide +kernel
theorem dR_copyFrom_19 : decode cR_copyFrom 19 = .ok (.istore_n 3, 1) := by decide +kernel
theorem dR_copyFrom_20 : decode cR_copyFrom 20 = .ok (.iload_n 3, 1) := by decide +kernel
theorem dR_copyFrom_21 : decode cR_copyFrom 21 = .ok (.iload_n 2, 1) := by decide +kernel
theorem dR_copyFrom_22 : decode cR_copyFrom 22 = .ok (.if_icmp .ge 21, 3) := by decide +kernel
theorem dR_copyFrom_25 : decode cR_copyFrom 25 = .ok (.aload_n 0, 1) := by decide +kernel
theorem dR_copyFrom_26 : decode cR_copyFrom 26 = .ok (.getfield 11, 3) := by decide +kernel
theorem dR_copyFrom_29 : decode cR_copyFrom 29 = .ok (.iload_n 3, 1) := by decide +kernel
theorem dR_copyFrom_30 : decode cR_copyFrom 30 = .ok (.aload_n 1, 1) := by decide +kernel
theorem dR_copyFrom_31 : decode cR_copyFrom 31 = .ok (.getfield 11, 3) := by decide +kernel
theorem dR_copyFrom_34 : decode cR_copyFrom 34 = .ok (.iload_n 3, 1) := by decide +kernel
theorem dR_copyFrom_35 : decode cR_copyFrom 35 = .ok (.laload, 1) := by decide +kernel
theorem dR_copyFrom_36 : decode cR_copyFrom 36 = .ok (.lastore, 1) := by decide +kernel
theorem dR_copyFrom_37 : decode cR_copyFrom 37 = .ok (.iinc 3 1, 3) := by decide +kernel
theorem dR_copyFrom_40 : decode cR_copyFrom 40 = .ok (.goto (-20), 3) := by decide +kernel
theorem dR_copyFrom_43 : decode cR_copyFrom 43 = .ok (.aload_n 0, 1) := by decide +kernel
theorem dR_copyFrom_44 : decode cR_copyFrom 44 = .ok (.iload_n 2, 1) := by decide +kernel
theorem dR_copyFrom_45 : decode cR_copyFrom 45 = .ok (.putfield 15, 3) := by decide +kernel
theorem dR_copyFrom_48 : decode cR_copyFrom 48 = .ok (.return_, 1) := by decide +kernel
theorem dR_count_0 : decode cR_count 0 = .ok (.iconst 0, 1) := by decide +kernel
theorem dR_count_1 : decode cR_count 1 = .ok (.istore_n 1, 1) := by decide +kernel
theorem dR_count_2 : decode cR_count 2 = .ok (.aload_n 0, 1) := by decide +kernel
theorem dR_count_3 : decode cR_count 3 = .ok (.invokevirtual 21, 3) := by decide +kernel
theorem dR_count_6 : decode cR_count 6 = .ok (.istore_n 2, 1) := by decide +kernel
theorem dR_count_7 : decode cR_count 7 = .ok (.iconst 0, 1) := by decide +kernel
theorem dR_count_8 : decode cR_count 8 = .ok (.istore_n 3, 1) := by decide +kernel
theorem dR_count_9 : decode cR_count 9 = .ok (.iload_n 3, 1) := by decide +kernel
theorem dR_count_10 : decode cR_count 10 = .ok (.iload_n 2, 1) := by decide +kernel
theorem dR_count_11 : decode cR_count 11 = .ok (.if_icmp .ge 21, 3) := by decide +kernel
theorem dR_count_14 : decode cR_count 14 = .ok (.iload_n 1, 1) := by decide +kernel
theorem dR_count_15 : decode cR_count 15 = .ok (.aload_n 0, 1) := by decide +kernel
theorem dR_count_16 : decode cR_count 16 = .ok (.getfield 11, 3) := by decide +kernel
theorem dR_count_19 : decode cR_count 19 = .ok (.iload_n 3, 1) := by decide +kernel
theorem dR_count_20 : decode cR_count 20 = .ok (.laload, 1) := by decide +kernel
theorem dR_count_21 : decode cR_count 21 = .ok (.invokestatic 61, 3) := by decide +kernel
theorem dR_count_24 : decode cR_count 24 = .ok (.iadd, 1) := by decide +kernel
theorem dR_count_25 : decode cR_count 25 = .ok (.istore_n 1, 1) := by decide +kernel
theorem dR_count_26 : decode cR_count 26 = .ok (.iinc 3 1, 3) := by decide +kernel
theorem dR_count_29 : decode cR_count 29 = .ok (.goto (-20), 3) := by decide +kernel
theorem dR_count_32 : decode cR_count 32 = .ok (.iload_n 1, 1) := by decide +kernel
theorem dR_count_33 : decode cR_count 33 = .ok (.ireturn, 1) := by decide +kernel
theorem dR_dropInner_0 : decode cR_dropInner 0 = .ok (.aload_n 0, 1) := by decide +kernel
theorem dR_dropInner_1 : decode cR_dropInner 1 = .ok (.invokevirtual 21, 3) := by decide +kernel
theorem dR_dropInner_4 : decode cR_dropInner 4 = .ok (.istore 4, 2) := by decide +kernel
theorem dR_dropInner_6 : decode cR_dropInner 6 = .ok (.iconst 0, 1) := by decide +kernel
theorem dR_dropInner_7 : decode cR_dropInner 7 = .ok (.istore 5, 2) := by decide +kernel
theorem dR_dropInner_9 : decode cR_dropInner 9 = .ok (.iload 5, 2) := by decide +kernel
theorem dR_dropInner_11 : decode cR_dropInner 11 = .ok (.iload 4, 2) := by decide +kernel
theorem dR_dropInner_13 : decode cR_dropInner 13 = .ok (.if_icmp .ge 35, 3) := by decide +kernel
theorem dR_dropInner_16 : decode cR_dropInner 16 = .ok (.aload_n 0, 1) := by decide +kernel
theorem dR_dropInner_17 : decode cR_dropInner 17 = .ok (.getfield 11, 3) := by decide +kernel
theorem dR_dropInner_20 : decode cR_dropInner 20 = .ok (.iload 5, 2) := by decide +kernel
theorem dR_dropInner_22 : decode cR_dropInner 22 = .ok (.aload_n 0, 1) := by decide +kernel
theorem dR_dropInner_23 : decode cR_dropInner 23 = .ok (.getfield 11, 3) := by decide +kernel
theorem dR_dropInner_26 : decode cR_dropInner 26 = .ok (.iload 5, 2) := by decide +kernel
theorem dR_dropInner_28 : decode cR_dropInner 28 = .ok (.laload, 1) := by decide +kernel
theorem dR_dropInner_29 : decode cR_dropInner 29 = .ok (.aload_n 0, 1) := by decide +kernel
theorem dR_dropInner_30 : decode cR_dropInner 30 = .ok (.getfield 11, 3) := by decide +kernel
theorem dR_dropInner_33 : decode cR_dropInner 33 = .ok (.iload 5, 2) := by decide +kernel
theorem dR_dropInner_35 : decode cR_dropInner 35 = .ok (.laload, 1) := by decide +kernel
theorem dR_dropInner_36 : decode cR_dropInner 36 = .ok (.iload_n 1, 1) := by decide +kernel
theorem dR_dropInner_37 : decode cR_dropInner 37 = .ok (.lushr, 1) := by decide +kernel
theorem dR_dropInner_38 : decode cR_dropInner 38 = .ok (.lor, 1) := by decide +kernel
theorem dR_dropInner_39 : decode cR_dropInner 39 = .ok (.lload_n 2, 1) := by decide +kernel
theorem dR_dropInner_40 : decode cR_dropInner 40 = .ok (.land, 1) := by decide +kernel
theorem dR_dropInner_41 : decode cR_dropInner 41 = .ok (.lastore, 1) := by decide +kernel
theorem dR_dropInner_42 : decode cR_dropInner 42 = .ok (.iinc 5 1, 3) := by decide +kernel
theorem dR_dropInner_45 : decode cR_dropInner 45 = .ok (.goto (-36), 3) := by decide +kernel
theorem dR_dropInner_48 : decode cR_dropInner 48 = .ok (.return_, 1) := by decide +kernel
theorem dR_dropOuter_0 : decode cR_dropOuter 0 = .ok (.aload_n 0, 1) := by decide +kernel
theorem dR_dropOuter_1 : decode cR_dropOuter 1 = .ok (.invokevirtual 21, 3) := by decide +kernel
theorem dR_dropOuter_4 : decode cR_dropOuter 4 = .ok (.istore_n 2, 1) := by decide +kernel
theorem dR_dropOuter_5 : decode cR_dropOuter 5 = .ok (.iload_n 1, 1) := by decide +kernel
theorem dR_dropOuter_6 : decode cR_dropOuter 6 = .ok (.iload_n 2, 1) := by decide +kernel
theorem dR_dropOuter_7 : decode cR_dropOuter 7 = .ok (.if_icmp .lt 4, 3) := by decide +kernel
theorem dR_dropOuter_10 : decode cR_dropOuter 10 = .ok (.return_, 1) := by decide +kernel
theorem dR_dropOuter_11 : decode cR_dropOuter 11 = .ok (.iconst 0, 1) := by decide +kernel
theorem dR_dropOuter_12 : decode cR_dropOuter 12 = .ok (.istore_n 3, 1) := by decide +kernel
theorem dR_dropOuter_13 : decode cR_dropOuter 13 = .ok (.iconst 0, 1) := by decide +kernel
theorem dR_dropOuter_14 : decode cR_dropOuter 14 = .ok (.istore 4, 2) := by decide +kernel
theorem dR_dropOuter_16 : decode cR_dropOuter 16 = .ok (.iload 4, 2) := by decide +kernel
theorem dR_dropOuter_18 : decode cR_dropOuter 18 = .ok (.iload_n 2, 1) := by decide +kernel
theorem dR_dropOuter_19 : decode cR_dropOuter 19 = .ok (.iload_n 1, 1) := by decide +kernel
theorem dR_dropOuter_20 : decode cR_dropOuter 20 = .ok (.isub, 1) := by decide +kernel
theorem dR_dropOuter_21 : decode cR_dropOuter 21 = .ok (.if_icmp .ge 42, 3) := by decide +kernel
theorem dR_dropOuter_24 : decode cR_dropOuter 24 = .ok (.iload 4, 2) := by decide +kernel
theorem dR_dropOuter_26 : decode cR_dropOuter 26 = .ok (.iload_n 1, 1) := by decide +kernel
theorem dR_dropOuter_27 : decode cR_dropOuter 27 = .ok (.iand, 1) := by decide +kernel
theorem dR_dropOuter_28 : decode cR_dropOuter 28 = .ok (.ifCond .ne 29, 3) := by decide +kernel
theorem dR_dropOuter_31 : decode cR_dropOuter 31 = .ok (.aload_n 0, 1) := by decide +kernel
theorem dR_dropOuter_32 : decode cR_dropOuter 32 = .ok (.getfield 11, 3) := by decide +kernel
theorem dR_dropOuter_35 : decode cR_dropOuter 35 = .ok (.iload_n 3, 1) := by decide +kernel
theorem dR_dropOuter_36 : decode cR_dropOuter 36 = .ok (.aload_n 0, 1) := by decide +kernel
theorem dR_dropOuter_37 : decode cR_dropOuter 37 = .ok (.getfield 11, 3) := by decide +kernel
theorem dR_dropOuter_40 : decode cR_dropOuter 40 = .ok (.iload 4, 2) := by decide +kernel
theorem dR_dropOuter_42 : decode cR_dropOuter 42 = .ok (.laload, 1) := by decide +kernel
theorem dR_dropOuter_43 : decode cR_dropOuter 43 = .ok (.aload_n 0, 1) := by decide +kernel
theorem dR_dropOuter_44 : decode cR_dropOuter 44 = .ok (.getfield 11, 3) := by decide +kernel
theorem dR_dropOuter_47 : decode cR_dropOuter 47 = .ok (.iload 4, 2) := by decide +kernel
theorem dR_dropOuter_49 : decode cR_dropOuter 49 = .ok (.iload_n 1, 1) := by decide +kernel
theorem dR_dropOuter_50 : decode cR_dropOuter 50 = .ok (.iadd, 1) := by decide +kernel
theorem dR_dropOuter_51 : decode cR_dropOuter 51 = .ok (.laload, 1) := by decide +kernel
theorem dR_dropOuter_52 : decode cR_dropOuter 52 = .ok (.lor, 1) := by decide +kernel
theorem dR_dropOuter_53 : decode cR_dropOuter 53 = .ok (.lastore, 1) := by decide +kernel
theorem dR_dropOuter_54 : decode cR_dropOuter 54 = .ok (.iinc 3 1, 3) := by decide +kernel
theorem dR_dropOuter_57 : decode cR_dropOuter 57 = .ok (.iinc 4 1, 3) := by decide +kernel
theorem dR_dropOuter_60 : decode cR_dropOuter 60 = .ok (.goto (-44), 3) := by decide +kernel
theorem dR_dropOuter_63 : decode cR_dropOuter 63 = .ok (.aload_n 0, 1) := by decide +kernel
theorem dR_dropOuter_64 : decode cR_dropOuter 64 = .ok (.iload_n 3, 1) := by decide +kernel
theorem dR_dropOuter_65 : decode cR_dropOuter 65 = .ok (.putfield 15, 3) := by decide +kernel
theorem dR_dropOuter_68 : decode cR_dropOuter 68 = .ok (.return_, 1) := by decide +kernel
theorem dR_dropVariable_0 : decode cR_dropVariable 0 = .ok (.iload_n 1, 1) := by decide +kernel
theorem dR_dropVariable_1 : decode cR_dropVariable 1 = .ok (.ifCond .lt 9, 3) := by decide +kernel
theorem dR_dropVariable_4 : decode cR_dropVariable 4 = .ok (.iload_n 1, 1) := by decide +kernel
theorem dR_dropVariable_5 : decode cR_dropVariable 5 = .ok (.bipush 16, 2) := by decide +kernel
theorem dR_dropVariable_7 : decode cR_dropVariable 7 = .ok (.if_icmp .lt 4, 3) := by decide +kernel
theorem dR_dropVariable_10 : decode cR_dropVariable 10 = .ok (.return_, 1) := by decide +kernel
theorem dR_dropVariable_11 : decode cR_dropVariable 11 = .ok (.iload_n 1, 1) := by decide +kernel
theorem dR_dropVariable_12 : decode cR_dropVariable 12 = .ok (.getstatic 31, 3) := by decide +kernel
theorem dR_dropVariable_15 : decode cR_dropVariable 15 = .ok (.arraylength, 1) := by decide +kernel
theorem dR_dropVariable_16 : decode cR_dropVariable 16 = .ok (.if_icmp .ge 22, 3) := by decide +kernel
theorem dR_dropVariable_19 : decode cR_dropVariable 19 = .ok (.aload_n 0, 1) := by decide +kernel
theorem dR_dropVariable_20 : decode cR_dropVariable 20 = .ok (.iconst 1, 1) := by decide +kernel
theorem dR_dropVariable_21 : decode cR_dropVariable 21 = .ok (.iload_n 1, 1) := by decide +kernel
theorem dR_dropVariable_22 : decode cR_dropVariable 22 = .ok (.ishl, 1) := by decide +kernel
theorem dR_dropVariable_23 : decode cR_dropVariable 23 = .ok (.getstatic 31, 3) := by decide +kernel
theorem dR_dropVariable_26 : decode cR_dropVariable 26 = .ok (.iload_n 1, 1) := by decide +kernel
theorem dR_dropVariable_27 : decode cR_dropVariable 27 = .ok (.laload, 1) := by decide +kernel
theorem dR_dropVariable_28 : decode cR_dropVariable 28 = .ok (.ldc2_w 19, 3) := by decide +kernel
theorem dR_dropVariable_31 : decode cR_dropVariable 31 = .ok (.lxor, 1) := by decide +kernel
theorem dR_dropVariable_32 : decode cR_dropVariable 32 = .ok (.invokevirtual 34, 3) := by decide +kernel
theorem dR_dropVariable_35 : decode cR_dropVariable 35 = .ok (.goto 13, 3) := by decide +kernel
theorem dR_dropVariable_38 : decode cR_dropVariable 38 = .ok (.aload_n 0, 1) := by decide +kernel
theorem dR_dropVariable_39 : decode cR_dropVariable 39 = .ok (.iconst 1, 1) := by decide +kernel
theorem dR_dropVariable_40 : decode cR_dropVariable 40 = .ok (.iload_n 1, 1) := by decide +kernel
theorem dR_dropVariable_41 : decode cR_dropVariable 41 = .ok (.bipush 6, 2) := by decide +kernel
theorem dR_dropVariable_43 : decode cR_dropVariable 43 = .ok (.isub, 1) := by decide +kernel
theorem dR_dropVariable_44 : decode cR_dropVariable 44 = .ok (.ishl, 1) := by decide +kernel
theorem dR_dropVariable_45 : decode cR_dropVariable 45 = .ok (.invokevirtual 38, 3) := by decide +kernel
theorem dR_dropVariable_48 : decode cR_dropVariable 48 = .ok (.return_, 1) := by decide +kernel
theorem dR_end_0 : decode cR_end 0 = .ok (.aload_n 0, 1) := by decide +kernel
theorem dR_end_1 : decode cR_end 1 = .ok (.getfield 15, 3) := by decide +kernel
theorem dR_end_4 : decode cR_end 4 = .ok (.aload_n 0, 1) := by decide +kernel
theorem dR_end_5 : decode cR_end 5 = .ok (.getfield 11, 3) := by decide +kernel
theorem dR_end_8 : decode cR_end 8 = .ok (.arraylength, 1) := by decide +kernel
theorem dR_end_9 : decode cR_end 9 = .ok (.invokestatic 25, 3) := by decide +kernel
theorem dR_end_12 : decode cR_end 12 = .ok (.ireturn, 1) := by decide +kernel
theorem dR_holdAll_0 : decode cR_holdAll 0 = .ok (.aload_n 0, 1) := by decide +kernel
theorem dR_holdAll_1 : decode cR_holdAll 1 = .ok (.getfield 11, 3) := by decide +kernel
theorem dR_holdAll_4 : decode cR_holdAll 4 = .ok (.iconst 0, 1) := by decide +kernel
theorem dR_holdAll_5 : decode cR_holdAll 5 = .ok (.ldc2_w 19, 3) := by decide +kernel
theorem dR_holdAll_8 : decode cR_holdAll 8 = .ok (.lastore, 1) := by decide +kernel
