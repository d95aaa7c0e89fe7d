theorem dS_refuseUnknownLiteral_17 : decode cS_refuseUnknownLiteral 17 = .ok (.dup, 1) := by decide +kernel
theorem dS_refuseUnknownLiteral_18 : decode cS_refuseUnknownLiteral 18 = .ok (.ldc 120, 2) := by decide +kernel
theorem dS_refuseUnknownLiteral_20 : decode cS_refuseUnknownLiteral 20 = .ok (.invokespecial 108, 3) := by decide +kernel
theorem dS_refuseUnknownLiteral_23 : decode cS_refuseUnknownLiteral 23 = .ok (.athrow, 1) := by decide +kernel
theorem dS_refuseUnknownLiteral_24 : decode cS_refuseUnknownLiteral 24 = .ok (.return_, 1) := by decide +kernel
theorem dS_shown_0 : decode cS_shown 0 = .ok (.aload_n 0, 1) := by decide +kernel
theorem dS_shown_1 : decode cS_shown 1 = .ok (.getfield 82, 3) := by decide +kernel
theorem dS_shown_4 : decode cS_shown 4 = .ok (.ireturn, 1) := by decide +kernel
theorem dS_solve_0 : decode cS_solve 0 = .ok (.aload_n 0, 1) := by decide +kernel
theorem dS_solve_1 : decode cS_solve 1 = .ok (.getfield 16, 3) := by decide +kernel
theorem dS_solve_4 : decode cS_solve 4 = .ok (.aload_n 0, 1) := by decide +kernel
theorem dS_solve_5 : decode cS_solve 5 = .ok (.getfield 10, 3) := by decide +kernel
theorem dS_solve_8 : decode cS_solve 8 = .ok (.invokevirtual 71, 3) := by decide +kernel
theorem dS_solve_11 : decode cS_solve 11 = .ok (.aload_n 0, 1) := by decide +kernel
theorem dS_solve_12 : decode cS_solve 12 = .ok (.aload_n 0, 1) := by decide +kernel
theorem dS_solve_13 : decode cS_solve 13 = .ok (.invokevirtual 75, 3) := by decide +kernel
theorem dS_solve_16 : decode cS_solve 16 = .ok (.putfield 79, 3) := by decide +kernel
theorem dS_solve_19 : decode cS_solve 19 = .ok (.aload_n 0, 1) := by decide +kernel
theorem dS_solve_20 : decode cS_solve 20 = .ok (.aload_n 0, 1) := by decide +kernel
theorem dS_solve_21 : decode cS_solve 21 = .ok (.getfield 79, 3) := by decide +kernel
theorem dS_solve_24 : decode cS_solve 24 = .ok (.iconst (-1), 1) := by decide +kernel
theorem dS_solve_25 : decode cS_solve 25 = .ok (.if_icmp .ne 7, 3) := by decide +kernel
theorem dS_solve_28 : decode cS_solve 28 = .ok (.iconst 1, 1) := by decide +kernel
theorem dS_solve_29 : decode cS_solve 29 = .ok (.goto 4, 3) := by decide +kernel
theorem dS_solve_32 : decode cS_solve 32 = .ok (.iconst 0, 1) := by decide +kernel
theorem dS_solve_33 : decode cS_solve 33 = .ok (.putfield 82, 3) := by decide +kernel
theorem dS_solve_36 : decode cS_solve 36 = .ok (.aload_n 0, 1) := by decide +kernel
theorem dS_solve_37 : decode cS_solve 37 = .ok (.aload_n 0, 1) := by decide +kernel
theorem dS_solve_38 : decode cS_solve 38 = .ok (.getfield 82, 3) := by decide +kernel
theorem dS_solve_41 : decode cS_solve 41 = .ok (.ifCond .eq 13, 3) := by decide +kernel
theorem dS_solve_44 : decode cS_solve 44 = .ok (.aload_n 0, 1) := by decide +kernel
theorem dS_solve_45 : decode cS_solve 45 = .ok (.getfield 16, 3) := by decide +kernel
theorem dS_solve_48 : decode cS_solve 48 = .ok (.invokevirtual 86, 3) := by decide +kernel
theorem dS_solve_51 : decode cS_solve 51 = .ok (.goto 4, 3) := by decide +kernel
theorem dS_solve_54 : decode cS_solve 54 = .ok (.iconst 0, 1) := by decide +kernel
theorem dS_solve_55 : decode cS_solve 55 = .ok (.putfield 89, 3) := by decide +kernel
theorem dS_solve_58 : decode cS_solve 58 = .ok (.aload_n 0, 1) := by decide +kernel
theorem dS_solve_59 : decode cS_solve 59 = .ok (.aload_n 0, 1) := by decide +kernel
theorem dS_solve_60 : decode cS_solve 60 = .ok (.getfield 29, 3) := by decide +kernel
theorem dS_solve_63 : decode cS_solve 63 = .ok (.putfield 92, 3) := by decide +kernel
theorem dS_solve_66 : decode cS_solve 66 = .ok (.aload_n 0, 1) := by decide +kernel
theorem dS_solve_67 : decode cS_solve 67 = .ok (.iconst 0, 1) := by decide +kernel
theorem dS_solve_68 : decode cS_solve 68 = .ok (.putfield 66, 3) := by decide +kernel
theorem dS_solve_71 : decode cS_solve 71 = .ok (.aload_n 0, 1) := by decide +kernel
theorem dS_solve_72 : decode cS_solve 72 = .ok (.getfield 82, 3) := by decide +kernel
theorem dS_solve_75 : decode cS_solve 75 = .ok (.ireturn, 1) := by decide +kernel
theorem dS_startAnew_0 : decode cS_startAnew 0 = .ok (.aload_n 0, 1) := by decide +kernel
theorem dS_startAnew_1 : decode cS_startAnew 1 = .ok (.getfield 10, 3) := by decide +kernel
theorem dS_startAnew_4 : decode cS_startAnew 4 = .ok (.invokevirtual 117, 3) := by decide +kernel
theorem dS_startAnew_7 : decode cS_startAnew 7 = .ok (.aload_n 0, 1) := by decide +kernel
theorem dS_startAnew_8 : decode cS_startAnew 8 = .ok (.iconst 0, 1) := by decide +kernel
theorem dS_startAnew_9 : decode cS_startAnew 9 = .ok (.putfield 29, 3) := by decide +kernel
theorem dS_startAnew_12 : decode cS_startAnew 12 = .ok (.aload_n 0, 1) := by decide +kernel
theorem dS_startAnew_13 : decode cS_startAnew 13 = .ok (.iconst 0, 1) := by decide +kernel
theorem dS_startAnew_14 : decode cS_startAnew 14 = .ok (.putfield 52, 3) := by decide +kernel
theorem dS_startAnew_17 : decode cS_startAnew 17 = .ok (.aload_n 0, 1) := by decide +kernel
theorem dS_startAnew_18 : decode cS_startAnew 18 = .ok (.iconst 0, 1) := by decide +kernel
theorem dS_startAnew_19 : decode cS_startAnew 19 = .ok (.putfield 57, 3) := by decide +kernel
theorem dS_startAnew_22 : decode cS_startAnew 22 = .ok (.aload_n 0, 1) := by decide +kernel
theorem dS_startAnew_23 : decode cS_startAnew 23 = .ok (.iconst 0, 1) := by decide +kernel
theorem dS_startAnew_24 : decode cS_startAnew 24 = .ok (.putfield 47, 3) := by decide +kernel
theorem dS_startAnew_27 : decode cS_startAnew 27 = .ok (.aload_n 0, 1) := by decide +kernel
theorem dS_startAnew_28 : decode cS_startAnew 28 = .ok (.iconst 0, 1) := by decide +kernel
theorem dS_startAnew_29 : decode cS_startAnew 29 = .ok (.putfield 66, 3) := by decide +kernel
theorem dS_startAnew_32 : decode cS_startAnew 32 = .ok (.aload_n 0, 1) := by decide +kernel
theorem dS_startAnew_33 : decode cS_startAnew 33 = .ok (.iconst 0, 1) := by decide +kernel
theorem dS_startAnew_34 : decode cS_startAnew 34 = .ok (.putfield 82, 3) := by decide +kernel
theorem dS_startAnew_37 : decode cS_startAnew 37 = .ok (.aload_n 0, 1) := by decide +kernel
theorem dS_startAnew_38 : decode cS_startAnew 38 = .ok (.iconst (-1), 1) := by decide +kernel
theorem dS_startAnew_39 : decode cS_startAnew 39 = .ok (.putfield 79, 3) := by decide +kernel
theorem dS_startAnew_42 : decode cS_startAnew 42 = .ok (.aload_n 0, 1) := by decide +kernel
theorem dS_startAnew_43 : decode cS_startAnew 43 = .ok (.iconst 0, 1) := by decide +kernel
theorem dS_startAnew_44 : decode cS_startAnew 44 = .ok (.putfield 89, 3) := by decide +kernel
theorem dS_startAnew_47 : decode cS_startAnew 47 = .ok (.aload_n 0, 1) := by decide +kernel
theorem dS_startAnew_48 : decode cS_startAnew 48 = .ok (.iconst 0, 1) := by decide +kernel
theorem dS_startAnew_49 : decode cS_startAnew 49 = .ok (.putfield 92, 3) := by decide +kernel
theorem dS_startAnew_52 : decode cS_startAnew 52 = .ok (.return_, 1) := by decide +kernel
theorem dS_variable_0 : decode cS_variable 0 = .ok (.aload_n 0, 1) := by decide +kernel
theorem dS_variable_1 : decode cS_variable 1 = .ok (.getfield 29, 3) := by decide +kernel
theorem dS_variable_4 : decode cS_variable 4 = .ok (.bipush 16, 2) := by decide +kernel
theorem dS_variable_6 : decode cS_variable 6 = .ok (.if_icmp .lt 13, 3) := by decide +kernel
theorem dS_variable_9 : decode cS_variable 9 = .ok (.new 33, 3) := by decide +kernel
theorem dS_variable_12 : decode cS_variable 12 = .ok (.dup, 1) := by decide +kernel
theorem dS_variable_13 : decode cS_variable 13 = .ok (.ldc 35, 2) := by decide +kernel
theorem dS_variable_15 : decode cS_variable 15 = .ok (.invokespecial 37, 3) := by decide +kernel
theorem dS_variable_18 : decode cS_variable 18 = .ok (.athrow, 1) := by decide +kernel
theorem dS_variable_19 : decode cS_variable 19 = .ok (.aload_n 0, 1) := by decide +kernel
theorem dS_variable_20 : decode cS_variable 20 = .ok (.getfield 29, 3) := by decide +kernel
theorem dS_variable_23 : decode cS_variable 23 = .ok (.istore_n 1, 1) := by decide +kernel
theorem dS_variable_24 : decode cS_variable 24 = .ok (.aload_n 0, 1) := by decide +kernel
theorem dS_variable_25 : decode cS_variable 25 = .ok (.getfield 10, 3) := by decide +kernel
theorem dS_variable_28 : decode cS_variable 28 = .ok (.iload_n 1, 1) := by decide +kernel
theorem dS_variable_29 : decode cS_variable 29 = .ok (.invokevirtual 40, 3) := by decide +kernel
theorem dS_variable_32 : decode cS_variable 32 = .ok (.aload_n 0, 1) := by decide +kernel
theorem dS_variable_33 : decode cS_variable 33 = .ok (.dup, 1) := by decide +kernel
theorem dS_variable_34 : decode cS_variable 34 = .ok (.getfield 29, 3) := by decide +kernel
theorem dS_variable_37 : decode cS_variable 37 = .ok (.iconst 1, 1) := by decide +kernel
theorem dS_variable_38 : decode cS_variable 38 = .ok (.iadd, 1) := by decide +kernel
theorem dS_variable_39 : decode cS_variable 39 = .ok (.putfield 29, 3) := by decide +kernel
theorem dS_variable_42 : decode cS_variable 42 = .ok (.iload_n 1, 1) := by decide +kernel
theorem dS_variable_43 : decode cS_variable 43 = .ok (.ireturn, 1) := by decide +kernel
theorem dS_ways_0 : decode cS_ways 0 = .ok (.iload_n 2, 1) := by decide +kernel
theorem dS_ways_1 : decode cS_ways 1 = .ok (.ifCond .lt 9, 3) := by decide +kernel
theorem dS_ways_4 : decode cS_ways 4 = .ok (.iload_n 2, 1) := by decide +kernel
theorem dS_ways_5 : decode cS_ways 5 = .ok (.bipush 8, 2) := by decide +kernel
theorem dS_ways_7 : decode cS_ways 7 = .ok (.if_icmp .le 13, 3) := by decide +kernel
theorem dS_ways_10 : decode cS_ways 10 = .ok (.new 104, 3) := by decide +kernel
theorem dS_ways_13 : decode cS_ways 13 = .ok (.dup, 1) := by decide +kernel
theorem dS_ways_14 : decode cS_ways 14 = .ok (.ldc 106, 2) := by decide +kernel
theorem dS_ways_16 : decode cS_ways 16 = .ok (.invokespecial 108, 3) := by decide +kernel
theorem dS_ways_19 : decode cS_ways 19 = .ok (.athrow, 1) := by decide +kernel
theorem dS_ways_20 : decode cS_ways 20 = .ok (.iload_n 1, 1) := by decide +kernel
theorem dS_ways_21 : decode cS_ways 21 = .ok (.ifCond .lt 13, 3) := by decide +kernel
theorem dS_ways_24 : decode cS_ways 24 = .ok (.iload_n 1, 1) := by decide +kernel
theorem dS_ways_25 : decode cS_ways 25 = .ok (.aload_n 0, 1) := by decide +kernel
theorem dS_ways_26 : decode cS_ways 26 = .ok (.getfield 29, 3) := by decide +kernel
theorem dS_ways_29 : decode cS_ways 29 = .ok (.iload_n 2, 1) := by decide +kernel
theorem dS_ways_30 : decode cS_ways 30 = .ok (.isub, 1) := by decide +kernel
theorem dS_ways_31 : decode cS_ways 31 = .ok (.if_icmp .le 13, 3) := by decide +kernel
theorem dS_ways_34 : decode cS_ways 34 = .ok (.new 95, 3) := by decide +kernel
theorem dS_ways_37 : decode cS_ways 37 = .ok (.dup, 1) := by decide +kernel
theorem dS_ways_38 : decode cS_ways 38 = .ok (.ldc 109, 2) := by decide +kernel
theorem dS_ways_40 : decode cS_ways 40 = .ok (.invokespecial 99, 3) := by decide +kernel
theorem dS_ways_43 : decode cS_ways 43 = .ok (.athrow, 1) := by decide +kernel
theorem dS_ways_44 : decode cS_ways 44 = .ok (.aload_n 0, 1) := by decide +kernel
theorem dS_ways_45 : decode cS_ways 45 = .ok (.getfield 16, 3) := by decide +kernel
theorem dS_ways_48 : decode cS_ways 48 = .ok (.aload_n 0, 1) := by decide +kernel
theorem dS_ways_49 : decode cS_ways 49 = .ok (.getfield 10, 3) := by decide +kernel
theorem dS_ways_52 : decode cS_ways 52 = .ok (.invokevirtual 71, 3) := by decide +kernel
theorem dS_ways_55 : decode cS_ways 55 = .ok (.bipush 15, 2) := by decide +kernel
theorem dS_ways_57 : decode cS_ways 57 = .ok (.istore_n 3, 1) := by decide +kernel
theorem dS_ways_58 : decode cS_ways 58 = .ok (.iload_n 3, 1) := by decide +kernel
theorem dS_ways_59 : decode cS_ways 59 = .ok (.ifCond .lt 29, 3) := by decide +kernel
theorem dS_ways_62 : decode cS_ways 62 = .ok (.iload_n 3, 1) := by decide +kernel
theorem dS_ways_63 : decode cS_ways 63 = .ok (.iload_n 1, 1) := by decide +kernel
theorem dS_ways_64 : decode cS_ways 64 = .ok (.if_icmp .lt 10, 3) := by decide +kernel
theorem dS_ways_67 : decode cS_ways 67 = .ok (.iload_n 3, 1) := by decide +kernel
theorem dS_ways_68 : decode cS_ways 68 = .ok (.iload_n 1, 1) := by decide +kernel
theorem dS_ways_69 : decode cS_ways 69 = .ok (.iload_n 2, 1) := by decide +kernel
theorem dS_ways_70 : decode cS_ways 70 = .ok (.iadd, 1) := by decide +kernel
theorem dS_ways_71 : decode cS_ways 71 = .ok (.if_icmp .lt 11, 3) := by decide +kernel
theorem dS_ways_74 : decode cS_ways 74 = .ok (.aload_n 0, 1) := by decide +kernel
theorem dS_ways_75 : decode cS_ways 75 = .ok (.getfield 16, 3) := by decide +kernel
theorem dS_ways_78 : decode cS_ways 78 = .ok (.iload_n 3, 1) := by decide +kernel
theorem dS_ways_79 : decode cS_ways 79 = .ok (.invokevirtual 111, 3) := by decide +kernel
theorem dS_ways_82 : decode cS_ways 82 = .ok (.iinc 3 (-1), 3) := by decide +kernel
theorem dS_ways_85 : decode cS_ways 85 = .ok (.goto (-27), 3) := by decide +kernel
theorem dS_ways_88 : decode cS_ways 88 = .ok (.aload_n 0, 1) := by decide +kernel
theorem dS_ways_89 : decode cS_ways 89 = .ok (.getfield 16, 3) := by decide +kernel
theorem dS_ways_92 : decode cS_ways 92 = .ok (.invokevirtual 114, 3) := by decide +kernel
theorem dS_ways_95 : decode cS_ways 95 = .ok (.ireturn, 1) := by decide +kernel
