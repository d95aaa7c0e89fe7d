theorem dS_ways_4 : decode cS_ways 4 = .ok (.iload_n 2, 1) := by decide +kernel
theorem dS_ways_5 : decode cS_ways 5 = .ok (.bipush 8, 2) := by decide +kernel
theorem dS_ways_7 : decode cS_ways 7 = .ok (.if_icmp .le 13, 3) := by decide +kernel
theorem dS_ways_10 : decode cS_ways 10 = .ok (.new 104, 3) := by decide +kernel
theorem dS_ways_13 : decode cS_ways 13 = .ok (.dup, 1) := by decide +kernel
theorem dS_ways_14 : decode cS_ways 14 = .ok (.ldc 106, 2) := by decide +kernel
theorem dS_ways_16 : decode cS_ways 16 = .ok (.invokespecial 108, 3) := by decide +kernel
theorem dS_ways_19 : decode cS_ways 19 = .ok (.athrow, 1) := by decide +kernel
theorem dS_ways_20 : decode cS_ways 20 = .ok (.iload_n 1, 1) := by decide +kernel
theorem dS_ways_21 : decode cS_ways 21 = .ok (.ifCond .lt 13, 3) := by decide +kernel
theorem dS_ways_24 : decode cS_ways 24 = .ok (.iload_n 1, 1) := by decide +kernel
theorem dS_ways_25 : decode cS_ways 25 = .ok (.aload_n 0, 1) := by decide +kernel
theorem dS_ways_26 : decode cS_ways 26 = .ok (.getfield 29, 3) := by decide +kernel
theorem dS_ways_29 : decode cS_ways 29 = .ok (.iload_n 2, 1) := by decide +kernel
theorem dS_ways_30 : decode cS_ways 30 = .ok (.isub, 1) := by decide +kernel
theorem dS_ways_31 : decode cS_ways 31 = .ok (.if_icmp .le 13, 3) := by decide +kernel
theorem dS_ways_34 : decode cS_ways 34 = .ok (.new 95, 3) := by decide +kernel
theorem dS_ways_37 : decode cS_ways 37 = .ok (.dup, 1) := by decide +kernel
theorem dS_ways_38 : decode cS_ways 38 = .ok (.ldc 109, 2) := by decide +kernel
theorem dS_ways_40 : decode cS_ways 40 = .ok (.invokespecial 99, 3) := by decide +kernel
theorem dS_ways_43 : decode cS_ways 43 = .ok (.athrow, 1) := by decide +kernel
theorem dS_ways_44 : decode cS_ways 44 = .ok (.aload_n 0, 1) := by decide +kernel
theorem dS_ways_45 : decode cS_ways 45 = .ok (.getfield 16, 3) := by decide +kernel
theorem dS_ways_48 : decode cS_ways 48 = .ok (.aload_n 0, 1) := by decide +kernel
theorem dS_ways_49 : decode cS_ways 49 = .ok (.getfield 10, 3) := by decide +kernel
theorem dS_ways_52 : decode cS_ways 52 = .ok (.invokevirtual 71, 3) := by decide +kernel
theorem dS_ways_55 : decode cS_ways 55 = .ok (.bipush 15, 2) := by decide +kernel
theorem dS_ways_57 : decode cS_ways 57 = .ok (.istore_n 3, 1) := by decide +kernel
theorem dS_ways_58 : decode cS_ways 58 = .ok (.iload_n 3, 1) := by decide +kernel
theorem dS_ways_59 : decode cS_ways 59 = .ok (.ifCond .lt 29, 3) := by decide +kernel
theorem dS_ways_62 : decode cS_ways 62 = .ok (.iload_n 3, 1) := by decide +kernel
theorem dS_ways_63 : decode cS_ways 63 = .ok (.iload_n 1, 1) := by decide +kernel
theorem dS_ways_64 : decode cS_ways 64 = .ok (.if_icmp .lt 10, 3) := by decide +kernel
theorem dS_ways_67 : decode cS_ways 67 = .ok (.iload_n 3, 1) := by decide +kernel
theorem dS_ways_68 : decode cS_ways 68 = .ok (.iload_n 1, 1) := by decide +kernel
theorem dS_ways_69 : decode cS_ways 69 = .ok (.iload_n 2, 1) := by decide +kernel
theorem dS_ways_70 : decode cS_ways 70 = .ok (.iadd, 1) := by decide +kernel
theorem dS_ways_71 : decode cS_ways 71 = .ok (.if_icmp .lt 11, 3) := by decide +kernel
theorem dS_ways_74 : decode cS_ways 74 = .ok (.aload_n 0, 1) := by decide +kernel
theorem dS_ways_75 : decode cS_ways 75 = .ok (.getfield 16, 3) := by decide +kernel
theorem dS_ways_78 : decode cS_ways 78 = .ok (.iload_n 3, 1) := by decide +kernel
theorem dS_ways_79 : decode cS_ways 79 = .ok (.invokevirtual 111, 3) := by decide +kernel
theorem dS_ways_82 : decode cS_ways 82 = .ok (.iinc 3 (-1), 3) := by decide +kernel
theorem dS_ways_85 : decode cS_ways 85 = .ok (.goto (-27), 3) := by decide +kernel
theorem dS_ways_88 : decode cS_ways 88 = .ok (.aload_n 0, 1) := by decide +kernel
theorem dS_ways_89 : decode cS_ways 89 = .ok (.getfield 16, 3) := by decide +kernel
theorem dS_ways_92 : decode cS_ways 92 = .ok (.invokevirtual 114, 3) := by decide +kernel
theorem dS_ways_95 : decode cS_ways 95 = .ok (.ireturn, 1) := by decide +kernel
