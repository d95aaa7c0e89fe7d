theorem dM_clear_1 : decode cM_clear 1 = .ok (.iconst 0, 1) := by decide +kernel
theorem dM_clear_2 : decode cM_clear 2 = .ok (.putfield 37, 3) := by decide +kernel
theorem dM_clear_5 : decode cM_clear 5 = .ok (.aload_n 0, 1) := by decide +kernel
theorem dM_clear_6 : decode cM_clear 6 = .ok (.invokevirtual 34, 3) := by decide +kernel
theorem dM_clear_9 : decode cM_clear 9 = .ok (.return_, 1) := by decide +kernel
theorem dM_clearAll_0 : decode cM_clearAll 0 = .ok (.aload_n 0, 1) := by decide +kernel
theorem dM_clearAll_1 : decode cM_clearAll 1 = .ok (.iconst 0, 1) := by decide +kernel
theorem dM_clearAll_2 : decode cM_clearAll 2 = .ok (.putfield 41, 3) := by decide +kernel
theorem dM_clearAll_5 : decode cM_clearAll 5 = .ok (.aload_n 0, 1) := by decide +kernel
theorem dM_clearAll_6 : decode cM_clearAll 6 = .ok (.iconst 0, 1) := by decide +kernel
theorem dM_clearAll_7 : decode cM_clearAll 7 = .ok (.putfield 44, 3) := by decide +kernel
theorem dM_clearAll_10 : decode cM_clearAll 10 = .ok (.aload_n 0, 1) := by decide +kernel
theorem dM_clearAll_11 : decode cM_clearAll 11 = .ok (.iconst 0, 1) := by decide +kernel
theorem dM_clearAll_12 : decode cM_clearAll 12 = .ok (.putfield 47, 3) := by decide +kernel
theorem dM_clearAll_15 : decode cM_clearAll 15 = .ok (.aload_n 0, 1) := by decide +kernel
theorem dM_clearAll_16 : decode cM_clearAll 16 = .ok (.iconst 0, 1) := by decide +kernel
theorem dM_clearAll_17 : decode cM_clearAll 17 = .ok (.putfield 50, 3) := by decide +kernel
theorem dM_clearAll_20 : decode cM_clearAll 20 = .ok (.aload_n 0, 1) := by decide +kernel
theorem dM_clearAll_21 : decode cM_clearAll 21 = .ok (.iconst 0, 1) := by decide +kernel
theorem dM_clearAll_22 : decode cM_clearAll 22 = .ok (.putfield 53, 3) := by decide +kernel
theorem dM_clearAll_25 : decode cM_clearAll 25 = .ok (.aload_n 0, 1) := by decide +kernel
theorem dM_clearAll_26 : decode cM_clearAll 26 = .ok (.iconst 0, 1) := by decide +kernel
theorem dM_clearAll_27 : decode cM_clearAll 27 = .ok (.putfield 56, 3) := by decide +kernel
theorem dM_clearAll_30 : decode cM_clearAll 30 = .ok (.aload_n 0, 1) := by decide +kernel
theorem dM_clearAll_31 : decode cM_clearAll 31 = .ok (.iconst 0, 1) := by decide +kernel
theorem dM_clearAll_32 : decode cM_clearAll 32 = .ok (.putfield 59, 3) := by decide +kernel
theorem dM_clearAll_35 : decode cM_clearAll 35 = .ok (.iconst 0, 1) := by decide +kernel
theorem dM_clearAll_36 : decode cM_clearAll 36 = .ok (.istore_n 1, 1) := by decide +kernel
theorem dM_clearAll_37 : decode cM_clearAll 37 = .ok (.iload_n 1, 1) := by decide +kernel
theorem dM_clearAll_38 : decode cM_clearAll 38 = .ok (.bipush 17, 2) := by decide +kernel
theorem dM_clearAll_40 : decode cM_clearAll 40 = .ok (.if_icmp .ge 16, 3) := by decide +kernel
theorem dM_clearAll_43 : decode cM_clearAll 43 = .ok (.aload_n 0, 1) := by decide +kernel
theorem dM_clearAll_44 : decode cM_clearAll 44 = .ok (.getfield 16, 3) := by decide +kernel
theorem dM_clearAll_47 : decode cM_clearAll 47 = .ok (.iload_n 1, 1) := by decide +kernel
theorem dM_clearAll_48 : decode cM_clearAll 48 = .ok (.iconst (-1), 1) := by decide +kernel
theorem dM_clearAll_49 : decode cM_clearAll 49 = .ok (.iastore, 1) := by decide +kernel
theorem dM_clearAll_50 : decode cM_clearAll 50 = .ok (.iinc 1 1, 3) := by decide +kernel
theorem dM_clearAll_53 : decode cM_clearAll 53 = .ok (.goto (-16), 3) := by decide +kernel
theorem dM_clearAll_56 : decode cM_clearAll 56 = .ok (.return_, 1) := by decide +kernel
theorem dM_close_0 : decode cM_close 0 = .ok (.aload_n 0, 1) := by decide +kernel
theorem dM_close_1 : decode cM_close 1 = .ok (.aload_n 0, 1) := by decide +kernel
theorem dM_close_2 : decode cM_close 2 = .ok (.getfield 44, 3) := by decide +kernel
theorem dM_close_5 : decode cM_close 5 = .ok (.sipush 500, 3) := by decide +kernel
theorem dM_close_8 : decode cM_close 8 = .ok (.if_icmp .ne 7, 3) := by decide +kernel
theorem dM_close_11 : decode cM_close 11 = .ok (.iconst 1, 1) := by decide +kernel
theorem dM_close_12 : decode cM_close 12 = .ok (.goto 4, 3) := by decide +kernel
theorem dM_close_15 : decode cM_close 15 = .ok (.iconst 0, 1) := by decide +kernel
theorem dM_close_16 : decode cM_close 16 = .ok (.putfield 37, 3) := by decide +kernel
theorem dM_close_19 : decode cM_close 19 = .ok (.aload_n 0, 1) := by decide +kernel
theorem dM_close_20 : decode cM_close 20 = .ok (.getfield 37, 3) := by decide +kernel
theorem dM_close_23 : decode cM_close 23 = .ok (.ifCond .le 5, 3) := by decide +kernel
theorem dM_close_26 : decode cM_close 26 = .ok (.iconst 0, 1) := by decide +kernel
theorem dM_close_27 : decode cM_close 27 = .ok (.ireturn, 1) := by decide +kernel
theorem dM_close_28 : decode cM_close 28 = .ok (.iconst (-1), 1) := by decide +kernel
theorem dM_close_29 : decode cM_close 29 = .ok (.istore_n 1, 1) := by decide +kernel
theorem dM_close_30 : decode cM_close 30 = .ok (.aload_n 0, 1) := by decide +kernel
theorem dM_close_31 : decode cM_close 31 = .ok (.getfield 47, 3) := by decide +kernel
theorem dM_close_34 : decode cM_close 34 = .ok (.istore_n 2, 1) := by decide +kernel
theorem dM_close_35 : decode cM_close 35 = .ok (.iload_n 2, 1) := by decide +kernel
theorem dM_close_36 : decode cM_close 36 = .ok (.aload_n 0, 1) := by decide +kernel
theorem dM_close_37 : decode cM_close 37 = .ok (.getfield 47, 3) := by decide +kernel
theorem dM_close_40 : decode cM_close 40 = .ok (.aload_n 0, 1) := by decide +kernel
theorem dM_close_41 : decode cM_close 41 = .ok (.getfield 50, 3) := by decide +kernel
theorem dM_close_44 : decode cM_close 44 = .ok (.iadd, 1) := by decide +kernel
theorem dM_close_45 : decode cM_close 45 = .ok (.if_icmp .ge 34, 3) := by decide +kernel
theorem dM_close_48 : decode cM_close 48 = .ok (.aload_n 0, 1) := by decide +kernel
theorem dM_close_49 : decode cM_close 49 = .ok (.getfield 7, 3) := by decide +kernel
theorem dM_close_52 : decode cM_close 52 = .ok (.iload_n 2, 1) := by decide +kernel
theorem dM_close_53 : decode cM_close 53 = .ok (.iaload, 1) := by decide +kernel
theorem dM_close_54 : decode cM_close 54 = .ok (.iconst 2, 1) := by decide +kernel
theorem dM_close_55 : decode cM_close 55 = .ok (.idiv, 1) := by decide +kernel
theorem dM_close_56 : decode cM_close 56 = .ok (.iload_n 1, 1) := by decide +kernel
theorem dM_close_57 : decode cM_close 57 = .ok (.if_icmp .le 14, 3) := by decide +kernel
theorem dM_close_60 : decode cM_close 60 = .ok (.aload_n 0, 1) := by decide +kernel
theorem dM_close_61 : decode cM_close 61 = .ok (.getfield 7, 3) := by decide +kernel
theorem dM_close_64 : decode cM_close 64 = .ok (.iload_n 2, 1) := by decide +kernel
theorem dM_close_65 : decode cM_close 65 = .ok (.iaload, 1) := by decide +kernel
theorem dM_close_66 : decode cM_close 66 = .ok (.iconst 2, 1) := by decide +kernel
theorem dM_close_67 : decode cM_close 67 = .ok (.idiv, 1) := by decide +kernel
theorem dM_close_68 : decode cM_close 68 = .ok (.goto 4, 3) := by decide +kernel
theorem dM_close_71 : decode cM_close 71 = .ok (.iload_n 1, 1) := by decide +kernel
theorem dM_close_72 : decode cM_close 72 = .ok (.istore_n 1, 1) := by decide +kernel
theorem dM_close_73 : decode cM_close 73 = .ok (.iinc 2 1, 3) := by decide +kernel
theorem dM_close_76 : decode cM_close 76 = .ok (.goto (-41), 3) := by decide +kernel
theorem dM_close_79 : decode cM_close 79 = .ok (.iload_n 1, 1) := by decide +kernel
theorem dM_close_80 : decode cM_close 80 = .ok (.iconst (-1), 1) := by decide +kernel
theorem dM_close_81 : decode cM_close 81 = .ok (.if_icmp .ne 8, 3) := by decide +kernel
theorem dM_close_84 : decode cM_close 84 = .ok (.bipush 16, 2) := by decide +kernel
theorem dM_close_86 : decode cM_close 86 = .ok (.goto 4, 3) := by decide +kernel
theorem dM_close_89 : decode cM_close 89 = .ok (.iload_n 1, 1) := by decide +kernel
theorem dM_close_90 : decode cM_close 90 = .ok (.istore_n 1, 1) := by decide +kernel
theorem dM_close_91 : decode cM_close 91 = .ok (.aload_n 0, 1) := by decide +kernel
theorem dM_close_92 : decode cM_close 92 = .ok (.getfield 13, 3) := by decide +kernel
theorem dM_close_95 : decode cM_close 95 = .ok (.aload_n 0, 1) := by decide +kernel
theorem dM_close_96 : decode cM_close 96 = .ok (.getfield 44, 3) := by decide +kernel
theorem dM_close_99 : decode cM_close 99 = .ok (.aload_n 0, 1) := by decide +kernel
theorem dM_close_100 : decode cM_close 100 = .ok (.getfield 47, 3) := by decide +kernel
theorem dM_close_103 : decode cM_close 103 = .ok (.iastore, 1) := by decide +kernel
theorem dM_close_104 : decode cM_close 104 = .ok (.aload_n 0, 1) := by decide +kernel
theorem dM_close_105 : decode cM_close 105 = .ok (.getfield 19, 3) := by decide +kernel
theorem dM_close_108 : decode cM_close 108 = .ok (.aload_n 0, 1) := by decide +kernel
theorem dM_close_109 : decode cM_close 109 = .ok (.getfield 44, 3) := by decide +kernel
theorem dM_close_112 : decode cM_close 112 = .ok (.aload_n 0, 1) := by decide +kernel
theorem dM_close_113 : decode cM_close 113 = .ok (.getfield 16, 3) := by decide +kernel
theorem dM_close_116 : decode cM_close 116 = .ok (.iload_n 1, 1) := by decide +kernel
theorem dM_close_117 : decode cM_close 117 = .ok (.iaload, 1) := by decide +kernel
theorem dM_close_118 : decode cM_close 118 = .ok (.iastore, 1) := by decide +kernel
theorem dM_close_119 : decode cM_close 119 = .ok (.aload_n 0, 1) := by decide +kernel
theorem dM_close_120 : decode cM_close 120 = .ok (.getfield 16, 3) := by decide +kernel
theorem dM_close_123 : decode cM_close 123 = .ok (.iload_n 1, 1) := by decide +kernel
theorem dM_close_124 : decode cM_close 124 = .ok (.aload_n 0, 1) := by decide +kernel
theorem dM_close_125 : decode cM_close 125 = .ok (.getfield 44, 3) := by decide +kernel
theorem dM_close_128 : decode cM_close 128 = .ok (.iastore, 1) := by decide +kernel
theorem dM_close_129 : decode cM_close 129 = .ok (.aload_n 0, 1) := by decide +kernel
theorem dM_close_130 : decode cM_close 130 = .ok (.dup, 1) := by decide +kernel
theorem dM_close_131 : decode cM_close 131 = .ok (.getfield 47, 3) := by decide +kernel
theorem dM_close_134 : decode cM_close 134 = .ok (.aload_n 0, 1) := by decide +kernel
theorem dM_close_135 : decode cM_close 135 = .ok (.getfield 50, 3) := by decide +kernel
theorem dM_close_138 : decode cM_close 138 = .ok (.iadd, 1) := by decide +kernel
theorem dM_close_139 : decode cM_close 139 = .ok (.putfield 47, 3) := by decide +kernel
theorem dM_close_142 : decode cM_close 142 = .ok (.aload_n 0, 1) := by decide +kernel
theorem dM_close_143 : decode cM_close 143 = .ok (.iconst 0, 1) := by decide +kernel
theorem dM_close_144 : decode cM_close 144 = .ok (.putfield 50, 3) := by decide +kernel
theorem dM_close_147 : decode cM_close 147 = .ok (.aload_n 0, 1) := by decide +kernel
theorem dM_close_148 : decode cM_close 148 = .ok (.dup, 1) := by decide +kernel
theorem dM_close_149 : decode cM_close 149 = .ok (.getfield 44, 3) := by decide +kernel
theorem dM_close_152 : decode cM_close 152 = .ok (.iconst 1, 1) := by decide +kernel
theorem dM_close_153 : decode cM_close 153 = .ok (.iadd, 1) := by decide +kernel
theorem dM_close_154 : decode cM_close 154 = .ok (.putfield 44, 3) := by decide +kernel
theorem dM_close_157 : decode cM_close 157 = .ok (.aload_n 0, 1) := by decide +kernel
theorem dM_close_158 : decode cM_close 158 = .ok (.getfield 13, 3) := by decide +kernel
theorem dM_close_161 : decode cM_close 161 = .ok (.aload_n 0, 1) := by decide +kernel
theorem dM_close_162 : decode cM_close 162 = .ok (.getfield 44, 3) := by decide +kernel
theorem dM_close_165 : decode cM_close 165 = .ok (.aload_n 0, 1) := by decide +kernel
theorem dM_close_166 : decode cM_close 166 = .ok (.getfield 47, 3) := by decide +kernel
theorem dM_close_169 : decode cM_close 169 = .ok (.iastore, 1) := by decide +kernel
theorem dM_close_170 : decode cM_close 170 = .ok (.aload_n 0, 1) := by decide +kernel
theorem dM_close_171 : decode cM_close 171 = .ok (.getfield 44, 3) := by decide +kernel
theorem dM_close_174 : decode cM_close 174 = .ok (.ireturn, 1) := by decide +kernel
theorem dM_force_0 : decode cM_force 0 = .ok (.iconst 1, 1) := by decide +kernel
theorem dM_force_1 : decode cM_force 1 = .ok (.iload_n 1, 1) := by decide +kernel
theorem dM_force_2 : decode cM_force 2 = .ok (.iconst 2, 1) := by decide +kernel
theorem dM_force_3 : decode cM_force 3 = .ok (.irem, 1) := by decide +kernel
theorem dM_force_4 : decode cM_force 4 = .ok (.isub, 1) := by decide +kernel
theorem dM_force_5 : decode cM_force 5 = .ok (.istore_n 2, 1) := by decide +kernel
theorem dM_force_6 : decode cM_force 6 = .ok (.aload_n 0, 1) := by decide +kernel
theorem dM_force_7 : decode cM_force 7 = .ok (.getfield 25, 3) := by decide +kernel
theorem dM_force_10 : decode cM_force 10 = .ok (.iload_n 1, 1) := by decide +kernel
theorem dM_force_11 : decode cM_force 11 = .ok (.iconst 2, 1) := by decide +kernel
theorem dM_force_12 : decode cM_force 12 = .ok (.idiv, 1) := by decide +kernel
theorem dM_force_13 : decode cM_force 13 = .ok (.iaload, 1) := by decide +kernel
theorem dM_force_14 : decode cM_force 14 = .ok (.iconst (-1), 1) := by decide +kernel
theorem dM_force_15 : decode cM_force 15 = .ok (.if_icmp .eq 15, 3) := by decide +kernel
theorem dM_force_18 : decode cM_force 18 = .ok (.aload_n 0, 1) := by decide +kernel
theorem dM_force_19 : decode cM_force 19 = .ok (.getfield 25, 3) := by decide +kernel
theorem dM_force_22 : decode cM_force 22 = .ok (.iload_n 1, 1) := by decide +kernel
theorem dM_force_23 : decode cM_force 23 = .ok (.iconst 2, 1) := by decide +kernel
theorem dM_force_24 : decode cM_force 24 = .ok (.idiv, 1) := by decide +kernel
theorem dM_force_25 : decode cM_force 25 = .ok (.iaload, 1) := by decide +kernel
theorem dM_force_26 : decode cM_force 26 = .ok (.iload_n 2, 1) := by decide +kernel
theorem dM_force_27 : decode cM_force 27 = .ok (.if_icmp .ne 7, 3) := by decide +kernel
theorem dM_force_30 : decode cM_force 30 = .ok (.iconst 1, 1) := by decide +kernel
theorem dM_force_31 : decode cM_force 31 = .ok (.goto 4, 3) := by decide +kernel
theorem dM_force_34 : decode cM_force 34 = .ok (.iconst 0, 1) := by decide +kernel
theorem dM_force_35 : decode cM_force 35 = .ok (.istore_n 3, 1) := by decide +kernel
theorem dM_force_36 : decode cM_force 36 = .ok (.aload_n 0, 1) := by decide +kernel
theorem dM_force_37 : decode cM_force 37 = .ok (.getfield 25, 3) := by decide +kernel
theorem dM_force_40 : decode cM_force 40 = .ok (.iload_n 1, 1) := by decide +kernel
theorem dM_force_41 : decode cM_force 41 = .ok (.iconst 2, 1) := by decide +kernel
theorem dM_force_42 : decode cM_force 42 = .ok (.idiv, 1) := by decide +kernel
theorem dM_force_43 : decode cM_force 43 = .ok (.iload_n 2, 1) := by decide +kernel
theorem dM_force_44 : decode cM_force 44 = .ok (.iastore, 1) := by decide +kernel
theorem dM_force_45 : decode cM_force 45 = .ok (.iload_n 3, 1) := by decide +kernel
theorem dM_force_46 : decode cM_force 46 = .ok (.ireturn, 1) := by decide +kernel
theorem dM_free_0 : decode cM_free 0 = .ok (.iconst 0, 1) := by decide +kernel
theorem dM_free_1 : decode cM_free 1 = .ok (.istore_n 1, 1) := by decide +kernel
theorem dM_free_2 : decode cM_free 2 = .ok (.iload_n 1, 1) := by decide +kernel
theorem dM_free_3 : decode cM_free 3 = .ok (.aload_n 0, 1) := by decide +kernel
theorem dM_free_4 : decode cM_free 4 = .ok (.getfield 41, 3) := by decide +kernel
theorem dM_free_7 : decode cM_free 7 = .ok (.if_icmp .ge 16, 3) := by decide +kernel
theorem dM_free_10 : decode cM_free 10 = .ok (.aload_n 0, 1) := by decide +kernel
theorem dM_free_11 : decode cM_free 11 = .ok (.getfield 25, 3) := by decide +kernel
theorem dM_free_14 : decode cM_free 14 = .ok (.iload_n 1, 1) := by decide +kernel
theorem dM_free_15 : decode cM_free 15 = .ok (.iconst (-1), 1) := by decide +kernel
theorem dM_free_16 : decode cM_free 16 = .ok (.iastore, 1) := by decide +kernel
theorem dM_free_17 : decode cM_free 17 = .ok (.iinc 1 1, 3) := by decide +kernel
theorem dM_free_20 : decode cM_free 20 = .ok (.goto (-18), 3) := by decide +kernel
theorem dM_free_23 : decode cM_free 23 = .ok (.return_, 1) := by decide +kernel
theorem dM_init_0 : decode cM_init 0 = .ok (.aload_n 0, 1) := by decide +kernel
theorem dM_init_1 : decode cM_init 1 = .ok (.invokespecial 1, 3) := by decide +kernel
theorem dM_init_4 : decode cM_init 4 = .ok (.aload_n 0, 1) := by decide +kernel
theorem dM_init_5 : decode cM_init 5 = .ok (.sipush 4000, 3) := by decide +kernel
theorem dM_init_8 : decode cM_init 8 = .ok (.newarray .int, 2) := by decide +kernel
theorem dM_init_10 : decode cM_init 10 = .ok (.putfield 7, 3) := by decide +kernel
theorem dM_init_13 : decode cM_init 13 = .ok (.aload_n 0, 1) := by decide +kernel
theorem dM_init_14 : decode cM_init 14 = .ok (.sipush 501, 3) := by decide +kernel
theorem dM_init_17 : decode cM_init 17 = .ok (.newarray .int, 2) := by decide +kernel
theorem dM_init_19 : decode cM_init 19 = .ok (.putfield 13, 3) := by decide +kernel
theorem dM_init_22 : decode cM_init 22 = .ok (.aload_n 0, 1) := by decide +kernel
theorem dM_init_23 : decode cM_init 23 = .ok (.bipush 17, 2) := by decide +kernel
theorem dM_init_25 : decode cM_init 25 = .ok (.newarray .int, 2) := by decide +kernel
theorem dM_init_27 : decode cM_init 27 = .ok (.putfield 16, 3) := by decide +kernel
theorem dM_init_30 : decode cM_init 30 = .ok (.aload_n 0, 1) := by decide +kernel
theorem dM_init_31 : decode cM_init 31 = .ok (.sipush 500, 3) := by decide +kernel
theorem dM_init_34 : decode cM_init 34 = .ok (.newarray .int, 2) := by decide +kernel
theorem dM_init_36 : decode cM_init 36 = .ok (.putfield 19, 3) := by decide +kernel
theorem dM_init_39 : decode cM_init 39 = .ok (.aload_n 0, 1) := by decide +kernel
theorem dM_init_40 : decode cM_init 40 = .ok (.bipush 64, 2) := by decide +kernel
theorem dM_init_42 : decode cM_init 42 = .ok (.newarray .int, 2) := by decide +kernel
theorem dM_init_44 : decode cM_init 44 = .ok (.putfield 22, 3) := by decide +kernel
theorem dM_init_47 : decode cM_init 47 = .ok (.aload_n 0, 1) := by decide +kernel
theorem dM_init_48 : decode cM_init 48 = .ok (.bipush 16, 2) := by decide +kernel
theorem dM_init_50 : decode cM_init 50 = .ok (.newarray .int, 2) := by decide +kernel
theorem dM_init_52 : decode cM_init 52 = .ok (.putfield 25, 3) := by decide +kernel
theorem dM_init_55 : decode cM_init 55 = .ok (.aload_n 0, 1) := by decide +kernel
theorem dM_init_56 : decode cM_init 56 = .ok (.bipush 16, 2) := by decide +kernel
theorem dM_init_58 : decode cM_init 58 = .ok (.newarray .int, 2) := by decide +kernel
theorem dM_init_60 : decode cM_init 60 = .ok (.putfield 28, 3) := by decide +kernel
theorem dM_init_63 : decode cM_init 63 = .ok (.aload_n 0, 1) := by decide +kernel
theorem dM_init_64 : decode cM_init 64 = .ok (.bipush 16, 2) := by decide +kernel
theorem dM_init_66 : decode cM_init 66 = .ok (.newarray .int, 2) := by decide +kernel
theorem dM_init_68 : decode cM_init 68 = .ok (.putfield 31, 3) := by decide +kernel
theorem dM_init_71 : decode cM_init 71 = .ok (.aload_n 0, 1) := by decide +kernel
theorem dM_init_72 : decode cM_init 72 = .ok (.invokevirtual 34, 3) := by decide +kernel
theorem dM_init_75 : decode cM_init 75 = .ok (.return_, 1) := by decide +kernel
theorem dM_isLiteral_0 : decode cM_isLiteral 0 = .ok (.iload_n 1, 1) := by decide +kernel
theorem dM_isLiteral_1 : decode cM_isLiteral 1 = .ok (.ifCond .lt 17, 3) := by decide +kernel
theorem dM_isLiteral_4 : decode cM_isLiteral 4 = .ok (.iload_n 1, 1) := by decide +kernel
theorem dM_isLiteral_5 : decode cM_isLiteral 5 = .ok (.iconst 2, 1) := by decide +kernel
theorem dM_isLiteral_6 : decode cM_isLiteral 6 = .ok (.aload_n 0, 1) := by decide +kernel
theorem dM_isLiteral_7 : decode cM_isLiteral 7 = .ok (.getfield 41, 3) := by decide +kernel
theorem dM_isLiteral_10 : decode cM_isLiteral 10 = .ok (.imul, 1) := by decide +kernel
theorem dM_isLiteral_11 : decode cM_isLiteral 11 = .ok (.if_icmp .ge 7, 3) := by decide +kernel
theorem dM_isLiteral_14 : decode cM_isLiteral 14 = .ok (.iconst 1, 1) := by decide +kernel
theorem dM_isLiteral_15 : decode cM_isLiteral 15 = .ok (.goto 4, 3) := by decide +kernel
theorem dM_isLiteral_18 : decode cM_isLiteral 18 = .ok (.iconst 0, 1) := by decide +kernel
theorem dM_isLiteral_19 : decode cM_isLiteral 19 = .ok (.ireturn, 1) := by decide +kernel
theorem dM_isRight_0 : decode cM_isRight 0 = .ok (.iconst 1, 1) := by decide +kernel
theorem dM_isRight_1 : decode cM_isRight 1 = .ok (.istore_n 2, 1) := by decide +kernel
theorem dM_isRight_2 : decode cM_isRight 2 = .ok (.aload_n 0, 1) := by decide +kernel
theorem dM_isRight_3 : decode cM_isRight 3 = .ok (.getfield 16, 3) := by decide +kernel
theorem dM_isRight_6 : decode cM_isRight 6 = .ok (.iload_n 1, 1) := by decide +kernel
theorem dM_isRight_7 : decode cM_isRight 7 = .ok (.iaload, 1) := by decide +kernel
theorem dM_isRight_8 : decode cM_isRight 8 = .ok (.istore_n 3, 1) := by decide +kernel
theorem dM_isRight_9 : decode cM_isRight 9 = .ok (.iload_n 3, 1) := by decide +kernel
theorem dM_isRight_10 : decode cM_isRight 10 = .ok (.iconst (-1), 1) := by decide +kernel
theorem dM_isRight_11 : decode cM_isRight 11 = .ok (.if_icmp .eq 84, 3) := by decide +kernel
theorem dM_isRight_14 : decode cM_isRight 14 = .ok (.iload_n 2, 1) := by decide +kernel
theorem dM_isRight_15 : decode cM_isRight 15 = .ok (.ifCond .eq 80, 3) := by decide +kernel
theorem dM_isRight_18 : decode cM_isRight 18 = .ok (.iconst 0, 1) := by decide +kernel
theorem dM_isRight_19 : decode cM_isRight 19 = .ok (.istore_n 2, 1) := by decide +kernel
theorem dM_isRight_20 : decode cM_isRight 20 = .ok (.aload_n 0, 1) := by decide +kernel
theorem dM_isRight_21 : decode cM_isRight 21 = .ok (.getfield 13, 3) := by decide +kernel
theorem dM_isRight_24 : decode cM_isRight 24 = .ok (.iload_n 3, 1) := by decide +kernel
theorem dM_isRight_25 : decode cM_isRight 25 = .ok (.iaload, 1) := by decide +kernel
theorem dM_isRight_26 : decode cM_isRight 26 = .ok (.istore 4, 2) := by decide +kernel
theorem dM_isRight_28 : decode cM_isRight 28 = .ok (.iload 4, 2) := by decide +kernel
theorem dM_isRight_30 : decode cM_isRight 30 = .ok (.aload_n 0, 1) := by decide +kernel
theorem dM_isRight_31 : decode cM_isRight 31 = .ok (.getfield 13, 3) := by decide +kernel
theorem dM_isRight_34 : decode cM_isRight 34 = .ok (.iload_n 3, 1) := by decide +kernel
theorem dM_isRight_35 : decode cM_isRight 35 = .ok (.iconst 1, 1) := by decide +kernel
theorem dM_isRight_36 : decode cM_isRight 36 = .ok (.iadd, 1) := by decide +kernel
theorem dM_isRight_37 : decode cM_isRight 37 = .ok (.iaload, 1) := by decide +kernel
theorem dM_isRight_38 : decode cM_isRight 38 = .ok (.if_icmp .ge 47, 3) := by decide +kernel
theorem dM_isRight_41 : decode cM_isRight 41 = .ok (.iload_n 2, 1) := by decide +kernel
theorem dM_isRight_42 : decode cM_isRight 42 = .ok (.ifCond .ne 43, 3) := by decide +kernel
theorem dM_isRight_45 : decode cM_isRight 45 = .ok (.aload_n 0, 1) := by decide +kernel
theorem dM_isRight_46 : decode cM_isRight 46 = .ok (.getfield 28, 3) := by decide +kernel
theorem dM_isRight_49 : decode cM_isRight 49 = .ok (.aload_n 0, 1) := by decide +kernel
theorem dM_isRight_50 : decode cM_isRight 50 = .ok (.getfield 7, 3) := by decide +kernel
theorem dM_isRight_53 : decode cM_isRight 53 = .ok (.iload 4, 2) := by decide +kernel
theorem dM_isRight_55 : decode cM_isRight 55 = .ok (.iaload, 1) := by decide +kernel
theorem dM_isRight_56 : decode cM_isRight 56 = .ok (.iconst 2, 1) := by decide +kernel
theorem dM_isRight_57 : decode cM_isRight 57 = .ok (.idiv, 1) := by decide +kernel
theorem dM_isRight_58 : decode cM_isRight 58 = .ok (.iaload, 1) := by decide +kernel
theorem dM_isRight_59 : decode cM_isRight 59 = .ok (.iconst 1, 1) := by decide +kernel
theorem dM_isRight_60 : decode cM_isRight 60 = .ok (.aload_n 0, 1) := by decide +kernel
theorem dM_isRight_61 : decode cM_isRight 61 = .ok (.getfield 7, 3) := by decide +kernel
theorem dM_isRight_64 : decode cM_isRight 64 = .ok (.iload 4, 2) := by decide +kernel
theorem dM_isRight_66 : decode cM_isRight 66 = .ok (.iaload, 1) := by decide +kernel
theorem dM_isRight_67 : decode cM_isRight 67 = .ok (.iconst 2, 1) := by decide +kernel
theorem dM_isRight_68 : decode cM_isRight 68 = .ok (.irem, 1) := by decide +kernel
theorem dM_isRight_69 : decode cM_isRight 69 = .ok (.isub, 1) := by decide +kernel
theorem dM_isRight_70 : decode cM_isRight 70 = .ok (.if_icmp .ne 7, 3) := by decide +kernel
theorem dM_isRight_73 : decode cM_isRight 73 = .ok (.iconst 1, 1) := by decide +kernel
theorem dM_isRight_74 : decode cM_isRight 74 = .ok (.goto 4, 3) := by decide +kernel
theorem dM_isRight_77 : decode cM_isRight 77 = .ok (.iconst 0, 1) := by decide +kernel
theorem dM_isRight_78 : decode cM_isRight 78 = .ok (.istore_n 2, 1) := by decide +kernel
theorem dM_isRight_79 : decode cM_isRight 79 = .ok (.iinc 4 1, 3) := by decide +kernel
theorem dM_isRight_82 : decode cM_isRight 82 = .ok (.goto (-54), 3) := by decide +kernel
theorem dM_isRight_85 : decode cM_isRight 85 = .ok (.aload_n 0, 1) := by decide +kernel
theorem dM_isRight_86 : decode cM_isRight 86 = .ok (.getfield 19, 3) := by decide +kernel
theorem dM_isRight_89 : decode cM_isRight 89 = .ok (.iload_n 3, 1) := by decide +kernel
theorem dM_isRight_90 : decode cM_isRight 90 = .ok (.iaload, 1) := by decide +kernel
theorem dM_isRight_91 : decode cM_isRight 91 = .ok (.istore_n 3, 1) := by decide +kernel
theorem dM_isRight_92 : decode cM_isRight 92 = .ok (.goto (-83), 3) := by decide +kernel
theorem dM_isRight_95 : decode cM_isRight 95 = .ok (.iload_n 2, 1) := by decide +kernel
theorem dM_isRight_96 : decode cM_isRight 96 = .ok (.ireturn, 1) := by decide +kernel
theorem dM_isSolved_0 : decode cM_isSolved 0 = .ok (.aload_n 0, 1) := by decide +kernel
theorem dM_isSolved_1 : decode cM_isSolved 1 = .ok (.invokevirtual 69, 3) := by decide +kernel
theorem dM_isSolved_4 : decode cM_isSolved 4 = .ok (.iconst 1, 1) := by decide +kernel
theorem dM_isSolved_5 : decode cM_isSolved 5 = .ok (.istore_n 2, 1) := by decide +kernel
theorem dM_isSolved_6 : decode cM_isSolved 6 = .ok (.iconst 0, 1) := by decide +kernel
theorem dM_isSolved_7 : decode cM_isSolved 7 = .ok (.istore_n 3, 1) := by decide +kernel
theorem dM_isSolved_8 : decode cM_isSolved 8 = .ok (.iload_n 3, 1) := by decide +kernel
theorem dM_isSolved_9 : decode cM_isSolved 9 = .ok (.iload_n 1, 1) := by decide +kernel
theorem dM_isSolved_10 : decode cM_isSolved 10 = .ok (.if_icmp .ge 32, 3) := by decide +kernel
theorem dM_isSolved_13 : decode cM_isSolved 13 = .ok (.aload_n 0, 1) := by decide +kernel
theorem dM_isSolved_14 : decode cM_isSolved 14 = .ok (.aload_n 0, 1) := by decide +kernel
theorem dM_isSolved_15 : decode cM_isSolved 15 = .ok (.getfield 22, 3) := by decide +kernel
theorem dM_isSolved_18 : decode cM_isSolved 18 = .ok (.iload_n 3, 1) := by decide +kernel
theorem dM_isSolved_19 : decode cM_isSolved 19 = .ok (.iaload, 1) := by decide +kernel
theorem dM_isSolved_20 : decode cM_isSolved 20 = .ok (.invokevirtual 72, 3) := by decide +kernel
theorem dM_isSolved_23 : decode cM_isSolved 23 = .ok (.ifCond .eq 11, 3) := by decide +kernel
theorem dM_isSolved_26 : decode cM_isSolved 26 = .ok (.iload_n 2, 1) := by decide +kernel
theorem dM_isSolved_27 : decode cM_isSolved 27 = .ok (.ifCond .eq 7, 3) := by decide +kernel
theorem dM_isSolved_30 : decode cM_isSolved 30 = .ok (.iconst 1, 1) := by decide +kernel
theorem dM_isSolved_31 : decode cM_isSolved 31 = .ok (.goto 4, 3) := by decide +kernel
theorem dM_isSolved_34 : decode cM_isSolved 34 = .ok (.iconst 0, 1) := by decide +kernel
theorem dM_isSolved_35 : decode cM_isSolved 35 = .ok (.istore_n 2, 1) := by decide +kernel
theorem dM_isSolved_36 : decode cM_isSolved 36 = .ok (.iinc 3 1, 3) := by decide +kernel
theorem dM_isSolved_39 : decode cM_isSolved 39 = .ok (.goto (-31), 3) := by decide +kernel
theorem dM_isSolved_42 : decode cM_isSolved 42 = .ok (.iload_n 2, 1) := by decide +kernel
theorem dM_isSolved_43 : decode cM_isSolved 43 = .ok (.ifCond .eq 14, 3) := by decide +kernel
theorem dM_isSolved_46 : decode cM_isSolved 46 = .ok (.aload_n 0, 1) := by decide +kernel
theorem dM_isSolved_47 : decode cM_isSolved 47 = .ok (.invokevirtual 75, 3) := by decide +kernel
theorem dM_isSolved_50 : decode cM_isSolved 50 = .ok (.ifCond .eq 7, 3) := by decide +kernel
theorem dM_isSolved_53 : decode cM_isSolved 53 = .ok (.iconst 1, 1) := by decide +kernel
theorem dM_isSolved_54 : decode cM_isSolved 54 = .ok (.goto 4, 3) := by decide +kernel
theorem dM_isSolved_57 : decode cM_isSolved 57 = .ok (.iconst 0, 1) := by decide +kernel
theorem dM_isSolved_58 : decode cM_isSolved 58 = .ok (.ireturn, 1) := by decide +kernel
theorem dM_least_0 : decode cM_least 0 = .ok (.aload_n 0, 1) := by decide +kernel
theorem dM_least_1 : decode cM_least 1 = .ok (.iload_n 1, 1) := by decide +kernel
theorem dM_least_2 : decode cM_least 2 = .ok (.ifCond .lt 11, 3) := by decide +kernel
theorem dM_least_5 : decode cM_least 5 = .ok (.iload_n 1, 1) := by decide +kernel
theorem dM_least_6 : decode cM_least 6 = .ok (.aload_n 0, 1) := by decide +kernel
theorem dM_least_7 : decode cM_least 7 = .ok (.getfield 41, 3) := by decide +kernel
theorem dM_least_10 : decode cM_least 10 = .ok (.if_icmp .lt 7, 3) := by decide +kernel
theorem dM_least_13 : decode cM_least 13 = .ok (.iconst 1, 1) := by decide +kernel
theorem dM_least_14 : decode cM_least 14 = .ok (.goto 4, 3) := by decide +kernel
theorem dM_least_17 : decode cM_least 17 = .ok (.iconst 0, 1) := by decide +kernel
theorem dM_least_18 : decode cM_least 18 = .ok (.putfield 37, 3) := by decide +kernel
theorem dM_least_21 : decode cM_least 21 = .ok (.aload_n 0, 1) := by decide +kernel
theorem dM_least_22 : decode cM_least 22 = .ok (.getfield 37, 3) := by decide +kernel
theorem dM_least_25 : decode cM_least 25 = .ok (.ifCond .le 5, 3) := by decide +kernel
theorem dM_least_28 : decode cM_least 28 = .ok (.iconst 0, 1) := by decide +kernel
theorem dM_least_29 : decode cM_least 29 = .ok (.ireturn, 1) := by decide +kernel
theorem dM_least_30 : decode cM_least 30 = .ok (.aload_n 0, 1) := by decide +kernel
theorem dM_least_31 : decode cM_least 31 = .ok (.getfield 56, 3) := by decide +kernel
theorem dM_least_34 : decode cM_least 34 = .ok (.iconst 1, 1) := by decide +kernel
theorem dM_least_35 : decode cM_least 35 = .ok (.if_icmp .ne 20, 3) := by decide +kernel
theorem dM_least_38 : decode cM_least 38 = .ok (.iload_n 1, 1) := by decide +kernel
theorem dM_least_39 : decode cM_least 39 = .ok (.aload_n 0, 1) := by decide +kernel
theorem dM_least_40 : decode cM_least 40 = .ok (.getfield 59, 3) := by decide +kernel
theorem dM_least_43 : decode cM_least 43 = .ok (.if_icmp .ge 12, 3) := by decide +kernel
theorem dM_least_46 : decode cM_least 46 = .ok (.aload_n 0, 1) := by decide +kernel
theorem dM_least_47 : decode cM_least 47 = .ok (.getfield 31, 3) := by decide +kernel
theorem dM_least_50 : decode cM_least 50 = .ok (.iload_n 1, 1) := by decide +kernel
theorem dM_least_51 : decode cM_least 51 = .ok (.iaload, 1) := by decide +kernel
theorem dM_least_52 : decode cM_least 52 = .ok (.goto 4, 3) := by decide +kernel
theorem dM_least_55 : decode cM_least 55 = .ok (.iconst (-1), 1) := by decide +kernel
theorem dM_least_56 : decode cM_least 56 = .ok (.ireturn, 1) := by decide +kernel
theorem dM_literal_0 : decode cM_literal 0 = .ok (.aload_n 0, 1) := by decide +kernel
theorem dM_literal_1 : decode cM_literal 1 = .ok (.aload_n 0, 1) := by decide +kernel
theorem dM_literal_2 : decode cM_literal 2 = .ok (.iload_n 1, 1) := by decide +kernel
theorem dM_literal_3 : decode cM_literal 3 = .ok (.invokevirtual 62, 3) := by decide +kernel
theorem dM_literal_6 : decode cM_literal 6 = .ok (.ifCond .ne 7, 3) := by decide +kernel
theorem dM_literal_9 : decode cM_literal 9 = .ok (.iconst 1, 1) := by decide +kernel
theorem dM_literal_10 : decode cM_literal 10 = .ok (.goto 32, 3) := by decide +kernel
theorem dM_literal_13 : decode cM_literal 13 = .ok (.aload_n 0, 1) := by decide +kernel
theorem dM_literal_14 : decode cM_literal 14 = .ok (.getfield 50, 3) := by decide +kernel
theorem dM_literal_17 : decode cM_literal 17 = .ok (.bipush 40, 2) := by decide +kernel
theorem dM_literal_19 : decode cM_literal 19 = .ok (.if_icmp .eq 18, 3) := by decide +kernel
theorem dM_literal_22 : decode cM_literal 22 = .ok (.aload_n 0, 1) := by decide +kernel
theorem dM_literal_23 : decode cM_literal 23 = .ok (.getfield 47, 3) := by decide +kernel
theorem dM_literal_26 : decode cM_literal 26 = .ok (.aload_n 0, 1) := by decide +kernel
theorem dM_literal_27 : decode cM_literal 27 = .ok (.getfield 50, 3) := by decide +kernel
theorem dM_literal_30 : decode cM_literal 30 = .ok (.iadd, 1) := by decide +kernel
theorem dM_literal_31 : decode cM_literal 31 = .ok (.sipush 4000, 3) := by decide +kernel
theorem dM_literal_34 : decode cM_literal 34 = .ok (.if_icmp .ne 7, 3) := by decide +kernel
theorem dM_literal_37 : decode cM_literal 37 = .ok (.iconst 2, 1) := by decide +kernel
theorem dM_literal_38 : decode cM_literal 38 = .ok (.goto 4, 3) := by decide +kernel
theorem dM_literal_41 : decode cM_literal 41 = .ok (.iconst 0, 1) := by decide +kernel
theorem dM_literal_42 : decode cM_literal 42 = .ok (.putfield 37, 3) := by decide +kernel
theorem dM_literal_45 : decode cM_literal 45 = .ok (.aload_n 0, 1) := by decide +kernel
theorem dM_literal_46 : decode cM_literal 46 = .ok (.getfield 37, 3) := by decide +kernel
theorem dM_literal_49 : decode cM_literal 49 = .ok (.ifCond .le 5, 3) := by decide +kernel
theorem dM_literal_52 : decode cM_literal 52 = .ok (.iconst 0, 1) := by decide +kernel
theorem dM_literal_53 : decode cM_literal 53 = .ok (.ireturn, 1) := by decide +kernel
theorem dM_literal_54 : decode cM_literal 54 = .ok (.aload_n 0, 1) := by decide +kernel
theorem dM_literal_55 : decode cM_literal 55 = .ok (.getfield 7, 3) := by decide +kernel
theorem dM_literal_58 : decode cM_literal 58 = .ok (.aload_n 0, 1) := by decide +kernel
theorem dM_literal_59 : decode cM_literal 59 = .ok (.getfield 47, 3) := by decide +kernel
theorem dM_literal_62 : decode cM_literal 62 = .ok (.aload_n 0, 1) := by decide +kernel
theorem dM_literal_63 : decode cM_literal 63 = .ok (.getfield 50, 3) := by decide +kernel
theorem dM_literal_66 : decode cM_literal 66 = .ok (.iadd, 1) := by decide +kernel
theorem dM_literal_67 : decode cM_literal 67 = .ok (.iload_n 1, 1) := by decide +kernel
theorem dM_literal_68 : decode cM_literal 68 = .ok (.iastore, 1) := by decide +kernel
theorem dM_literal_69 : decode cM_literal 69 = .ok (.aload_n 0, 1) := by decide +kernel
theorem dM_literal_70 : decode cM_literal 70 = .ok (.dup, 1) := by decide +kernel
theorem dM_literal_71 : decode cM_literal 71 = .ok (.getfield 50, 3) := by decide +kernel
theorem dM_literal_74 : decode cM_literal 74 = .ok (.iconst 1, 1) := by decide +kernel
theorem dM_literal_75 : decode cM_literal 75 = .ok (.iadd, 1) := by decide +kernel
theorem dM_literal_76 : decode cM_literal 76 = .ok (.putfield 50, 3) := by decide +kernel
theorem dM_literal_79 : decode cM_literal 79 = .ok (.aload_n 0, 1) := by decide +kernel
theorem dM_literal_80 : decode cM_literal 80 = .ok (.getfield 50, 3) := by decide +kernel
theorem dM_literal_83 : decode cM_literal 83 = .ok (.ireturn, 1) := by decide +kernel
theorem dM_must_0 : decode cM_must 0 = .ok (.aload_n 0, 1) := by decide +kernel
theorem dM_must_1 : decode cM_must 1 = .ok (.aload_n 0, 1) := by decide +kernel
theorem dM_must_2 : decode cM_must 2 = .ok (.iload_n 1, 1) := by decide +kernel
theorem dM_must_3 : decode cM_must 3 = .ok (.invokevirtual 62, 3) := by decide +kernel
theorem dM_must_6 : decode cM_must 6 = .ok (.ifCond .eq 7, 3) := by decide +kernel
theorem dM_must_9 : decode cM_must 9 = .ok (.iconst 0, 1) := by decide +kernel
theorem dM_must_10 : decode cM_must 10 = .ok (.goto 4, 3) := by decide +kernel
theorem dM_must_13 : decode cM_must 13 = .ok (.iconst 1, 1) := by decide +kernel
theorem dM_must_14 : decode cM_must 14 = .ok (.putfield 37, 3) := by decide +kernel
theorem dM_must_17 : decode cM_must 17 = .ok (.aload_n 0, 1) := by decide +kernel
theorem dM_must_18 : decode cM_must 18 = .ok (.getfield 37, 3) := by decide +kernel
theorem dM_must_21 : decode cM_must 21 = .ok (.ifCond .le 5, 3) := by decide +kernel
theorem dM_must_24 : decode cM_must 24 = .ok (.iconst 0, 1) := by decide +kernel
theorem dM_must_25 : decode cM_must 25 = .ok (.ireturn, 1) := by decide +kernel
theorem dM_must_26 : decode cM_must 26 = .ok (.aload_n 0, 1) := by decide +kernel
theorem dM_must_27 : decode cM_must 27 = .ok (.invokevirtual 69, 3) := by decide +kernel
theorem dM_must_30 : decode cM_must 30 = .ok (.aload_n 0, 1) := by decide +kernel
theorem dM_must_31 : decode cM_must 31 = .ok (.iload_n 1, 1) := by decide +kernel
theorem dM_must_32 : decode cM_must 32 = .ok (.invokevirtual 72, 3) := by decide +kernel
theorem dM_must_35 : decode cM_must 35 = .ok (.pop, 1) := by decide +kernel
theorem dM_must_36 : decode cM_must 36 = .ok (.aload_n 0, 1) := by decide +kernel
theorem dM_must_37 : decode cM_must 37 = .ok (.invokevirtual 75, 3) := by decide +kernel
theorem dM_must_40 : decode cM_must 40 = .ok (.istore_n 2, 1) := by decide +kernel
theorem dM_must_41 : decode cM_must 41 = .ok (.aload_n 0, 1) := by decide +kernel
theorem dM_must_42 : decode cM_must 42 = .ok (.invokevirtual 69, 3) := by decide +kernel
theorem dM_must_45 : decode cM_must 45 = .ok (.aload_n 0, 1) := by decide +kernel
theorem dM_must_46 : decode cM_must 46 = .ok (.iload_n 1, 1) := by decide +kernel
theorem dM_must_47 : decode cM_must 47 = .ok (.iconst 1, 1) := by decide +kernel
theorem dM_must_48 : decode cM_must 48 = .ok (.ixor, 1) := by decide +kernel
theorem dM_must_49 : decode cM_must 49 = .ok (.invokevirtual 72, 3) := by decide +kernel
theorem dM_must_52 : decode cM_must 52 = .ok (.pop, 1) := by decide +kernel
theorem dM_must_53 : decode cM_must 53 = .ok (.aload_n 0, 1) := by decide +kernel
theorem dM_must_54 : decode cM_must 54 = .ok (.invokevirtual 75, 3) := by decide +kernel
theorem dM_must_57 : decode cM_must 57 = .ok (.istore_n 3, 1) := by decide +kernel
theorem dM_must_58 : decode cM_must 58 = .ok (.iload_n 2, 1) := by decide +kernel
theorem dM_must_59 : decode cM_must 59 = .ok (.ifCond .eq 15, 3) := by decide +kernel
theorem dM_must_62 : decode cM_must 62 = .ok (.iload_n 3, 1) := by decide +kernel
theorem dM_must_63 : decode cM_must 63 = .ok (.ifCond .eq 7, 3) := by decide +kernel
theorem dM_must_66 : decode cM_must 66 = .ok (.iconst 2, 1) := by decide +kernel
theorem dM_must_67 : decode cM_must 67 = .ok (.goto 16, 3) := by decide +kernel
theorem dM_must_70 : decode cM_must 70 = .ok (.iconst 1, 1) := by decide +kernel
theorem dM_must_71 : decode cM_must 71 = .ok (.goto 12, 3) := by decide +kernel
theorem dM_must_74 : decode cM_must 74 = .ok (.iload_n 3, 1) := by decide +kernel
theorem dM_must_75 : decode cM_must 75 = .ok (.ifCond .eq 7, 3) := by decide +kernel
theorem dM_must_78 : decode cM_must 78 = .ok (.iconst 0, 1) := by decide +kernel
theorem dM_must_79 : decode cM_must 79 = .ok (.goto 4, 3) := by decide +kernel
theorem dM_must_82 : decode cM_must 82 = .ok (.iconst (-1), 1) := by decide +kernel
theorem dM_must_83 : decode cM_must 83 = .ok (.ireturn, 1) := by decide +kernel
theorem dM_proved_0 : decode cM_proved 0 = .ok (.aload_n 0, 1) := by decide +kernel
theorem dM_proved_1 : decode cM_proved 1 = .ok (.iconst 0, 1) := by decide +kernel
theorem dM_proved_2 : decode cM_proved 2 = .ok (.putfield 37, 3) := by decide +kernel
theorem dM_proved_5 : decode cM_proved 5 = .ok (.aload_n 0, 1) := by decide +kernel
theorem dM_proved_6 : decode cM_proved 6 = .ok (.getfield 56, 3) := by decide +kernel
theorem dM_proved_9 : decode cM_proved 9 = .ok (.iconst 2, 1) := by decide +kernel
theorem dM_proved_10 : decode cM_proved 10 = .ok (.if_icmp .ne 7, 3) := by decide +kernel
theorem dM_proved_13 : decode cM_proved 13 = .ok (.iconst 1, 1) := by decide +kernel
theorem dM_proved_14 : decode cM_proved 14 = .ok (.goto 4, 3) := by decide +kernel
theorem dM_proved_17 : decode cM_proved 17 = .ok (.iconst 0, 1) := by decide +kernel
theorem dM_proved_18 : decode cM_proved 18 = .ok (.ireturn, 1) := by decide +kernel
theorem dM_search_0 : decode cM_search 0 = .ok (.aload_n 0, 1) := by decide +kernel
theorem dM_search_1 : decode cM_search 1 = .ok (.getfield 16, 3) := by decide +kernel
theorem dM_search_4 : decode cM_search 4 = .ok (.bipush 16, 2) := by decide +kernel
theorem dM_search_6 : decode cM_search 6 = .ok (.iaload, 1) := by decide +kernel
theorem dM_search_7 : decode cM_search 7 = .ok (.iconst (-1), 1) := by decide +kernel
theorem dM_search_8 : decode cM_search 8 = .ok (.if_icmp .eq 5, 3) := by decide +kernel
theorem dM_search_11 : decode cM_search 11 = .ok (.iconst 0, 1) := by decide +kernel
theorem dM_search_12 : decode cM_search 12 = .ok (.ireturn, 1) := by decide +kernel
theorem dM_search_13 : decode cM_search 13 = .ok (.iconst 0, 1) := by decide +kernel
theorem dM_search_14 : decode cM_search 14 = .ok (.istore_n 1, 1) := by decide +kernel
theorem dM_search_15 : decode cM_search 15 = .ok (.iconst 0, 1) := by decide +kernel
theorem dM_search_16 : decode cM_search 16 = .ok (.istore_n 2, 1) := by decide +kernel
theorem dM_search_17 : decode cM_search 17 = .ok (.iload_n 1, 1) := by decide +kernel
theorem dM_search_18 : decode cM_search 18 = .ok (.ifCond .lt 101, 3) := by decide +kernel
theorem dM_search_21 : decode cM_search 21 = .ok (.iload_n 1, 1) := by decide +kernel
theorem dM_search_22 : decode cM_search 22 = .ok (.aload_n 0, 1) := by decide +kernel
theorem dM_search_23 : decode cM_search 23 = .ok (.getfield 41, 3) := by decide +kernel
theorem dM_search_26 : decode cM_search 26 = .ok (.if_icmp .ge 93, 3) := by decide +kernel
theorem dM_search_29 : decode cM_search 29 = .ok (.iload_n 2, 1) := by decide +kernel
theorem dM_search_30 : decode cM_search 30 = .ok (.ifCond .ne 27, 3) := by decide +kernel
theorem dM_search_33 : decode cM_search 33 = .ok (.aload_n 0, 1) := by decide +kernel
theorem dM_search_34 : decode cM_search 34 = .ok (.getfield 28, 3) := by decide +kernel
theorem dM_search_37 : decode cM_search 37 = .ok (.iload_n 1, 1) := by decide +kernel
theorem dM_search_38 : decode cM_search 38 = .ok (.aload_n 0, 1) := by decide +kernel
theorem dM_search_39 : decode cM_search 39 = .ok (.getfield 25, 3) := by decide +kernel
theorem dM_search_42 : decode cM_search 42 = .ok (.iload_n 1, 1) := by decide +kernel
theorem dM_search_43 : decode cM_search 43 = .ok (.iaload, 1) := by decide +kernel
theorem dM_search_44 : decode cM_search 44 = .ok (.iconst 1, 1) := by decide +kernel
theorem dM_search_45 : decode cM_search 45 = .ok (.if_icmp .ne 7, 3) := by decide +kernel
theorem dM_search_48 : decode cM_search 48 = .ok (.iconst 1, 1) := by decide +kernel
theorem dM_search_49 : decode cM_search 49 = .ok (.goto 4, 3) := by decide +kernel
theorem dM_search_52 : decode cM_search 52 = .ok (.iconst 0, 1) := by decide +kernel
theorem dM_search_53 : decode cM_search 53 = .ok (.iastore, 1) := by decide +kernel
theorem dM_search_54 : decode cM_search 54 = .ok (.goto 36, 3) := by decide +kernel
