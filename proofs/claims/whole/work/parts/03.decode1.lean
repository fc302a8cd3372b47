theorem dX0_init_0 : decode cX0_init 0 = .ok (.aload_n 0, 1) := by decide +kernel
theorem dX0_init_1 : decode cX0_init 1 = .ok (.invokespecial 1, 3) := by decide +kernel
theorem dX0_init_4 : decode cX0_init 4 = .ok (.aload_n 0, 1) := by decide +kernel
theorem dX0_init_5 : decode cX0_init 5 = .ok (.bipush 24, 2) := by decide +kernel
theorem dX0_init_7 : decode cX0_init 7 = .ok (.newarray .int, 2) := by decide +kernel
theorem dX0_init_9 : decode cX0_init 9 = .ok (.putfield 9, 3) := by decide +kernel
theorem dX0_init_12 : decode cX0_init 12 = .ok (.aload_n 0, 1) := by decide +kernel
theorem dX0_init_13 : decode cX0_init 13 = .ok (.bipush 50, 2) := by decide +kernel
theorem dX0_init_15 : decode cX0_init 15 = .ok (.newarray .int, 2) := by decide +kernel
theorem dX0_init_17 : decode cX0_init 17 = .ok (.putfield 13, 3) := by decide +kernel
theorem dX0_init_20 : decode cX0_init 20 = .ok (.return_, 1) := by decide +kernel
theorem dX0_add_0 : decode cX0_add 0 = .ok (.aload_n 0, 1) := by decide +kernel
theorem dX0_add_1 : decode cX0_add 1 = .ok (.getfield 16, 3) := by decide +kernel
theorem dX0_add_4 : decode cX0_add 4 = .ok (.bipush 50, 2) := by decide +kernel
theorem dX0_add_6 : decode cX0_add 6 = .ok (.if_icmp .lt 5, 3) := by decide +kernel
theorem dX0_add_9 : decode cX0_add 9 = .ok (.iconst 0, 1) := by decide +kernel
theorem dX0_add_10 : decode cX0_add 10 = .ok (.ireturn, 1) := by decide +kernel
theorem dX0_add_11 : decode cX0_add 11 = .ok (.aload_n 0, 1) := by decide +kernel
theorem dX0_add_12 : decode cX0_add 12 = .ok (.getfield 13, 3) := by decide +kernel
theorem dX0_add_15 : decode cX0_add 15 = .ok (.aload_n 0, 1) := by decide +kernel
theorem dX0_add_16 : decode cX0_add 16 = .ok (.getfield 16, 3) := by decide +kernel
theorem dX0_add_19 : decode cX0_add 19 = .ok (.iload_n 1, 1) := by decide +kernel
theorem dX0_add_20 : decode cX0_add 20 = .ok (.iastore, 1) := by decide +kernel
theorem dX0_add_21 : decode cX0_add 21 = .ok (.aload_n 0, 1) := by decide +kernel
theorem dX0_add_22 : decode cX0_add 22 = .ok (.dup, 1) := by decide +kernel
theorem dX0_add_23 : decode cX0_add 23 = .ok (.getfield 16, 3) := by decide +kernel
theorem dX0_add_26 : decode cX0_add 26 = .ok (.iconst 1, 1) := by decide +kernel
theorem dX0_add_27 : decode cX0_add 27 = .ok (.iadd, 1) := by decide +kernel
theorem dX0_add_28 : decode cX0_add 28 = .ok (.putfield 16, 3) := by decide +kernel
theorem dX0_add_31 : decode cX0_add 31 = .ok (.iconst 1, 1) := by decide +kernel
theorem dX0_add_32 : decode cX0_add 32 = .ok (.ireturn, 1) := by decide +kernel
theorem dX0_kept_0 : decode cX0_kept 0 = .ok (.aload_n 0, 1) := by decide +kernel
theorem dX0_kept_1 : decode cX0_kept 1 = .ok (.getfield 20, 3) := by decide +kernel
theorem dX0_kept_4 : decode cX0_kept 4 = .ok (.bipush 24, 2) := by decide +kernel
theorem dX0_kept_6 : decode cX0_kept 6 = .ok (.invokestatic 23, 3) := by decide +kernel
theorem dX0_kept_9 : decode cX0_kept 9 = .ok (.ireturn, 1) := by decide +kernel
theorem dX0_kindOf_0 : decode cX0_kindOf 0 = .ok (.iload_n 1, 1) := by decide +kernel
theorem dX0_kindOf_1 : decode cX0_kindOf 1 = .ok (.ifCond .lt 20, 3) := by decide +kernel
theorem dX0_kindOf_4 : decode cX0_kindOf 4 = .ok (.iload_n 1, 1) := by decide +kernel
theorem dX0_kindOf_5 : decode cX0_kindOf 5 = .ok (.aload_n 0, 1) := by decide +kernel
theorem dX0_kindOf_6 : decode cX0_kindOf 6 = .ok (.getfield 16, 3) := by decide +kernel
theorem dX0_kindOf_9 : decode cX0_kindOf 9 = .ok (.if_icmp .ge 12, 3) := by decide +kernel
theorem dX0_kindOf_12 : decode cX0_kindOf 12 = .ok (.aload_n 0, 1) := by decide +kernel
theorem dX0_kindOf_13 : decode cX0_kindOf 13 = .ok (.getfield 13, 3) := by decide +kernel
theorem dX0_kindOf_16 : decode cX0_kindOf 16 = .ok (.iload_n 1, 1) := by decide +kernel
theorem dX0_kindOf_17 : decode cX0_kindOf 17 = .ok (.iaload, 1) := by decide +kernel
theorem dX0_kindOf_18 : decode cX0_kindOf 18 = .ok (.goto 4, 3) := by decide +kernel
theorem dX0_kindOf_21 : decode cX0_kindOf 21 = .ok (.iconst (-1), 1) := by decide +kernel
theorem dX0_kindOf_22 : decode cX0_kindOf 22 = .ok (.ireturn, 1) := by decide +kernel
theorem dX0_isUnder_0 : decode cX0_isUnder 0 = .ok (.iload_n 0, 1) := by decide +kernel
theorem dX0_isUnder_1 : decode cX0_isUnder 1 = .ok (.istore_n 2, 1) := by decide +kernel
theorem dX0_isUnder_2 : decode cX0_isUnder 2 = .ok (.iconst 0, 1) := by decide +kernel
theorem dX0_isUnder_3 : decode cX0_isUnder 3 = .ok (.istore_n 3, 1) := by decide +kernel
theorem dX0_isUnder_4 : decode cX0_isUnder 4 = .ok (.iload_n 3, 1) := by decide +kernel
theorem dX0_isUnder_5 : decode cX0_isUnder 5 = .ok (.bipush 8, 2) := by decide +kernel
theorem dX0_isUnder_7 : decode cX0_isUnder 7 = .ok (.if_icmp .ge 26, 3) := by decide +kernel
theorem dX0_isUnder_10 : decode cX0_isUnder 10 = .ok (.iload_n 2, 1) := by decide +kernel
theorem dX0_isUnder_11 : decode cX0_isUnder 11 = .ok (.ifCond .lt 22, 3) := by decide +kernel
theorem dX0_isUnder_14 : decode cX0_isUnder 14 = .ok (.iload_n 2, 1) := by decide +kernel
theorem dX0_isUnder_15 : decode cX0_isUnder 15 = .ok (.iload_n 1, 1) := by decide +kernel
theorem dX0_isUnder_16 : decode cX0_isUnder 16 = .ok (.if_icmp .ne 5, 3) := by decide +kernel
theorem dX0_isUnder_19 : decode cX0_isUnder 19 = .ok (.iconst 1, 1) := by decide +kernel
theorem dX0_isUnder_20 : decode cX0_isUnder 20 = .ok (.ireturn, 1) := by decide +kernel
theorem dX0_isUnder_21 : decode cX0_isUnder 21 = .ok (.getstatic 29, 3) := by decide +kernel
theorem dX0_isUnder_24 : decode cX0_isUnder 24 = .ok (.iload_n 2, 1) := by decide +kernel
theorem dX0_isUnder_25 : decode cX0_isUnder 25 = .ok (.iaload, 1) := by decide +kernel
theorem dX0_isUnder_26 : decode cX0_isUnder 26 = .ok (.istore_n 2, 1) := by decide +kernel
theorem dX0_isUnder_27 : decode cX0_isUnder 27 = .ok (.iinc 3 1, 3) := by decide +kernel
theorem dX0_isUnder_30 : decode cX0_isUnder 30 = .ok (.goto (-26), 3) := by decide +kernel
theorem dX0_isUnder_33 : decode cX0_isUnder 33 = .ok (.iconst 0, 1) := by decide +kernel
theorem dX0_isUnder_34 : decode cX0_isUnder 34 = .ok (.ireturn, 1) := by decide +kernel
theorem dX0_perform_0 : decode cX0_perform 0 = .ok (.aload_n 0, 1) := by decide +kernel
theorem dX0_perform_1 : decode cX0_perform 1 = .ok (.iconst 0, 1) := by decide +kernel
theorem dX0_perform_2 : decode cX0_perform 2 = .ok (.putfield 20, 3) := by decide +kernel
theorem dX0_perform_5 : decode cX0_perform 5 = .ok (.iload_n 1, 1) := by decide +kernel
theorem dX0_perform_6 : decode cX0_perform 6 = .ok (.ifCond .lt 20, 3) := by decide +kernel
theorem dX0_perform_9 : decode cX0_perform 9 = .ok (.iload_n 1, 1) := by decide +kernel
theorem dX0_perform_10 : decode cX0_perform 10 = .ok (.aload_n 0, 1) := by decide +kernel
theorem dX0_perform_11 : decode cX0_perform 11 = .ok (.getfield 16, 3) := by decide +kernel
theorem dX0_perform_14 : decode cX0_perform 14 = .ok (.if_icmp .ge 12, 3) := by decide +kernel
theorem dX0_perform_17 : decode cX0_perform 17 = .ok (.iload_n 2, 1) := by decide +kernel
theorem dX0_perform_18 : decode cX0_perform 18 = .ok (.ifCond .lt 8, 3) := by decide +kernel
theorem dX0_perform_21 : decode cX0_perform 21 = .ok (.iload_n 2, 1) := by decide +kernel
theorem dX0_perform_22 : decode cX0_perform 22 = .ok (.iconst 3, 1) := by decide +kernel
theorem dX0_perform_23 : decode cX0_perform 23 = .ok (.if_icmp .le 5, 3) := by decide +kernel
theorem dX0_perform_26 : decode cX0_perform 26 = .ok (.iconst 0, 1) := by decide +kernel
theorem dX0_perform_27 : decode cX0_perform 27 = .ok (.ireturn, 1) := by decide +kernel
theorem dX0_perform_28 : decode cX0_perform 28 = .ok (.aload_n 0, 1) := by decide +kernel
theorem dX0_perform_29 : decode cX0_perform 29 = .ok (.iload_n 1, 1) := by decide +kernel
theorem dX0_perform_30 : decode cX0_perform 30 = .ok (.putfield 32, 3) := by decide +kernel
theorem dX0_perform_33 : decode cX0_perform 33 = .ok (.aload_n 0, 1) := by decide +kernel
theorem dX0_perform_34 : decode cX0_perform 34 = .ok (.iload_n 2, 1) := by decide +kernel
theorem dX0_perform_35 : decode cX0_perform 35 = .ok (.iload_n 3, 1) := by decide +kernel
theorem dX0_perform_36 : decode cX0_perform 36 = .ok (.iconst 0, 1) := by decide +kernel
theorem dX0_perform_37 : decode cX0_perform 37 = .ok (.invokevirtual 35, 3) := by decide +kernel
theorem dX0_perform_40 : decode cX0_perform 40 = .ok (.ireturn, 1) := by decide +kernel
theorem dX0_own_0 : decode cX0_own 0 = .ok (.aload_n 0, 1) := by decide +kernel
theorem dX0_own_1 : decode cX0_own 1 = .ok (.aload_n 0, 1) := by decide +kernel
theorem dX0_own_2 : decode cX0_own 2 = .ok (.getfield 13, 3) := by decide +kernel
theorem dX0_own_5 : decode cX0_own 5 = .ok (.aload_n 0, 1) := by decide +kernel
theorem dX0_own_6 : decode cX0_own 6 = .ok (.getfield 32, 3) := by decide +kernel
theorem dX0_own_9 : decode cX0_own 9 = .ok (.iaload, 1) := by decide +kernel
theorem dX0_own_10 : decode cX0_own 10 = .ok (.iload_n 1, 1) := by decide +kernel
theorem dX0_own_11 : decode cX0_own 11 = .ok (.iload_n 2, 1) := by decide +kernel
theorem dX0_own_12 : decode cX0_own 12 = .ok (.iload_n 3, 1) := by decide +kernel
theorem dX0_own_13 : decode cX0_own 13 = .ok (.invokevirtual 39, 3) := by decide +kernel
theorem dX0_own_16 : decode cX0_own 16 = .ok (.ireturn, 1) := by decide +kernel
theorem dX0_from_0 : decode cX0_from 0 = .ok (.iload_n 1, 1) := by decide +kernel
theorem dX0_from_1 : decode cX0_from 1 = .ok (.istore 5, 2) := by decide +kernel
theorem dX0_from_3 : decode cX0_from 3 = .ok (.iconst 0, 1) := by decide +kernel
theorem dX0_from_4 : decode cX0_from 4 = .ok (.istore 6, 2) := by decide +kernel
theorem dX0_from_6 : decode cX0_from 6 = .ok (.iload 6, 2) := by decide +kernel
theorem dX0_from_8 : decode cX0_from 8 = .ok (.bipush 8, 2) := by decide +kernel
theorem dX0_from_10 : decode cX0_from 10 = .ok (.if_icmp .ge 68, 3) := by decide +kernel
theorem dX0_from_13 : decode cX0_from 13 = .ok (.iload 5, 2) := by decide +kernel
theorem dX0_from_15 : decode cX0_from 15 = .ok (.ifCond .lt 63, 3) := by decide +kernel
theorem dX0_from_18 : decode cX0_from 18 = .ok (.getstatic 43, 3) := by decide +kernel
theorem dX0_from_21 : decode cX0_from 21 = .ok (.iload 5, 2) := by decide +kernel
theorem dX0_from_23 : decode cX0_from 23 = .ok (.iconst 4, 1) := by decide +kernel
theorem dX0_from_24 : decode cX0_from 24 = .ok (.imul, 1) := by decide +kernel
theorem dX0_from_25 : decode cX0_from 25 = .ok (.iload_n 2, 1) := by decide +kernel
theorem dX0_from_26 : decode cX0_from 26 = .ok (.iadd, 1) := by decide +kernel
theorem dX0_from_27 : decode cX0_from 27 = .ok (.iaload, 1) := by decide +kernel
theorem dX0_from_28 : decode cX0_from 28 = .ok (.istore 7, 2) := by decide +kernel
theorem dX0_from_30 : decode cX0_from 30 = .ok (.iload 7, 2) := by decide +kernel
theorem dX0_from_32 : decode cX0_from 32 = .ok (.ifCond .eq 32, 3) := by decide +kernel
theorem dX0_from_35 : decode cX0_from 35 = .ok (.iload 4, 2) := by decide +kernel
theorem dX0_from_37 : decode cX0_from 37 = .ok (.bipush 40, 2) := by decide +kernel
theorem dX0_from_39 : decode cX0_from 39 = .ok (.if_icmp .ge 23, 3) := by decide +kernel
theorem dX0_from_42 : decode cX0_from 42 = .ok (.aload_n 0, 1) := by decide +kernel
theorem dX0_from_43 : decode cX0_from 43 = .ok (.iload 7, 2) := by decide +kernel
theorem dX0_from_45 : decode cX0_from 45 = .ok (.getstatic 29, 3) := by decide +kernel
theorem dX0_from_48 : decode cX0_from 48 = .ok (.iload 5, 2) := by decide +kernel
theorem dX0_from_50 : decode cX0_from 50 = .ok (.iaload, 1) := by decide +kernel
theorem dX0_from_51 : decode cX0_from 51 = .ok (.iload_n 3, 1) := by decide +kernel
theorem dX0_from_52 : decode cX0_from 52 = .ok (.iload 4, 2) := by decide +kernel
theorem dX0_from_54 : decode cX0_from 54 = .ok (.iconst 1, 1) := by decide +kernel
theorem dX0_from_55 : decode cX0_from 55 = .ok (.iadd, 1) := by decide +kernel
theorem dX0_from_56 : decode cX0_from 56 = .ok (.invokevirtual 46, 3) := by decide +kernel
theorem dX0_from_59 : decode cX0_from 59 = .ok (.goto 4, 3) := by decide +kernel
theorem dX0_from_62 : decode cX0_from 62 = .ok (.iconst 0, 1) := by decide +kernel
theorem dX0_from_63 : decode cX0_from 63 = .ok (.ireturn, 1) := by decide +kernel
theorem dX0_from_64 : decode cX0_from 64 = .ok (.getstatic 29, 3) := by decide +kernel
theorem dX0_from_67 : decode cX0_from 67 = .ok (.iload 5, 2) := by decide +kernel
theorem dX0_from_69 : decode cX0_from 69 = .ok (.iaload, 1) := by decide +kernel
theorem dX0_from_70 : decode cX0_from 70 = .ok (.istore 5, 2) := by decide +kernel
theorem dX0_from_72 : decode cX0_from 72 = .ok (.iinc 6 1, 3) := by decide +kernel
theorem dX0_from_75 : decode cX0_from 75 = .ok (.goto (-69), 3) := by decide +kernel
theorem dX0_from_78 : decode cX0_from 78 = .ok (.iconst 0, 1) := by decide +kernel
theorem dX0_from_79 : decode cX0_from 79 = .ok (.ireturn, 1) := by decide +kernel
theorem dX0_run_0 : decode cX0_run 0 = .ok (.aload_n 0, 1) := by decide +kernel
theorem dX0_run_1 : decode cX0_run 1 = .ok (.getfield 20, 3) := by decide +kernel
theorem dX0_run_4 : decode cX0_run 4 = .ok (.bipush 24, 2) := by decide +kernel
theorem dX0_run_6 : decode cX0_run 6 = .ok (.if_icmp .ge 13, 3) := by decide +kernel
theorem dX0_run_9 : decode cX0_run 9 = .ok (.aload_n 0, 1) := by decide +kernel
theorem dX0_run_10 : decode cX0_run 10 = .ok (.getfield 9, 3) := by decide +kernel
theorem dX0_run_13 : decode cX0_run 13 = .ok (.aload_n 0, 1) := by decide +kernel
theorem dX0_run_14 : decode cX0_run 14 = .ok (.getfield 20, 3) := by decide +kernel
theorem dX0_run_17 : decode cX0_run 17 = .ok (.iload_n 1, 1) := by decide +kernel
theorem dX0_run_18 : decode cX0_run 18 = .ok (.iastore, 1) := by decide +kernel
theorem dX0_run_19 : decode cX0_run 19 = .ok (.aload_n 0, 1) := by decide +kernel
theorem dX0_run_20 : decode cX0_run 20 = .ok (.dup, 1) := by decide +kernel
theorem dX0_run_21 : decode cX0_run 21 = .ok (.getfield 20, 3) := by decide +kernel
theorem dX0_run_24 : decode cX0_run 24 = .ok (.iconst 1, 1) := by decide +kernel
theorem dX0_run_25 : decode cX0_run 25 = .ok (.iadd, 1) := by decide +kernel
theorem dX0_run_26 : decode cX0_run 26 = .ok (.putfield 20, 3) := by decide +kernel
theorem dX0_run_29 : decode cX0_run 29 = .ok (.iload_n 1, 1) := by decide +kernel
theorem dX0_run_30 : decode cX0_run 30 = .ok (.lookupswitch 278 #[(1, 114), (2, 121), (10, 139), (11, 150), (20, 157), (30, 169), (40, 180), (41, 192), (50, 204), (60, 216), (61, 235), (70, 247), (80, 259)], 114) := by decide +kernel
theorem dX0_run_144 : decode cX0_run 144 = .ok (.iload_n 3, 1) := by decide +kernel
theorem dX0_run_145 : decode cX0_run 145 = .ok (.aload_n 0, 1) := by decide +kernel
theorem dX0_run_146 : decode cX0_run 146 = .ok (.getfield 32, 3) := by decide +kernel
theorem dX0_run_149 : decode cX0_run 149 = .ok (.iadd, 1) := by decide +kernel
theorem dX0_run_150 : decode cX0_run 150 = .ok (.ireturn, 1) := by decide +kernel
theorem dX0_run_151 : decode cX0_run 151 = .ok (.aload_n 0, 1) := by decide +kernel
theorem dX0_run_152 : decode cX0_run 152 = .ok (.iconst 1, 1) := by decide +kernel
theorem dX0_run_153 : decode cX0_run 153 = .ok (.iload_n 3, 1) := by decide +kernel
theorem dX0_run_154 : decode cX0_run 154 = .ok (.iload 4, 2) := by decide +kernel
theorem dX0_run_156 : decode cX0_run 156 = .ok (.invokevirtual 35, 3) := by decide +kernel
theorem dX0_run_159 : decode cX0_run 159 = .ok (.aload_n 0, 1) := by decide +kernel
theorem dX0_run_160 : decode cX0_run 160 = .ok (.iconst 2, 1) := by decide +kernel
theorem dX0_run_161 : decode cX0_run 161 = .ok (.iconst 1, 1) := by decide +kernel
theorem dX0_run_162 : decode cX0_run 162 = .ok (.iload 4, 2) := by decide +kernel
theorem dX0_run_164 : decode cX0_run 164 = .ok (.invokevirtual 35, 3) := by decide +kernel
theorem dX0_run_167 : decode cX0_run 167 = .ok (.isub, 1) := by decide +kernel
theorem dX0_run_168 : decode cX0_run 168 = .ok (.ireturn, 1) := by decide +kernel
theorem dX0_run_169 : decode cX0_run 169 = .ok (.aload_n 0, 1) := by decide +kernel
theorem dX0_run_170 : decode cX0_run 170 = .ok (.iconst 0, 1) := by decide +kernel
theorem dX0_run_171 : decode cX0_run 171 = .ok (.iload_n 3, 1) := by decide +kernel
theorem dX0_run_172 : decode cX0_run 172 = .ok (.iload 4, 2) := by decide +kernel
theorem dX0_run_174 : decode cX0_run 174 = .ok (.invokevirtual 35, 3) := by decide +kernel
theorem dX0_run_177 : decode cX0_run 177 = .ok (.iconst 2, 1) := by decide +kernel
theorem dX0_run_178 : decode cX0_run 178 = .ok (.imul, 1) := by decide +kernel
theorem dX0_run_179 : decode cX0_run 179 = .ok (.ireturn, 1) := by decide +kernel
theorem dX0_run_180 : decode cX0_run 180 = .ok (.iload_n 3, 1) := by decide +kernel
theorem dX0_run_181 : decode cX0_run 181 = .ok (.aload_n 0, 1) := by decide +kernel
theorem dX0_run_182 : decode cX0_run 182 = .ok (.getfield 32, 3) := by decide +kernel
theorem dX0_run_185 : decode cX0_run 185 = .ok (.ixor, 1) := by decide +kernel
theorem dX0_run_186 : decode cX0_run 186 = .ok (.ireturn, 1) := by decide +kernel
theorem dX0_run_187 : decode cX0_run 187 = .ok (.aload_n 0, 1) := by decide +kernel
theorem dX0_run_188 : decode cX0_run 188 = .ok (.iload_n 2, 1) := by decide +kernel
theorem dX0_run_189 : decode cX0_run 189 = .ok (.iconst 0, 1) := by decide +kernel
theorem dX0_run_190 : decode cX0_run 190 = .ok (.iload_n 3, 1) := by decide +kernel
theorem dX0_run_191 : decode cX0_run 191 = .ok (.iload 4, 2) := by decide +kernel
theorem dX0_run_193 : decode cX0_run 193 = .ok (.invokevirtual 39, 3) := by decide +kernel
theorem dX0_run_196 : decode cX0_run 196 = .ok (.iconst 3, 1) := by decide +kernel
theorem dX0_run_197 : decode cX0_run 197 = .ok (.iadd, 1) := by decide +kernel
theorem dX0_run_198 : decode cX0_run 198 = .ok (.ireturn, 1) := by decide +kernel
theorem dX0_run_199 : decode cX0_run 199 = .ok (.aload_n 0, 1) := by decide +kernel
theorem dX0_run_200 : decode cX0_run 200 = .ok (.iload_n 2, 1) := by decide +kernel
theorem dX0_run_201 : decode cX0_run 201 = .ok (.iconst 1, 1) := by decide +kernel
theorem dX0_run_202 : decode cX0_run 202 = .ok (.iload_n 3, 1) := by decide +kernel
theorem dX0_run_203 : decode cX0_run 203 = .ok (.iload 4, 2) := by decide +kernel
theorem dX0_run_205 : decode cX0_run 205 = .ok (.invokevirtual 39, 3) := by decide +kernel
theorem dX0_run_208 : decode cX0_run 208 = .ok (.ineg, 1) := by decide +kernel
theorem dX0_run_209 : decode cX0_run 209 = .ok (.ireturn, 1) := by decide +kernel
theorem dX0_run_210 : decode cX0_run 210 = .ok (.aload_n 0, 1) := by decide +kernel
theorem dX0_run_211 : decode cX0_run 211 = .ok (.iload_n 2, 1) := by decide +kernel
theorem dX0_run_212 : decode cX0_run 212 = .ok (.iconst 2, 1) := by decide +kernel
theorem dX0_run_213 : decode cX0_run 213 = .ok (.iload_n 3, 1) := by decide +kernel
theorem dX0_run_214 : decode cX0_run 214 = .ok (.iload 4, 2) := by decide +kernel
theorem dX0_run_216 : decode cX0_run 216 = .ok (.invokevirtual 39, 3) := by decide +kernel
theorem dX0_run_219 : decode cX0_run 219 = .ok (.iconst 3, 1) := by decide +kernel
theorem dX0_run_220 : decode cX0_run 220 = .ok (.imul, 1) := by decide +kernel
theorem dX0_run_221 : decode cX0_run 221 = .ok (.ireturn, 1) := by decide +kernel
theorem dX0_run_222 : decode cX0_run 222 = .ok (.aload_n 0, 1) := by decide +kernel
theorem dX0_run_223 : decode cX0_run 223 = .ok (.iload_n 2, 1) := by decide +kernel
theorem dX0_run_224 : decode cX0_run 224 = .ok (.iconst 1, 1) := by decide +kernel
theorem dX0_run_225 : decode cX0_run 225 = .ok (.iload_n 3, 1) := by decide +kernel
theorem dX0_run_226 : decode cX0_run 226 = .ok (.iconst 1, 1) := by decide +kernel
theorem dX0_run_227 : decode cX0_run 227 = .ok (.iadd, 1) := by decide +kernel
theorem dX0_run_228 : decode cX0_run 228 = .ok (.iload 4, 2) := by decide +kernel
theorem dX0_run_230 : decode cX0_run 230 = .ok (.invokevirtual 39, 3) := by decide +kernel
theorem dX0_run_233 : decode cX0_run 233 = .ok (.ireturn, 1) := by decide +kernel
theorem dX0_run_234 : decode cX0_run 234 = .ok (.aload_n 0, 1) := by decide +kernel
theorem dX0_run_235 : decode cX0_run 235 = .ok (.iload_n 2, 1) := by decide +kernel
theorem dX0_run_236 : decode cX0_run 236 = .ok (.iconst 3, 1) := by decide +kernel
theorem dX0_run_237 : decode cX0_run 237 = .ok (.iload_n 3, 1) := by decide +kernel
theorem dX0_run_238 : decode cX0_run 238 = .ok (.iload 4, 2) := by decide +kernel
theorem dX0_run_240 : decode cX0_run 240 = .ok (.invokevirtual 39, 3) := by decide +kernel
theorem dX0_run_243 : decode cX0_run 243 = .ok (.iconst 5, 1) := by decide +kernel
theorem dX0_run_244 : decode cX0_run 244 = .ok (.ixor, 1) := by decide +kernel
theorem dX0_run_245 : decode cX0_run 245 = .ok (.ireturn, 1) := by decide +kernel
theorem dX0_run_246 : decode cX0_run 246 = .ok (.aload_n 0, 1) := by decide +kernel
theorem dX0_run_247 : decode cX0_run 247 = .ok (.iload_n 2, 1) := by decide +kernel
theorem dX0_run_248 : decode cX0_run 248 = .ok (.iconst 2, 1) := by decide +kernel
theorem dX0_run_249 : decode cX0_run 249 = .ok (.iload_n 3, 1) := by decide +kernel
theorem dX0_run_250 : decode cX0_run 250 = .ok (.iload 4, 2) := by decide +kernel
theorem dX0_run_252 : decode cX0_run 252 = .ok (.invokevirtual 39, 3) := by decide +kernel
theorem dX0_run_255 : decode cX0_run 255 = .ok (.aload_n 0, 1) := by decide +kernel
theorem dX0_run_256 : decode cX0_run 256 = .ok (.iconst 0, 1) := by decide +kernel
theorem dX0_run_257 : decode cX0_run 257 = .ok (.iconst 2, 1) := by decide +kernel
theorem dX0_run_258 : decode cX0_run 258 = .ok (.iload 4, 2) := by decide +kernel
theorem dX0_run_260 : decode cX0_run 260 = .ok (.invokevirtual 35, 3) := by decide +kernel
theorem dX0_run_263 : decode cX0_run 263 = .ok (.isub, 1) := by decide +kernel
theorem dX0_run_264 : decode cX0_run 264 = .ok (.ireturn, 1) := by decide +kernel
theorem dX0_run_265 : decode cX0_run 265 = .ok (.aload_n 0, 1) := by decide +kernel
theorem dX0_run_266 : decode cX0_run 266 = .ok (.iload_n 2, 1) := by decide +kernel
theorem dX0_run_267 : decode cX0_run 267 = .ok (.iconst 3, 1) := by decide +kernel
theorem dX0_run_268 : decode cX0_run 268 = .ok (.iload_n 3, 1) := by decide +kernel
theorem dX0_run_269 : decode cX0_run 269 = .ok (.iload 4, 2) := by decide +kernel
theorem dX0_run_271 : decode cX0_run 271 = .ok (.invokevirtual 39, 3) := by decide +kernel
theorem dX0_run_274 : decode cX0_run 274 = .ok (.iconst 1, 1) := by decide +kernel
theorem dX0_run_275 : decode cX0_run 275 = .ok (.iadd, 1) := by decide +kernel
theorem dX0_run_276 : decode cX0_run 276 = .ok (.ireturn, 1) := by decide +kernel
theorem dX0_run_277 : decode cX0_run 277 = .ok (.aload_n 0, 1) := by decide +kernel
theorem dX0_run_278 : decode cX0_run 278 = .ok (.iload_n 2, 1) := by decide +kernel
theorem dX0_run_279 : decode cX0_run 279 = .ok (.iconst 0, 1) := by decide +kernel
theorem dX0_run_280 : decode cX0_run 280 = .ok (.iload_n 3, 1) := by decide +kernel
theorem dX0_run_281 : decode cX0_run 281 = .ok (.iload 4, 2) := by decide +kernel
theorem dX0_run_283 : decode cX0_run 283 = .ok (.invokevirtual 39, 3) := by decide +kernel
theorem dX0_run_286 : decode cX0_run 286 = .ok (.iconst 2, 1) := by decide +kernel
theorem dX0_run_287 : decode cX0_run 287 = .ok (.imul, 1) := by decide +kernel
theorem dX0_run_288 : decode cX0_run 288 = .ok (.ireturn, 1) := by decide +kernel
theorem dX0_run_289 : decode cX0_run 289 = .ok (.aload_n 0, 1) := by decide +kernel
theorem dX0_run_290 : decode cX0_run 290 = .ok (.iload_n 2, 1) := by decide +kernel
theorem dX0_run_291 : decode cX0_run 291 = .ok (.iconst 1, 1) := by decide +kernel
theorem dX0_run_292 : decode cX0_run 292 = .ok (.iload_n 3, 1) := by decide +kernel
theorem dX0_run_293 : decode cX0_run 293 = .ok (.iload 4, 2) := by decide +kernel
theorem dX0_run_295 : decode cX0_run 295 = .ok (.invokevirtual 39, 3) := by decide +kernel
theorem dX0_run_298 : decode cX0_run 298 = .ok (.aload_n 0, 1) := by decide +kernel
theorem dX0_run_299 : decode cX0_run 299 = .ok (.iconst 2, 1) := by decide +kernel
theorem dX0_run_300 : decode cX0_run 300 = .ok (.iconst 2, 1) := by decide +kernel
theorem dX0_run_301 : decode cX0_run 301 = .ok (.iload 4, 2) := by decide +kernel
theorem dX0_run_303 : decode cX0_run 303 = .ok (.invokevirtual 35, 3) := by decide +kernel
theorem dX0_run_306 : decode cX0_run 306 = .ok (.iadd, 1) := by decide +kernel
theorem dX0_run_307 : decode cX0_run 307 = .ok (.ireturn, 1) := by decide +kernel
theorem dX0_run_308 : decode cX0_run 308 = .ok (.aload_n 0, 1) := by decide +kernel
theorem dX0_run_309 : decode cX0_run 309 = .ok (.iload_n 2, 1) := by decide +kernel
theorem dX0_run_310 : decode cX0_run 310 = .ok (.iconst 0, 1) := by decide +kernel
theorem dX0_run_311 : decode cX0_run 311 = .ok (.iload_n 3, 1) := by decide +kernel
theorem dX0_run_312 : decode cX0_run 312 = .ok (.iload 4, 2) := by decide +kernel
theorem dX0_run_314 : decode cX0_run 314 = .ok (.invokevirtual 39, 3) := by decide +kernel
theorem dX0_run_317 : decode cX0_run 317 = .ok (.iconst 1, 1) := by decide +kernel
theorem dX0_run_318 : decode cX0_run 318 = .ok (.isub, 1) := by decide +kernel
theorem dX0_run_319 : decode cX0_run 319 = .ok (.ireturn, 1) := by decide +kernel
theorem dX1_init_0 : decode cX1_init 0 = .ok (.aload_n 0, 1) := by decide +kernel
theorem dX1_init_1 : decode cX1_init 1 = .ok (.invokespecial 1, 3) := by decide +kernel
theorem dX1_init_4 : decode cX1_init 4 = .ok (.aload_n 0, 1) := by decide +kernel
theorem dX1_init_5 : decode cX1_init 5 = .ok (.bipush 40, 2) := by decide +kernel
theorem dX1_init_7 : decode cX1_init 7 = .ok (.newarray .int, 2) := by decide +kernel
theorem dX1_init_9 : decode cX1_init 9 = .ok (.putfield 9, 3) := by decide +kernel
theorem dX1_init_12 : decode cX1_init 12 = .ok (.aload_n 0, 1) := by decide +kernel
theorem dX1_init_13 : decode cX1_init 13 = .ok (.bipush 40, 2) := by decide +kernel
theorem dX1_init_15 : decode cX1_init 15 = .ok (.newarray .int, 2) := by decide +kernel
theorem dX1_init_17 : decode cX1_init 17 = .ok (.putfield 13, 3) := by decide +kernel
theorem dX1_init_20 : decode cX1_init 20 = .ok (.aload_n 0, 1) := by decide +kernel
theorem dX1_init_21 : decode cX1_init 21 = .ok (.bipush 40, 2) := by decide +kernel
theorem dX1_init_23 : decode cX1_init 23 = .ok (.newarray .int, 2) := by decide +kernel
theorem dX1_init_25 : decode cX1_init 25 = .ok (.putfield 16, 3) := by decide +kernel
theorem dX1_init_28 : decode cX1_init 28 = .ok (.aload_n 0, 1) := by decide +kernel
theorem dX1_init_29 : decode cX1_init 29 = .ok (.bipush 40, 2) := by decide +kernel
theorem dX1_init_31 : decode cX1_init 31 = .ok (.newarray .int, 2) := by decide +kernel
theorem dX1_init_33 : decode cX1_init 33 = .ok (.putfield 19, 3) := by decide +kernel
theorem dX1_init_36 : decode cX1_init 36 = .ok (.return_, 1) := by decide +kernel
theorem dX1_note_0 : decode cX1_note 0 = .ok (.aload_n 0, 1) := by decide +kernel
theorem dX1_note_1 : decode cX1_note 1 = .ok (.getfield 22, 3) := by decide +kernel
theorem dX1_note_4 : decode cX1_note 4 = .ok (.bipush 40, 2) := by decide +kernel
theorem dX1_note_6 : decode cX1_note 6 = .ok (.if_icmp .lt 7, 3) := by decide +kernel
theorem dX1_note_9 : decode cX1_note 9 = .ok (.aload_n 0, 1) := by decide +kernel
theorem dX1_note_10 : decode cX1_note 10 = .ok (.invokevirtual 26, 3) := by decide +kernel
theorem dX1_note_13 : decode cX1_note 13 = .ok (.aload_n 0, 1) := by decide +kernel
theorem dX1_note_14 : decode cX1_note 14 = .ok (.getfield 9, 3) := by decide +kernel
theorem dX1_note_17 : decode cX1_note 17 = .ok (.aload_n 0, 1) := by decide +kernel
theorem dX1_note_18 : decode cX1_note 18 = .ok (.getfield 22, 3) := by decide +kernel
theorem dX1_note_21 : decode cX1_note 21 = .ok (.iload_n 1, 1) := by decide +kernel
theorem dX1_note_22 : decode cX1_note 22 = .ok (.iastore, 1) := by decide +kernel
theorem dX1_note_23 : decode cX1_note 23 = .ok (.aload_n 0, 1) := by decide +kernel
theorem dX1_note_24 : decode cX1_note 24 = .ok (.getfield 13, 3) := by decide +kernel
theorem dX1_note_27 : decode cX1_note 27 = .ok (.aload_n 0, 1) := by decide +kernel
theorem dX1_note_28 : decode cX1_note 28 = .ok (.getfield 22, 3) := by decide +kernel
theorem dX1_note_31 : decode cX1_note 31 = .ok (.iload_n 2, 1) := by decide +kernel
theorem dX1_note_32 : decode cX1_note 32 = .ok (.iastore, 1) := by decide +kernel
theorem dX1_note_33 : decode cX1_note 33 = .ok (.aload_n 0, 1) := by decide +kernel
theorem dX1_note_34 : decode cX1_note 34 = .ok (.getfield 16, 3) := by decide +kernel
theorem dX1_note_37 : decode cX1_note 37 = .ok (.aload_n 0, 1) := by decide +kernel
theorem dX1_note_38 : decode cX1_note 38 = .ok (.getfield 22, 3) := by decide +kernel
theorem dX1_note_41 : decode cX1_note 41 = .ok (.iload_n 3, 1) := by decide +kernel
theorem dX1_note_42 : decode cX1_note 42 = .ok (.iastore, 1) := by decide +kernel
theorem dX1_note_43 : decode cX1_note 43 = .ok (.aload_n 0, 1) := by decide +kernel
theorem dX1_note_44 : decode cX1_note 44 = .ok (.getfield 19, 3) := by decide +kernel
theorem dX1_note_47 : decode cX1_note 47 = .ok (.aload_n 0, 1) := by decide +kernel
theorem dX1_note_48 : decode cX1_note 48 = .ok (.getfield 22, 3) := by decide +kernel
theorem dX1_note_51 : decode cX1_note 51 = .ok (.iload 4, 2) := by decide +kernel
theorem dX1_note_53 : decode cX1_note 53 = .ok (.iastore, 1) := by decide +kernel
theorem dX1_note_54 : decode cX1_note 54 = .ok (.aload_n 0, 1) := by decide +kernel
theorem dX1_note_55 : decode cX1_note 55 = .ok (.dup, 1) := by decide +kernel
theorem dX1_note_56 : decode cX1_note 56 = .ok (.getfield 22, 3) := by decide +kernel
theorem dX1_note_59 : decode cX1_note 59 = .ok (.iconst 1, 1) := by decide +kernel
theorem dX1_note_60 : decode cX1_note 60 = .ok (.iadd, 1) := by decide +kernel
theorem dX1_note_61 : decode cX1_note 61 = .ok (.putfield 22, 3) := by decide +kernel
theorem dX1_note_64 : decode cX1_note 64 = .ok (.aload_n 0, 1) := by decide +kernel
theorem dX1_note_65 : decode cX1_note 65 = .ok (.aload_n 0, 1) := by decide +kernel
theorem dX1_note_66 : decode cX1_note 66 = .ok (.getfield 22, 3) := by decide +kernel
theorem dX1_note_69 : decode cX1_note 69 = .ok (.putfield 29, 3) := by decide +kernel
theorem dX1_note_72 : decode cX1_note 72 = .ok (.return_, 1) := by decide +kernel
theorem dX1_dropFirst_0 : decode cX1_dropFirst 0 = .ok (.aload_n 0, 1) := by decide +kernel
theorem dX1_dropFirst_1 : decode cX1_dropFirst 1 = .ok (.getfield 9, 3) := by decide +kernel
theorem dX1_dropFirst_4 : decode cX1_dropFirst 4 = .ok (.iconst 1, 1) := by decide +kernel
theorem dX1_dropFirst_5 : decode cX1_dropFirst 5 = .ok (.aload_n 0, 1) := by decide +kernel
theorem dX1_dropFirst_6 : decode cX1_dropFirst 6 = .ok (.getfield 9, 3) := by decide +kernel
theorem dX1_dropFirst_9 : decode cX1_dropFirst 9 = .ok (.iconst 0, 1) := by decide +kernel
theorem dX1_dropFirst_10 : decode cX1_dropFirst 10 = .ok (.bipush 39, 2) := by decide +kernel
theorem dX1_dropFirst_12 : decode cX1_dropFirst 12 = .ok (.invokestatic 32, 3) := by decide +kernel
theorem dX1_dropFirst_15 : decode cX1_dropFirst 15 = .ok (.aload_n 0, 1) := by decide +kernel
theorem dX1_dropFirst_16 : decode cX1_dropFirst 16 = .ok (.getfield 13, 3) := by decide +kernel
theorem dX1_dropFirst_19 : decode cX1_dropFirst 19 = .ok (.iconst 1, 1) := by decide +kernel
theorem dX1_dropFirst_20 : decode cX1_dropFirst 20 = .ok (.aload_n 0, 1) := by decide +kernel
theorem dX1_dropFirst_21 : decode cX1_dropFirst 21 = .ok (.getfield 13, 3) := by decide +kernel
theorem dX1_dropFirst_24 : decode cX1_dropFirst 24 = .ok (.iconst 0, 1) := by decide +kernel
theorem dX1_dropFirst_25 : decode cX1_dropFirst 25 = .ok (.bipush 39, 2) := by decide +kernel
theorem dX1_dropFirst_27 : decode cX1_dropFirst 27 = .ok (.invokestatic 32, 3) := by decide +kernel
theorem dX1_dropFirst_30 : decode cX1_dropFirst 30 = .ok (.aload_n 0, 1) := by decide +kernel
theorem dX1_dropFirst_31 : decode cX1_dropFirst 31 = .ok (.getfield 16, 3) := by decide +kernel
theorem dX1_dropFirst_34 : decode cX1_dropFirst 34 = .ok (.iconst 1, 1) := by decide +kernel
theorem dX1_dropFirst_35 : decode cX1_dropFirst 35 = .ok (.aload_n 0, 1) := by decide +kernel
theorem dX1_dropFirst_36 : decode cX1_dropFirst 36 = .ok (.getfield 16, 3) := by decide +kernel
theorem dX1_dropFirst_39 : decode cX1_dropFirst 39 = .ok (.iconst 0, 1) := by decide +kernel
theorem dX1_dropFirst_40 : decode cX1_dropFirst 40 = .ok (.bipush 39, 2) := by decide +kernel
theorem dX1_dropFirst_42 : decode cX1_dropFirst 42 = .ok (.invokestatic 32, 3) := by decide +kernel
theorem dX1_dropFirst_45 : decode cX1_dropFirst 45 = .ok (.aload_n 0, 1) := by decide +kernel
theorem dX1_dropFirst_46 : decode cX1_dropFirst 46 = .ok (.getfield 19, 3) := by decide +kernel
theorem dX1_dropFirst_49 : decode cX1_dropFirst 49 = .ok (.iconst 1, 1) := by decide +kernel
theorem dX1_dropFirst_50 : decode cX1_dropFirst 50 = .ok (.aload_n 0, 1) := by decide +kernel
theorem dX1_dropFirst_51 : decode cX1_dropFirst 51 = .ok (.getfield 19, 3) := by decide +kernel
theorem dX1_dropFirst_54 : decode cX1_dropFirst 54 = .ok (.iconst 0, 1) := by decide +kernel
theorem dX1_dropFirst_55 : decode cX1_dropFirst 55 = .ok (.bipush 39, 2) := by decide +kernel
theorem dX1_dropFirst_57 : decode cX1_dropFirst 57 = .ok (.invokestatic 32, 3) := by decide +kernel
theorem dX1_dropFirst_60 : decode cX1_dropFirst 60 = .ok (.aload_n 0, 1) := by decide +kernel
theorem dX1_dropFirst_61 : decode cX1_dropFirst 61 = .ok (.bipush 39, 2) := by decide +kernel
theorem dX1_dropFirst_63 : decode cX1_dropFirst 63 = .ok (.putfield 22, 3) := by decide +kernel
theorem dX1_dropFirst_66 : decode cX1_dropFirst 66 = .ok (.return_, 1) := by decide +kernel
theorem dX1_takeBack_0 : decode cX1_takeBack 0 = .ok (.aload_n 0, 1) := by decide +kernel
theorem dX1_takeBack_1 : decode cX1_takeBack 1 = .ok (.getfield 22, 3) := by decide +kernel
theorem dX1_takeBack_4 : decode cX1_takeBack 4 = .ok (.ifCond .gt 4, 3) := by decide +kernel
theorem dX1_takeBack_7 : decode cX1_takeBack 7 = .ok (.return_, 1) := by decide +kernel
theorem dX1_takeBack_8 : decode cX1_takeBack 8 = .ok (.aload_n 0, 1) := by decide +kernel
theorem dX1_takeBack_9 : decode cX1_takeBack 9 = .ok (.dup, 1) := by decide +kernel
theorem dX1_takeBack_10 : decode cX1_takeBack 10 = .ok (.getfield 22, 3) := by decide +kernel
theorem dX1_takeBack_13 : decode cX1_takeBack 13 = .ok (.iconst 1, 1) := by decide +kernel
theorem dX1_takeBack_14 : decode cX1_takeBack 14 = .ok (.isub, 1) := by decide +kernel
theorem dX1_takeBack_15 : decode cX1_takeBack 15 = .ok (.putfield 22, 3) := by decide +kernel
theorem dX1_takeBack_18 : decode cX1_takeBack 18 = .ok (.aload_n 1, 1) := by decide +kernel
theorem dX1_takeBack_19 : decode cX1_takeBack 19 = .ok (.aload_n 0, 1) := by decide +kernel
theorem dX1_takeBack_20 : decode cX1_takeBack 20 = .ok (.getfield 9, 3) := by decide +kernel
theorem dX1_takeBack_23 : decode cX1_takeBack 23 = .ok (.aload_n 0, 1) := by decide +kernel
theorem dX1_takeBack_24 : decode cX1_takeBack 24 = .ok (.getfield 22, 3) := by decide +kernel
theorem dX1_takeBack_27 : decode cX1_takeBack 27 = .ok (.iaload, 1) := by decide +kernel
theorem dX1_takeBack_28 : decode cX1_takeBack 28 = .ok (.aload_n 0, 1) := by decide +kernel
theorem dX1_takeBack_29 : decode cX1_takeBack 29 = .ok (.getfield 13, 3) := by decide +kernel
theorem dX1_takeBack_32 : decode cX1_takeBack 32 = .ok (.aload_n 0, 1) := by decide +kernel
theorem dX1_takeBack_33 : decode cX1_takeBack 33 = .ok (.getfield 22, 3) := by decide +kernel
theorem dX1_takeBack_36 : decode cX1_takeBack 36 = .ok (.iaload, 1) := by decide +kernel
theorem dX1_takeBack_37 : decode cX1_takeBack 37 = .ok (.aload_n 0, 1) := by decide +kernel
theorem dX1_takeBack_38 : decode cX1_takeBack 38 = .ok (.getfield 16, 3) := by decide +kernel
theorem dX1_takeBack_41 : decode cX1_takeBack 41 = .ok (.aload_n 0, 1) := by decide +kernel
theorem dX1_takeBack_42 : decode cX1_takeBack 42 = .ok (.getfield 22, 3) := by decide +kernel
theorem dX1_takeBack_45 : decode cX1_takeBack 45 = .ok (.iaload, 1) := by decide +kernel
theorem dX1_takeBack_46 : decode cX1_takeBack 46 = .ok (.invokevirtual 38, 3) := by decide +kernel
theorem dX1_takeBack_49 : decode cX1_takeBack 49 = .ok (.return_, 1) := by decide +kernel
theorem dX1_doAgain_0 : decode cX1_doAgain 0 = .ok (.aload_n 0, 1) := by decide +kernel
theorem dX1_doAgain_1 : decode cX1_doAgain 1 = .ok (.getfield 22, 3) := by decide +kernel
theorem dX1_doAgain_4 : decode cX1_doAgain 4 = .ok (.aload_n 0, 1) := by decide +kernel
theorem dX1_doAgain_5 : decode cX1_doAgain 5 = .ok (.getfield 29, 3) := by decide +kernel
theorem dX1_doAgain_8 : decode cX1_doAgain 8 = .ok (.if_icmp .lt 4, 3) := by decide +kernel
theorem dX1_doAgain_11 : decode cX1_doAgain 11 = .ok (.return_, 1) := by decide +kernel
theorem dX1_doAgain_12 : decode cX1_doAgain 12 = .ok (.aload_n 1, 1) := by decide +kernel
theorem dX1_doAgain_13 : decode cX1_doAgain 13 = .ok (.aload_n 0, 1) := by decide +kernel
theorem dX1_doAgain_14 : decode cX1_doAgain 14 = .ok (.getfield 9, 3) := by decide +kernel
theorem dX1_doAgain_17 : decode cX1_doAgain 17 = .ok (.aload_n 0, 1) := by decide +kernel
theorem dX1_doAgain_18 : decode cX1_doAgain 18 = .ok (.getfield 22, 3) := by decide +kernel
theorem dX1_doAgain_21 : decode cX1_doAgain 21 = .ok (.iaload, 1) := by decide +kernel
theorem dX1_doAgain_22 : decode cX1_doAgain 22 = .ok (.aload_n 0, 1) := by decide +kernel
theorem dX1_doAgain_23 : decode cX1_doAgain 23 = .ok (.getfield 13, 3) := by decide +kernel
theorem dX1_doAgain_26 : decode cX1_doAgain 26 = .ok (.aload_n 0, 1) := by decide +kernel
theorem dX1_doAgain_27 : decode cX1_doAgain 27 = .ok (.getfield 22, 3) := by decide +kernel
theorem dX1_doAgain_30 : decode cX1_doAgain 30 = .ok (.iaload, 1) := by decide +kernel
theorem dX1_doAgain_31 : decode cX1_doAgain 31 = .ok (.aload_n 0, 1) := by decide +kernel
theorem dX1_doAgain_32 : decode cX1_doAgain 32 = .ok (.getfield 19, 3) := by decide +kernel
theorem dX1_doAgain_35 : decode cX1_doAgain 35 = .ok (.aload_n 0, 1) := by decide +kernel
theorem dX1_doAgain_36 : decode cX1_doAgain 36 = .ok (.getfield 22, 3) := by decide +kernel
theorem dX1_doAgain_39 : decode cX1_doAgain 39 = .ok (.iaload, 1) := by decide +kernel
theorem dX1_doAgain_40 : decode cX1_doAgain 40 = .ok (.invokevirtual 38, 3) := by decide +kernel
theorem dX1_doAgain_43 : decode cX1_doAgain 43 = .ok (.aload_n 0, 1) := by decide +kernel
theorem dX1_doAgain_44 : decode cX1_doAgain 44 = .ok (.dup, 1) := by decide +kernel
theorem dX1_doAgain_45 : decode cX1_doAgain 45 = .ok (.getfield 22, 3) := by decide +kernel
theorem dX1_doAgain_48 : decode cX1_doAgain 48 = .ok (.iconst 1, 1) := by decide +kernel
theorem dX1_doAgain_49 : decode cX1_doAgain 49 = .ok (.iadd, 1) := by decide +kernel
theorem dX1_doAgain_50 : decode cX1_doAgain 50 = .ok (.putfield 22, 3) := by decide +kernel
theorem dX1_doAgain_53 : decode cX1_doAgain 53 = .ok (.return_, 1) := by decide +kernel
theorem dX2_init_0 : decode cX2_init 0 = .ok (.aload_n 0, 1) := by decide +kernel
theorem dX2_init_1 : decode cX2_init 1 = .ok (.invokespecial 1, 3) := by decide +kernel
theorem dX2_init_4 : decode cX2_init 4 = .ok (.aload_n 0, 1) := by decide +kernel
theorem dX2_init_5 : decode cX2_init 5 = .ok (.aload_n 1, 1) := by decide +kernel
theorem dX2_init_6 : decode cX2_init 6 = .ok (.putfield 7, 3) := by decide +kernel
theorem dX2_init_9 : decode cX2_init 9 = .ok (.aload_n 0, 1) := by decide +kernel
theorem dX2_init_10 : decode cX2_init 10 = .ok (.aload_n 2, 1) := by decide +kernel
theorem dX2_init_11 : decode cX2_init 11 = .ok (.putfield 13, 3) := by decide +kernel
theorem dX2_init_14 : decode cX2_init 14 = .ok (.aload_n 0, 1) := by decide +kernel
theorem dX2_init_15 : decode cX2_init 15 = .ok (.iconst 2, 1) := by decide +kernel
theorem dX2_init_16 : decode cX2_init 16 = .ok (.anewarray 17, 3) := by decide +kernel
theorem dX2_init_19 : decode cX2_init 19 = .ok (.dup, 1) := by decide +kernel
theorem dX2_init_20 : decode cX2_init 20 = .ok (.iconst 0, 1) := by decide +kernel
theorem dX2_init_21 : decode cX2_init 21 = .ok (.new 17, 3) := by decide +kernel
theorem dX2_init_24 : decode cX2_init 24 = .ok (.dup, 1) := by decide +kernel
theorem dX2_init_25 : decode cX2_init 25 = .ok (.invokespecial 19, 3) := by decide +kernel
theorem dX2_init_28 : decode cX2_init 28 = .ok (.aastore, 1) := by decide +kernel
theorem dX2_init_29 : decode cX2_init 29 = .ok (.dup, 1) := by decide +kernel
theorem dX2_init_30 : decode cX2_init 30 = .ok (.iconst 1, 1) := by decide +kernel
theorem dX2_init_31 : decode cX2_init 31 = .ok (.new 17, 3) := by decide +kernel
theorem dX2_init_34 : decode cX2_init 34 = .ok (.dup, 1) := by decide +kernel
theorem dX2_init_35 : decode cX2_init 35 = .ok (.invokespecial 19, 3) := by decide +kernel
theorem dX2_init_38 : decode cX2_init 38 = .ok (.aastore, 1) := by decide +kernel
theorem dX2_init_39 : decode cX2_init 39 = .ok (.putfield 20, 3) := by decide +kernel
theorem dX2_init_42 : decode cX2_init 42 = .ok (.aload_n 0, 1) := by decide +kernel
theorem dX2_init_43 : decode cX2_init 43 = .ok (.iconst 2, 1) := by decide +kernel
theorem dX2_init_44 : decode cX2_init 44 = .ok (.iconst 5, 1) := by decide +kernel
theorem dX2_init_45 : decode cX2_init 45 = .ok (.multianewarray 26 2, 4) := by decide +kernel
theorem dX2_init_49 : decode cX2_init 49 = .ok (.putfield 28, 3) := by decide +kernel
theorem dX2_init_52 : decode cX2_init 52 = .ok (.return_, 1) := by decide +kernel
theorem dX2_go_0 : decode cX2_go 0 = .ok (.aload_n 0, 1) := by decide +kernel
theorem dX2_go_1 : decode cX2_go 1 = .ok (.getfield 7, 3) := by decide +kernel
theorem dX2_go_4 : decode cX2_go 4 = .ok (.invokevirtual 31, 3) := by decide +kernel
theorem dX2_go_7 : decode cX2_go 7 = .ok (.iconst 0, 1) := by decide +kernel
theorem dX2_go_8 : decode cX2_go 8 = .ok (.istore_n 2, 1) := by decide +kernel
theorem dX2_go_9 : decode cX2_go 9 = .ok (.iload_n 2, 1) := by decide +kernel
theorem dX2_go_10 : decode cX2_go 10 = .ok (.iconst 2, 1) := by decide +kernel
theorem dX2_go_11 : decode cX2_go 11 = .ok (.if_icmp .ge 54, 3) := by decide +kernel
theorem dX2_go_14 : decode cX2_go 14 = .ok (.aload_n 0, 1) := by decide +kernel
theorem dX2_go_15 : decode cX2_go 15 = .ok (.getfield 20, 3) := by decide +kernel
theorem dX2_go_18 : decode cX2_go 18 = .ok (.iload_n 2, 1) := by decide +kernel
theorem dX2_go_19 : decode cX2_go 19 = .ok (.aaload, 1) := by decide +kernel
theorem dX2_go_20 : decode cX2_go 20 = .ok (.getfield 34, 3) := by decide +kernel
theorem dX2_go_23 : decode cX2_go 23 = .ok (.iconst 0, 1) := by decide +kernel
theorem dX2_go_24 : decode cX2_go 24 = .ok (.invokestatic 38, 3) := by decide +kernel
theorem dX2_go_27 : decode cX2_go 27 = .ok (.iconst 0, 1) := by decide +kernel
theorem dX2_go_28 : decode cX2_go 28 = .ok (.istore_n 3, 1) := by decide +kernel
theorem dX2_go_29 : decode cX2_go 29 = .ok (.iload_n 3, 1) := by decide +kernel
theorem dX2_go_30 : decode cX2_go 30 = .ok (.iconst 5, 1) := by decide +kernel
theorem dX2_go_31 : decode cX2_go 31 = .ok (.if_icmp .ge 28, 3) := by decide +kernel
theorem dX2_go_34 : decode cX2_go 34 = .ok (.aload_n 0, 1) := by decide +kernel
theorem dX2_go_35 : decode cX2_go 35 = .ok (.getfield 28, 3) := by decide +kernel
theorem dX2_go_38 : decode cX2_go 38 = .ok (.iload_n 2, 1) := by decide +kernel
theorem dX2_go_39 : decode cX2_go 39 = .ok (.aaload, 1) := by decide +kernel
theorem dX2_go_40 : decode cX2_go 40 = .ok (.iload_n 3, 1) := by decide +kernel
theorem dX2_go_41 : decode cX2_go 41 = .ok (.aload_n 0, 1) := by decide +kernel
theorem dX2_go_42 : decode cX2_go 42 = .ok (.getfield 13, 3) := by decide +kernel
theorem dX2_go_45 : decode cX2_go 45 = .ok (.iload_n 2, 1) := by decide +kernel
theorem dX2_go_46 : decode cX2_go 46 = .ok (.aaload, 1) := by decide +kernel
theorem dX2_go_47 : decode cX2_go 47 = .ok (.iconst 0, 1) := by decide +kernel
theorem dX2_go_48 : decode cX2_go 48 = .ok (.iload_n 3, 1) := by decide +kernel
theorem dX2_go_49 : decode cX2_go 49 = .ok (.invokevirtual 44, 3) := by decide +kernel
theorem dX2_go_52 : decode cX2_go 52 = .ok (.iastore, 1) := by decide +kernel
theorem dX2_go_53 : decode cX2_go 53 = .ok (.iinc 3 1, 3) := by decide +kernel
theorem dX2_go_56 : decode cX2_go 56 = .ok (.goto (-27), 3) := by decide +kernel
theorem dX2_go_59 : decode cX2_go 59 = .ok (.iinc 2 1, 3) := by decide +kernel
theorem dX2_go_62 : decode cX2_go 62 = .ok (.goto (-53), 3) := by decide +kernel
theorem dX2_go_65 : decode cX2_go 65 = .ok (.aload_n 0, 1) := by decide +kernel
theorem dX2_go_66 : decode cX2_go 66 = .ok (.getfield 7, 3) := by decide +kernel
theorem dX2_go_69 : decode cX2_go 69 = .ok (.aload_n 0, 1) := by decide +kernel
theorem dX2_go_70 : decode cX2_go 70 = .ok (.getfield 28, 3) := by decide +kernel
theorem dX2_go_73 : decode cX2_go 73 = .ok (.iconst 0, 1) := by decide +kernel
theorem dX2_go_74 : decode cX2_go 74 = .ok (.aaload, 1) := by decide +kernel
theorem dX2_go_75 : decode cX2_go 75 = .ok (.aload_n 0, 1) := by decide +kernel
theorem dX2_go_76 : decode cX2_go 76 = .ok (.getfield 28, 3) := by decide +kernel
theorem dX2_go_79 : decode cX2_go 79 = .ok (.iconst 1, 1) := by decide +kernel
theorem dX2_go_80 : decode cX2_go 80 = .ok (.aaload, 1) := by decide +kernel
theorem dX2_go_81 : decode cX2_go 81 = .ok (.invokevirtual 50, 3) := by decide +kernel
theorem dX2_go_84 : decode cX2_go 84 = .ok (.istore_n 2, 1) := by decide +kernel
theorem dX2_go_85 : decode cX2_go 85 = .ok (.iconst 1, 1) := by decide +kernel
theorem dX2_go_86 : decode cX2_go 86 = .ok (.istore_n 3, 1) := by decide +kernel
theorem dX2_go_87 : decode cX2_go 87 = .ok (.iload_n 3, 1) := by decide +kernel
theorem dX2_go_88 : decode cX2_go 88 = .ok (.iload_n 1, 1) := by decide +kernel
theorem dX2_go_89 : decode cX2_go 89 = .ok (.if_icmp .gt 45, 3) := by decide +kernel
theorem dX2_go_92 : decode cX2_go 92 = .ok (.aload_n 0, 1) := by decide +kernel
theorem dX2_go_93 : decode cX2_go 93 = .ok (.invokevirtual 54, 3) := by decide +kernel
theorem dX2_go_96 : decode cX2_go 96 = .ok (.aload_n 0, 1) := by decide +kernel
theorem dX2_go_97 : decode cX2_go 97 = .ok (.iconst 0, 1) := by decide +kernel
theorem dX2_go_98 : decode cX2_go 98 = .ok (.invokevirtual 57, 3) := by decide +kernel
theorem dX2_go_101 : decode cX2_go 101 = .ok (.aload_n 0, 1) := by decide +kernel
theorem dX2_go_102 : decode cX2_go 102 = .ok (.iconst 1, 1) := by decide +kernel
theorem dX2_go_103 : decode cX2_go 103 = .ok (.invokevirtual 57, 3) := by decide +kernel
theorem dX2_go_106 : decode cX2_go 106 = .ok (.iload_n 2, 1) := by decide +kernel
theorem dX2_go_107 : decode cX2_go 107 = .ok (.aload_n 0, 1) := by decide +kernel
theorem dX2_go_108 : decode cX2_go 108 = .ok (.getfield 7, 3) := by decide +kernel
theorem dX2_go_111 : decode cX2_go 111 = .ok (.aload_n 0, 1) := by decide +kernel
theorem dX2_go_112 : decode cX2_go 112 = .ok (.getfield 28, 3) := by decide +kernel
theorem dX2_go_115 : decode cX2_go 115 = .ok (.iconst 0, 1) := by decide +kernel
theorem dX2_go_116 : decode cX2_go 116 = .ok (.aaload, 1) := by decide +kernel
theorem dX2_go_117 : decode cX2_go 117 = .ok (.aload_n 0, 1) := by decide +kernel
theorem dX2_go_118 : decode cX2_go 118 = .ok (.getfield 28, 3) := by decide +kernel
theorem dX2_go_121 : decode cX2_go 121 = .ok (.iconst 1, 1) := by decide +kernel
theorem dX2_go_122 : decode cX2_go 122 = .ok (.aaload, 1) := by decide +kernel
theorem dX2_go_123 : decode cX2_go 123 = .ok (.invokevirtual 50, 3) := by decide +kernel
theorem dX2_go_126 : decode cX2_go 126 = .ok (.iadd, 1) := by decide +kernel
theorem dX2_go_127 : decode cX2_go 127 = .ok (.istore_n 2, 1) := by decide +kernel
theorem dX2_go_128 : decode cX2_go 128 = .ok (.iinc 3 1, 3) := by decide +kernel
theorem dX2_go_131 : decode cX2_go 131 = .ok (.goto (-44), 3) := by decide +kernel
theorem dX2_go_134 : decode cX2_go 134 = .ok (.iload_n 2, 1) := by decide +kernel
theorem dX2_go_135 : decode cX2_go 135 = .ok (.ireturn, 1) := by decide +kernel
theorem dX2_learnSent_0 : decode cX2_learnSent 0 = .ok (.iconst 0, 1) := by decide +kernel
theorem dX2_learnSent_1 : decode cX2_learnSent 1 = .ok (.istore_n 1, 1) := by decide +kernel
theorem dX2_learnSent_2 : decode cX2_learnSent 2 = .ok (.iload_n 1, 1) := by decide +kernel
theorem dX2_learnSent_3 : decode cX2_learnSent 3 = .ok (.aload_n 0, 1) := by decide +kernel
theorem dX2_learnSent_4 : decode cX2_learnSent 4 = .ok (.getfield 7, 3) := by decide +kernel
theorem dX2_learnSent_7 : decode cX2_learnSent 7 = .ok (.getfield 61, 3) := by decide +kernel
theorem dX2_learnSent_10 : decode cX2_learnSent 10 = .ok (.if_icmp .ge 113, 3) := by decide +kernel
theorem dX2_learnSent_13 : decode cX2_learnSent 13 = .ok (.iconst 0, 1) := by decide +kernel
theorem dX2_learnSent_14 : decode cX2_learnSent 14 = .ok (.istore_n 2, 1) := by decide +kernel
theorem dX2_learnSent_15 : decode cX2_learnSent 15 = .ok (.iload_n 2, 1) := by decide +kernel
theorem dX2_learnSent_16 : decode cX2_learnSent 16 = .ok (.bipush 9, 2) := by decide +kernel
theorem dX2_learnSent_18 : decode cX2_learnSent 18 = .ok (.if_icmp .gt 99, 3) := by decide +kernel
theorem dX2_learnSent_21 : decode cX2_learnSent 21 = .ok (.aload_n 0, 1) := by decide +kernel
theorem dX2_learnSent_22 : decode cX2_learnSent 22 = .ok (.getfield 20, 3) := by decide +kernel
theorem dX2_learnSent_25 : decode cX2_learnSent 25 = .ok (.iconst 0, 1) := by decide +kernel
theorem dX2_learnSent_26 : decode cX2_learnSent 26 = .ok (.aaload, 1) := by decide +kernel
theorem dX2_learnSent_27 : decode cX2_learnSent 27 = .ok (.getfield 34, 3) := by decide +kernel
theorem dX2_learnSent_30 : decode cX2_learnSent 30 = .ok (.iload_n 1, 1) := by decide +kernel
theorem dX2_learnSent_31 : decode cX2_learnSent 31 = .ok (.bipush 10, 2) := by decide +kernel
theorem dX2_learnSent_33 : decode cX2_learnSent 33 = .ok (.imul, 1) := by decide +kernel
theorem dX2_learnSent_34 : decode cX2_learnSent 34 = .ok (.iload_n 2, 1) := by decide +kernel
theorem dX2_learnSent_35 : decode cX2_learnSent 35 = .ok (.iadd, 1) := by decide +kernel
theorem dX2_learnSent_36 : decode cX2_learnSent 36 = .ok (.dup2, 1) := by decide +kernel
theorem dX2_learnSent_37 : decode cX2_learnSent 37 = .ok (.iaload, 1) := by decide +kernel
theorem dX2_learnSent_38 : decode cX2_learnSent 38 = .ok (.aload_n 0, 1) := by decide +kernel
theorem dX2_learnSent_39 : decode cX2_learnSent 39 = .ok (.getfield 7, 3) := by decide +kernel
theorem dX2_learnSent_42 : decode cX2_learnSent 42 = .ok (.getfield 65, 3) := by decide +kernel
theorem dX2_learnSent_45 : decode cX2_learnSent 45 = .ok (.iload_n 1, 1) := by decide +kernel
theorem dX2_learnSent_46 : decode cX2_learnSent 46 = .ok (.bipush 100, 2) := by decide +kernel
theorem dX2_learnSent_48 : decode cX2_learnSent 48 = .ok (.imul, 1) := by decide +kernel
theorem dX2_learnSent_49 : decode cX2_learnSent 49 = .ok (.iload_n 2, 1) := by decide +kernel
theorem dX2_learnSent_50 : decode cX2_learnSent 50 = .ok (.bipush 10, 2) := by decide +kernel
theorem dX2_learnSent_52 : decode cX2_learnSent 52 = .ok (.imul, 1) := by decide +kernel
theorem dX2_learnSent_53 : decode cX2_learnSent 53 = .ok (.iadd, 1) := by decide +kernel
theorem dX2_learnSent_54 : decode cX2_learnSent 54 = .ok (.aload_n 0, 1) := by decide +kernel
theorem dX2_learnSent_55 : decode cX2_learnSent 55 = .ok (.getfield 28, 3) := by decide +kernel
theorem dX2_learnSent_58 : decode cX2_learnSent 58 = .ok (.iconst 1, 1) := by decide +kernel
theorem dX2_learnSent_59 : decode cX2_learnSent 59 = .ok (.aaload, 1) := by decide +kernel
theorem dX2_learnSent_60 : decode cX2_learnSent 60 = .ok (.iload_n 1, 1) := by decide +kernel
theorem dX2_learnSent_61 : decode cX2_learnSent 61 = .ok (.iaload, 1) := by decide +kernel
theorem dX2_learnSent_62 : decode cX2_learnSent 62 = .ok (.iadd, 1) := by decide +kernel
theorem dX2_learnSent_63 : decode cX2_learnSent 63 = .ok (.iaload, 1) := by decide +kernel
theorem dX2_learnSent_64 : decode cX2_learnSent 64 = .ok (.iadd, 1) := by decide +kernel
theorem dX2_learnSent_65 : decode cX2_learnSent 65 = .ok (.iastore, 1) := by decide +kernel
theorem dX2_learnSent_66 : decode cX2_learnSent 66 = .ok (.aload_n 0, 1) := by decide +kernel
theorem dX2_learnSent_67 : decode cX2_learnSent 67 = .ok (.getfield 20, 3) := by decide +kernel
theorem dX2_learnSent_70 : decode cX2_learnSent 70 = .ok (.iconst 1, 1) := by decide +kernel
theorem dX2_learnSent_71 : decode cX2_learnSent 71 = .ok (.aaload, 1) := by decide +kernel
theorem dX2_learnSent_72 : decode cX2_learnSent 72 = .ok (.getfield 34, 3) := by decide +kernel
theorem dX2_learnSent_75 : decode cX2_learnSent 75 = .ok (.iload_n 1, 1) := by decide +kernel
theorem dX2_learnSent_76 : decode cX2_learnSent 76 = .ok (.bipush 10, 2) := by decide +kernel
theorem dX2_learnSent_78 : decode cX2_learnSent 78 = .ok (.imul, 1) := by decide +kernel
theorem dX2_learnSent_79 : decode cX2_learnSent 79 = .ok (.iload_n 2, 1) := by decide +kernel
theorem dX2_learnSent_80 : decode cX2_learnSent 80 = .ok (.iadd, 1) := by decide +kernel
theorem dX2_learnSent_81 : decode cX2_learnSent 81 = .ok (.dup2, 1) := by decide +kernel
theorem dX2_learnSent_82 : decode cX2_learnSent 82 = .ok (.iaload, 1) := by decide +kernel
theorem dX2_learnSent_83 : decode cX2_learnSent 83 = .ok (.aload_n 0, 1) := by decide +kernel
theorem dX2_learnSent_84 : decode cX2_learnSent 84 = .ok (.getfield 7, 3) := by decide +kernel
theorem dX2_learnSent_87 : decode cX2_learnSent 87 = .ok (.getfield 65, 3) := by decide +kernel
theorem dX2_learnSent_90 : decode cX2_learnSent 90 = .ok (.iload_n 1, 1) := by decide +kernel
theorem dX2_learnSent_91 : decode cX2_learnSent 91 = .ok (.bipush 100, 2) := by decide +kernel
theorem dX2_learnSent_93 : decode cX2_learnSent 93 = .ok (.imul, 1) := by decide +kernel
theorem dX2_learnSent_94 : decode cX2_learnSent 94 = .ok (.aload_n 0, 1) := by decide +kernel
theorem dX2_learnSent_95 : decode cX2_learnSent 95 = .ok (.getfield 28, 3) := by decide +kernel
theorem dX2_learnSent_98 : decode cX2_learnSent 98 = .ok (.iconst 0, 1) := by decide +kernel
theorem dX2_learnSent_99 : decode cX2_learnSent 99 = .ok (.aaload, 1) := by decide +kernel
theorem dX2_learnSent_100 : decode cX2_learnSent 100 = .ok (.iload_n 1, 1) := by decide +kernel
theorem dX2_learnSent_101 : decode cX2_learnSent 101 = .ok (.iaload, 1) := by decide +kernel
theorem dX2_learnSent_102 : decode cX2_learnSent 102 = .ok (.bipush 10, 2) := by decide +kernel
theorem dX2_learnSent_104 : decode cX2_learnSent 104 = .ok (.imul, 1) := by decide +kernel
theorem dX2_learnSent_105 : decode cX2_learnSent 105 = .ok (.iadd, 1) := by decide +kernel
theorem dX2_learnSent_106 : decode cX2_learnSent 106 = .ok (.iload_n 2, 1) := by decide +kernel
theorem dX2_learnSent_107 : decode cX2_learnSent 107 = .ok (.iadd, 1) := by decide +kernel
theorem dX2_learnSent_108 : decode cX2_learnSent 108 = .ok (.iaload, 1) := by decide +kernel
theorem dX2_learnSent_109 : decode cX2_learnSent 109 = .ok (.isub, 1) := by decide +kernel
theorem dX2_learnSent_110 : decode cX2_learnSent 110 = .ok (.iastore, 1) := by decide +kernel
theorem dX2_learnSent_111 : decode cX2_learnSent 111 = .ok (.iinc 2 1, 3) := by decide +kernel
theorem dX2_learnSent_114 : decode cX2_learnSent 114 = .ok (.goto (-99), 3) := by decide +kernel
theorem dX2_learnSent_117 : decode cX2_learnSent 117 = .ok (.iinc 1 1, 3) := by decide +kernel
theorem dX2_learnSent_120 : decode cX2_learnSent 120 = .ok (.goto (-118), 3) := by decide +kernel
theorem dX2_learnSent_123 : decode cX2_learnSent 123 = .ok (.return_, 1) := by decide +kernel
theorem dX2_sendBest_0 : decode cX2_sendBest 0 = .ok (.aload_n 0, 1) := by decide +kernel
theorem dX2_sendBest_1 : decode cX2_sendBest 1 = .ok (.getfield 20, 3) := by decide +kernel
theorem dX2_sendBest_4 : decode cX2_sendBest 4 = .ok (.iload_n 1, 1) := by decide +kernel
theorem dX2_sendBest_5 : decode cX2_sendBest 5 = .ok (.aaload, 1) := by decide +kernel
theorem dX2_sendBest_6 : decode cX2_sendBest 6 = .ok (.aload_n 0, 1) := by decide +kernel
theorem dX2_sendBest_7 : decode cX2_sendBest 7 = .ok (.getfield 7, 3) := by decide +kernel
theorem dX2_sendBest_10 : decode cX2_sendBest 10 = .ok (.getfield 61, 3) := by decide +kernel
theorem dX2_sendBest_13 : decode cX2_sendBest 13 = .ok (.aload_n 0, 1) := by decide +kernel
theorem dX2_sendBest_14 : decode cX2_sendBest 14 = .ok (.getfield 7, 3) := by decide +kernel
theorem dX2_sendBest_17 : decode cX2_sendBest 17 = .ok (.getfield 68, 3) := by decide +kernel
theorem dX2_sendBest_20 : decode cX2_sendBest 20 = .ok (.iload_n 1, 1) := by decide +kernel
theorem dX2_sendBest_21 : decode cX2_sendBest 21 = .ok (.iaload, 1) := by decide +kernel
theorem dX2_sendBest_22 : decode cX2_sendBest 22 = .ok (.iconst 0, 1) := by decide +kernel
theorem dX2_sendBest_23 : decode cX2_sendBest 23 = .ok (.invokevirtual 71, 3) := by decide +kernel
theorem dX2_sendBest_26 : decode cX2_sendBest 26 = .ok (.pop, 1) := by decide +kernel
theorem dX2_sendBest_27 : decode cX2_sendBest 27 = .ok (.aload_n 0, 1) := by decide +kernel
theorem dX2_sendBest_28 : decode cX2_sendBest 28 = .ok (.getfield 20, 3) := by decide +kernel
theorem dX2_sendBest_31 : decode cX2_sendBest 31 = .ok (.iload_n 1, 1) := by decide +kernel
theorem dX2_sendBest_32 : decode cX2_sendBest 32 = .ok (.aaload, 1) := by decide +kernel
theorem dX2_sendBest_33 : decode cX2_sendBest 33 = .ok (.aload_n 0, 1) := by decide +kernel
theorem dX2_sendBest_34 : decode cX2_sendBest 34 = .ok (.getfield 7, 3) := by decide +kernel
theorem dX2_sendBest_37 : decode cX2_sendBest 37 = .ok (.getfield 61, 3) := by decide +kernel
theorem dX2_sendBest_40 : decode cX2_sendBest 40 = .ok (.aload_n 0, 1) := by decide +kernel
theorem dX2_sendBest_41 : decode cX2_sendBest 41 = .ok (.getfield 7, 3) := by decide +kernel
theorem dX2_sendBest_44 : decode cX2_sendBest 44 = .ok (.getfield 68, 3) := by decide +kernel
theorem dX2_sendBest_47 : decode cX2_sendBest 47 = .ok (.iload_n 1, 1) := by decide +kernel
theorem dX2_sendBest_48 : decode cX2_sendBest 48 = .ok (.iaload, 1) := by decide +kernel
theorem dX2_sendBest_49 : decode cX2_sendBest 49 = .ok (.aload_n 0, 1) := by decide +kernel
theorem dX2_sendBest_50 : decode cX2_sendBest 50 = .ok (.getfield 28, 3) := by decide +kernel
theorem dX2_sendBest_53 : decode cX2_sendBest 53 = .ok (.iload_n 1, 1) := by decide +kernel
theorem dX2_sendBest_54 : decode cX2_sendBest 54 = .ok (.aaload, 1) := by decide +kernel
theorem dX2_sendBest_55 : decode cX2_sendBest 55 = .ok (.invokevirtual 75, 3) := by decide +kernel
theorem dX2_sendBest_58 : decode cX2_sendBest 58 = .ok (.return_, 1) := by decide +kernel
theorem dX3_init_0 : decode cX3_init 0 = .ok (.aload_n 0, 1) := by decide +kernel
theorem dX3_init_1 : decode cX3_init 1 = .ok (.invokespecial 1, 3) := by decide +kernel
theorem dX3_init_4 : decode cX3_init 4 = .ok (.aload_n 0, 1) := by decide +kernel
theorem dX3_init_5 : decode cX3_init 5 = .ok (.aload_n 1, 1) := by decide +kernel
theorem dX3_init_6 : decode cX3_init 6 = .ok (.putfield 7, 3) := by decide +kernel
theorem dX3_init_9 : decode cX3_init 9 = .ok (.aload_n 0, 1) := by decide +kernel
theorem dX3_init_10 : decode cX3_init 10 = .ok (.new 13, 3) := by decide +kernel
theorem dX3_init_13 : decode cX3_init 13 = .ok (.dup, 1) := by decide +kernel
theorem dX3_init_14 : decode cX3_init 14 = .ok (.invokespecial 15, 3) := by decide +kernel
theorem dX3_init_17 : decode cX3_init 17 = .ok (.putfield 16, 3) := by decide +kernel
theorem dX3_init_20 : decode cX3_init 20 = .ok (.aload_n 0, 1) := by decide +kernel
theorem dX3_init_21 : decode cX3_init 21 = .ok (.new 20, 3) := by decide +kernel
theorem dX3_init_24 : decode cX3_init 24 = .ok (.dup, 1) := by decide +kernel
theorem dX3_init_25 : decode cX3_init 25 = .ok (.invokespecial 22, 3) := by decide +kernel
theorem dX3_init_28 : decode cX3_init 28 = .ok (.putfield 23, 3) := by decide +kernel
theorem dX3_init_31 : decode cX3_init 31 = .ok (.aload_n 0, 1) := by decide +kernel
theorem dX3_init_32 : decode cX3_init 32 = .ok (.iconst 2, 1) := by decide +kernel
theorem dX3_init_33 : decode cX3_init 33 = .ok (.newarray .int, 2) := by decide +kernel
theorem dX3_init_35 : decode cX3_init 35 = .ok (.putfield 27, 3) := by decide +kernel
theorem dX3_init_38 : decode cX3_init 38 = .ok (.aload_n 0, 1) := by decide +kernel
theorem dX3_init_39 : decode cX3_init 39 = .ok (.iconst 2, 1) := by decide +kernel
theorem dX3_init_40 : decode cX3_init 40 = .ok (.sipush 1500, 3) := by decide +kernel
theorem dX3_init_43 : decode cX3_init 43 = .ok (.multianewarray 33 2, 4) := by decide +kernel
theorem dX3_init_47 : decode cX3_init 47 = .ok (.putfield 35, 3) := by decide +kernel
theorem dX3_init_50 : decode cX3_init 50 = .ok (.aload_n 0, 1) := by decide +kernel
theorem dX3_init_51 : decode cX3_init 51 = .ok (.iconst 3, 1) := by decide +kernel
theorem dX3_init_52 : decode cX3_init 52 = .ok (.newarray .int, 2) := by decide +kernel
theorem dX3_init_54 : decode cX3_init 54 = .ok (.putfield 38, 3) := by decide +kernel
theorem dX3_init_57 : decode cX3_init 57 = .ok (.aload_n 0, 1) := by decide +kernel
theorem dX3_init_58 : decode cX3_init 58 = .ok (.iconst 2, 1) := by decide +kernel
theorem dX3_init_59 : decode cX3_init 59 = .ok (.newarray .int, 2) := by decide +kernel
theorem dX3_init_61 : decode cX3_init 61 = .ok (.putfield 41, 3) := by decide +kernel
theorem dX3_init_64 : decode cX3_init 64 = .ok (.aload_n 0, 1) := by decide +kernel
theorem dX3_init_65 : decode cX3_init 65 = .ok (.sipush 1500, 3) := by decide +kernel
theorem dX3_init_68 : decode cX3_init 68 = .ok (.newarray .long, 2) := by decide +kernel
theorem dX3_init_70 : decode cX3_init 70 = .ok (.putfield 44, 3) := by decide +kernel
theorem dX3_init_73 : decode cX3_init 73 = .ok (.aload_n 0, 1) := by decide +kernel
theorem dX3_init_74 : decode cX3_init 74 = .ok (.sipush 1500, 3) := by decide +kernel
theorem dX3_init_77 : decode cX3_init 77 = .ok (.newarray .long, 2) := by decide +kernel
theorem dX3_init_79 : decode cX3_init 79 = .ok (.putfield 48, 3) := by decide +kernel
theorem dX3_init_82 : decode cX3_init 82 = .ok (.aload_n 0, 1) := by decide +kernel
theorem dX3_init_83 : decode cX3_init 83 = .ok (.bipush 50, 2) := by decide +kernel
theorem dX3_init_85 : decode cX3_init 85 = .ok (.newarray .int, 2) := by decide +kernel
theorem dX3_init_87 : decode cX3_init 87 = .ok (.putfield 51, 3) := by decide +kernel
theorem dX3_init_90 : decode cX3_init 90 = .ok (.return_, 1) := by decide +kernel
theorem dX3_mayList_0 : decode cX3_mayList 0 = .ok (.iconst 0, 1) := by decide +kernel
theorem dX3_mayList_1 : decode cX3_mayList 1 = .ok (.istore_n 1, 1) := by decide +kernel
theorem dX3_mayList_2 : decode cX3_mayList 2 = .ok (.iload_n 1, 1) := by decide +kernel
theorem dX3_mayList_3 : decode cX3_mayList 3 = .ok (.iconst 2, 1) := by decide +kernel
theorem dX3_mayList_4 : decode cX3_mayList 4 = .ok (.if_icmp .ge 31, 3) := by decide +kernel
theorem dX3_mayList_7 : decode cX3_mayList 7 = .ok (.aload_n 0, 1) := by decide +kernel
theorem dX3_mayList_8 : decode cX3_mayList 8 = .ok (.getfield 7, 3) := by decide +kernel
theorem dX3_mayList_11 : decode cX3_mayList 11 = .ok (.iload_n 1, 1) := by decide +kernel
theorem dX3_mayList_12 : decode cX3_mayList 12 = .ok (.invokevirtual 54, 3) := by decide +kernel
theorem dX3_mayList_15 : decode cX3_mayList 15 = .ok (.istore_n 2, 1) := by decide +kernel
theorem dX3_mayList_16 : decode cX3_mayList 16 = .ok (.iload_n 2, 1) := by decide +kernel
theorem dX3_mayList_17 : decode cX3_mayList 17 = .ok (.sipush 300, 3) := by decide +kernel
theorem dX3_mayList_20 : decode cX3_mayList 20 = .ok (.if_icmp .gt 7, 3) := by decide +kernel
theorem dX3_mayList_23 : decode cX3_mayList 23 = .ok (.iload_n 2, 1) := by decide +kernel
theorem dX3_mayList_24 : decode cX3_mayList 24 = .ok (.ifCond .ne 5, 3) := by decide +kernel
theorem dX3_mayList_27 : decode cX3_mayList 27 = .ok (.iconst 0, 1) := by decide +kernel
theorem dX3_mayList_28 : decode cX3_mayList 28 = .ok (.ireturn, 1) := by decide +kernel
theorem dX3_mayList_29 : decode cX3_mayList 29 = .ok (.iinc 1 1, 3) := by decide +kernel
theorem dX3_mayList_32 : decode cX3_mayList 32 = .ok (.goto (-30), 3) := by decide +kernel
theorem dX3_mayList_35 : decode cX3_mayList 35 = .ok (.iconst 1, 1) := by decide +kernel
theorem dX3_mayList_36 : decode cX3_mayList 36 = .ok (.ireturn, 1) := by decide +kernel
theorem dX3_open_0 : decode cX3_open 0 = .ok (.aload_n 0, 1) := by decide +kernel
theorem dX3_open_1 : decode cX3_open 1 = .ok (.invokevirtual 58, 3) := by decide +kernel
theorem dX3_open_4 : decode cX3_open 4 = .ok (.ifCond .ne 5, 3) := by decide +kernel
theorem dX3_open_7 : decode cX3_open 7 = .ok (.iconst 0, 1) := by decide +kernel
theorem dX3_open_8 : decode cX3_open 8 = .ok (.ireturn, 1) := by decide +kernel
theorem dX3_open_9 : decode cX3_open 9 = .ok (.aload_n 0, 1) := by decide +kernel
theorem dX3_open_10 : decode cX3_open 10 = .ok (.getfield 7, 3) := by decide +kernel
theorem dX3_open_13 : decode cX3_open 13 = .ok (.invokevirtual 62, 3) := by decide +kernel
theorem dX3_open_16 : decode cX3_open 16 = .ok (.aload_n 0, 1) := by decide +kernel
theorem dX3_open_17 : decode cX3_open 17 = .ok (.iconst 0, 1) := by decide +kernel
theorem dX3_open_18 : decode cX3_open 18 = .ok (.invokevirtual 65, 3) := by decide +kernel
theorem dX3_open_21 : decode cX3_open 21 = .ok (.aload_n 0, 1) := by decide +kernel
theorem dX3_open_22 : decode cX3_open 22 = .ok (.iconst 1, 1) := by decide +kernel
theorem dX3_open_23 : decode cX3_open 23 = .ok (.invokevirtual 65, 3) := by decide +kernel
theorem dX3_open_26 : decode cX3_open 26 = .ok (.iconst 1, 1) := by decide +kernel
theorem dX3_open_27 : decode cX3_open 27 = .ok (.ireturn, 1) := by decide +kernel
theorem dX3_writeList_0 : decode cX3_writeList 0 = .ok (.aload_n 0, 1) := by decide +kernel
theorem dX3_writeList_1 : decode cX3_writeList 1 = .ok (.getfield 27, 3) := by decide +kernel
theorem dX3_writeList_4 : decode cX3_writeList 4 = .ok (.iload_n 1, 1) := by decide +kernel
theorem dX3_writeList_5 : decode cX3_writeList 5 = .ok (.iconst 0, 1) := by decide +kernel
theorem dX3_writeList_6 : decode cX3_writeList 6 = .ok (.iastore, 1) := by decide +kernel
theorem dX3_writeList_7 : decode cX3_writeList 7 = .ok (.aload_n 0, 1) := by decide +kernel
theorem dX3_writeList_8 : decode cX3_writeList 8 = .ok (.getfield 16, 3) := by decide +kernel
theorem dX3_writeList_11 : decode cX3_writeList 11 = .ok (.aload_n 0, 1) := by decide +kernel
theorem dX3_writeList_12 : decode cX3_writeList 12 = .ok (.getfield 7, 3) := by decide +kernel
theorem dX3_writeList_15 : decode cX3_writeList 15 = .ok (.getfield 69, 3) := by decide +kernel
theorem dX3_writeList_18 : decode cX3_writeList 18 = .ok (.aload_n 0, 1) := by decide +kernel
theorem dX3_writeList_19 : decode cX3_writeList 19 = .ok (.getfield 7, 3) := by decide +kernel
theorem dX3_writeList_22 : decode cX3_writeList 22 = .ok (.getfield 73, 3) := by decide +kernel
theorem dX3_writeList_25 : decode cX3_writeList 25 = .ok (.iload_n 1, 1) := by decide +kernel
theorem dX3_writeList_26 : decode cX3_writeList 26 = .ok (.iaload, 1) := by decide +kernel
theorem dX3_writeList_27 : decode cX3_writeList 27 = .ok (.invokevirtual 76, 3) := by decide +kernel
theorem dX3_writeList_30 : decode cX3_writeList 30 = .ok (.istore_n 2, 1) := by decide +kernel
theorem dX3_writeList_31 : decode cX3_writeList 31 = .ok (.iconst 0, 1) := by decide +kernel
theorem dX3_writeList_32 : decode cX3_writeList 32 = .ok (.istore_n 3, 1) := by decide +kernel
theorem dX3_writeList_33 : decode cX3_writeList 33 = .ok (.iload_n 3, 1) := by decide +kernel
theorem dX3_writeList_34 : decode cX3_writeList 34 = .ok (.sipush 300, 3) := by decide +kernel
theorem dX3_writeList_37 : decode cX3_writeList 37 = .ok (.if_icmp .ge 52, 3) := by decide +kernel
theorem dX3_writeList_40 : decode cX3_writeList 40 = .ok (.iload_n 2, 1) := by decide +kernel
theorem dX3_writeList_41 : decode cX3_writeList 41 = .ok (.ifCond .eq 48, 3) := by decide +kernel
theorem dX3_writeList_44 : decode cX3_writeList 44 = .ok (.aload_n 0, 1) := by decide +kernel
theorem dX3_writeList_45 : decode cX3_writeList 45 = .ok (.getfield 16, 3) := by decide +kernel
theorem dX3_writeList_48 : decode cX3_writeList 48 = .ok (.getfield 80, 3) := by decide +kernel
theorem dX3_writeList_51 : decode cX3_writeList 51 = .ok (.iconst 0, 1) := by decide +kernel
theorem dX3_writeList_52 : decode cX3_writeList 52 = .ok (.aload_n 0, 1) := by decide +kernel
theorem dX3_writeList_53 : decode cX3_writeList 53 = .ok (.getfield 35, 3) := by decide +kernel
theorem dX3_writeList_56 : decode cX3_writeList 56 = .ok (.iload_n 1, 1) := by decide +kernel
theorem dX3_writeList_57 : decode cX3_writeList 57 = .ok (.aaload, 1) := by decide +kernel
theorem dX3_writeList_58 : decode cX3_writeList 58 = .ok (.iload_n 3, 1) := by decide +kernel
theorem dX3_writeList_59 : decode cX3_writeList 59 = .ok (.iconst 5, 1) := by decide +kernel
theorem dX3_writeList_60 : decode cX3_writeList 60 = .ok (.imul, 1) := by decide +kernel
theorem dX3_writeList_61 : decode cX3_writeList 61 = .ok (.iconst 5, 1) := by decide +kernel
theorem dX3_writeList_62 : decode cX3_writeList 62 = .ok (.invokestatic 81, 3) := by decide +kernel
theorem dX3_writeList_65 : decode cX3_writeList 65 = .ok (.aload_n 0, 1) := by decide +kernel
theorem dX3_writeList_66 : decode cX3_writeList 66 = .ok (.getfield 27, 3) := by decide +kernel
theorem dX3_writeList_69 : decode cX3_writeList 69 = .ok (.iload_n 1, 1) := by decide +kernel
theorem dX3_writeList_70 : decode cX3_writeList 70 = .ok (.dup2, 1) := by decide +kernel
theorem dX3_writeList_71 : decode cX3_writeList 71 = .ok (.iaload, 1) := by decide +kernel
theorem dX3_writeList_72 : decode cX3_writeList 72 = .ok (.iconst 1, 1) := by decide +kernel
theorem dX3_writeList_73 : decode cX3_writeList 73 = .ok (.iadd, 1) := by decide +kernel
theorem dX3_writeList_74 : decode cX3_writeList 74 = .ok (.iastore, 1) := by decide +kernel
theorem dX3_writeList_75 : decode cX3_writeList 75 = .ok (.aload_n 0, 1) := by decide +kernel
theorem dX3_writeList_76 : decode cX3_writeList 76 = .ok (.getfield 16, 3) := by decide +kernel
theorem dX3_writeList_79 : decode cX3_writeList 79 = .ok (.invokevirtual 87, 3) := by decide +kernel
theorem dX3_writeList_82 : decode cX3_writeList 82 = .ok (.istore_n 2, 1) := by decide +kernel
theorem dX3_writeList_83 : decode cX3_writeList 83 = .ok (.iinc 3 1, 3) := by decide +kernel
theorem dX3_writeList_86 : decode cX3_writeList 86 = .ok (.goto (-53), 3) := by decide +kernel
theorem dX3_writeList_89 : decode cX3_writeList 89 = .ok (.return_, 1) := by decide +kernel
theorem dX3_numberAt_0 : decode cX3_numberAt 0 = .ok (.aload_n 0, 1) := by decide +kernel
theorem dX3_numberAt_1 : decode cX3_numberAt 1 = .ok (.getfield 7, 3) := by decide +kernel
theorem dX3_numberAt_4 : decode cX3_numberAt 4 = .ok (.aload_n 0, 1) := by decide +kernel
theorem dX3_numberAt_5 : decode cX3_numberAt 5 = .ok (.getfield 35, 3) := by decide +kernel
theorem dX3_numberAt_8 : decode cX3_numberAt 8 = .ok (.iload_n 1, 1) := by decide +kernel
theorem dX3_numberAt_9 : decode cX3_numberAt 9 = .ok (.aaload, 1) := by decide +kernel
theorem dX3_numberAt_10 : decode cX3_numberAt 10 = .ok (.iload_n 2, 1) := by decide +kernel
theorem dX3_numberAt_11 : decode cX3_numberAt 11 = .ok (.iconst 5, 1) := by decide +kernel
theorem dX3_numberAt_12 : decode cX3_numberAt 12 = .ok (.imul, 1) := by decide +kernel
theorem dX3_numberAt_13 : decode cX3_numberAt 13 = .ok (.invokevirtual 90, 3) := by decide +kernel
theorem dX3_numberAt_16 : decode cX3_numberAt 16 = .ok (.ireturn, 1) := by decide +kernel
theorem dX3_losses_0 : decode cX3_losses 0 = .ok (.aload_n 0, 1) := by decide +kernel
theorem dX3_losses_1 : decode cX3_losses 1 = .ok (.getfield 35, 3) := by decide +kernel
theorem dX3_losses_4 : decode cX3_losses 4 = .ok (.iconst 1, 1) := by decide +kernel
theorem dX3_losses_5 : decode cX3_losses 5 = .ok (.iload_n 1, 1) := by decide +kernel
theorem dX3_losses_6 : decode cX3_losses 6 = .ok (.isub, 1) := by decide +kernel
theorem dX3_losses_7 : decode cX3_losses 7 = .ok (.aaload, 1) := by decide +kernel
theorem dX3_losses_8 : decode cX3_losses 8 = .ok (.astore 5, 2) := by decide +kernel
theorem dX3_losses_10 : decode cX3_losses 10 = .ok (.iconst 0, 1) := by decide +kernel
theorem dX3_losses_11 : decode cX3_losses 11 = .ok (.istore 6, 2) := by decide +kernel
theorem dX3_losses_13 : decode cX3_losses 13 = .ok (.iconst 0, 1) := by decide +kernel
theorem dX3_losses_14 : decode cX3_losses 14 = .ok (.istore 7, 2) := by decide +kernel
theorem dX3_losses_16 : decode cX3_losses 16 = .ok (.iload 7, 2) := by decide +kernel
theorem dX3_losses_18 : decode cX3_losses 18 = .ok (.aload_n 0, 1) := by decide +kernel
theorem dX3_losses_19 : decode cX3_losses 19 = .ok (.getfield 27, 3) := by decide +kernel
theorem dX3_losses_22 : decode cX3_losses 22 = .ok (.iconst 1, 1) := by decide +kernel
theorem dX3_losses_23 : decode cX3_losses 23 = .ok (.iload_n 1, 1) := by decide +kernel
theorem dX3_losses_24 : decode cX3_losses 24 = .ok (.isub, 1) := by decide +kernel
theorem dX3_losses_25 : decode cX3_losses 25 = .ok (.iaload, 1) := by decide +kernel
theorem dX3_losses_26 : decode cX3_losses 26 = .ok (.if_icmp .ge 58, 3) := by decide +kernel
theorem dX3_losses_29 : decode cX3_losses 29 = .ok (.iload 6, 2) := by decide +kernel
theorem dX3_losses_31 : decode cX3_losses 31 = .ok (.iload 4, 2) := by decide +kernel
theorem dX3_losses_33 : decode cX3_losses 33 = .ok (.if_icmp .ge 51, 3) := by decide +kernel
theorem dX3_losses_36 : decode cX3_losses 36 = .ok (.iload_n 1, 1) := by decide +kernel
theorem dX3_losses_37 : decode cX3_losses 37 = .ok (.ifCond .ne 18, 3) := by decide +kernel
theorem dX3_losses_40 : decode cX3_losses 40 = .ok (.aload_n 0, 1) := by decide +kernel
theorem dX3_losses_41 : decode cX3_losses 41 = .ok (.aload_n 2, 1) := by decide +kernel
theorem dX3_losses_42 : decode cX3_losses 42 = .ok (.iload_n 3, 1) := by decide +kernel
theorem dX3_losses_43 : decode cX3_losses 43 = .ok (.aload 5, 2) := by decide +kernel
theorem dX3_losses_45 : decode cX3_losses 45 = .ok (.iload 7, 2) := by decide +kernel
theorem dX3_losses_47 : decode cX3_losses 47 = .ok (.iconst 5, 1) := by decide +kernel
theorem dX3_losses_48 : decode cX3_losses 48 = .ok (.imul, 1) := by decide +kernel
theorem dX3_losses_49 : decode cX3_losses 49 = .ok (.invokevirtual 94, 3) := by decide +kernel
theorem dX3_losses_52 : decode cX3_losses 52 = .ok (.goto 16, 3) := by decide +kernel
theorem dX3_losses_55 : decode cX3_losses 55 = .ok (.aload_n 0, 1) := by decide +kernel
theorem dX3_losses_56 : decode cX3_losses 56 = .ok (.aload 5, 2) := by decide +kernel
theorem dX3_losses_58 : decode cX3_losses 58 = .ok (.iload 7, 2) := by decide +kernel
theorem dX3_losses_60 : decode cX3_losses 60 = .ok (.iconst 5, 1) := by decide +kernel
theorem dX3_losses_61 : decode cX3_losses 61 = .ok (.imul, 1) := by decide +kernel
theorem dX3_losses_62 : decode cX3_losses 62 = .ok (.aload_n 2, 1) := by decide +kernel
theorem dX3_losses_63 : decode cX3_losses 63 = .ok (.iload_n 3, 1) := by decide +kernel
theorem dX3_losses_64 : decode cX3_losses 64 = .ok (.invokevirtual 94, 3) := by decide +kernel
theorem dX3_losses_67 : decode cX3_losses 67 = .ok (.ineg, 1) := by decide +kernel
theorem dX3_losses_68 : decode cX3_losses 68 = .ok (.istore 8, 2) := by decide +kernel
theorem dX3_losses_70 : decode cX3_losses 70 = .ok (.iload 8, 2) := by decide +kernel
theorem dX3_losses_72 : decode cX3_losses 72 = .ok (.ifCond .ge 6, 3) := by decide +kernel
theorem dX3_losses_75 : decode cX3_losses 75 = .ok (.iinc 6 1, 3) := by decide +kernel
theorem dX3_losses_78 : decode cX3_losses 78 = .ok (.iinc 7 1, 3) := by decide +kernel
theorem dX3_losses_81 : decode cX3_losses 81 = .ok (.goto (-65), 3) := by decide +kernel
theorem dX3_losses_84 : decode cX3_losses 84 = .ok (.iload 6, 2) := by decide +kernel
theorem dX3_losses_86 : decode cX3_losses 86 = .ok (.ireturn, 1) := by decide +kernel
theorem dX3_duel_0 : decode cX3_duel 0 = .ok (.iconst 0, 1) := by decide +kernel
theorem dX3_duel_1 : decode cX3_duel 1 = .ok (.istore 5, 2) := by decide +kernel
theorem dX3_duel_3 : decode cX3_duel 3 = .ok (.iconst 0, 1) := by decide +kernel
theorem dX3_duel_4 : decode cX3_duel 4 = .ok (.istore 6, 2) := by decide +kernel
theorem dX3_duel_6 : decode cX3_duel 6 = .ok (.iload 6, 2) := by decide +kernel
theorem dX3_duel_8 : decode cX3_duel 8 = .ok (.aload_n 0, 1) := by decide +kernel
theorem dX3_duel_9 : decode cX3_duel 9 = .ok (.getfield 7, 3) := by decide +kernel
theorem dX3_duel_12 : decode cX3_duel 12 = .ok (.getfield 69, 3) := by decide +kernel
theorem dX3_duel_15 : decode cX3_duel 15 = .ok (.if_icmp .ge 45, 3) := by decide +kernel
theorem dX3_duel_18 : decode cX3_duel 18 = .ok (.iload 5, 2) := by decide +kernel
theorem dX3_duel_20 : decode cX3_duel 20 = .ok (.aload_n 0, 1) := by decide +kernel
theorem dX3_duel_21 : decode cX3_duel 21 = .ok (.getfield 7, 3) := by decide +kernel
theorem dX3_duel_24 : decode cX3_duel 24 = .ok (.getfield 98, 3) := by decide +kernel
theorem dX3_duel_27 : decode cX3_duel 27 = .ok (.iload 6, 2) := by decide +kernel
theorem dX3_duel_29 : decode cX3_duel 29 = .ok (.bipush 100, 2) := by decide +kernel
theorem dX3_duel_31 : decode cX3_duel 31 = .ok (.imul, 1) := by decide +kernel
theorem dX3_duel_32 : decode cX3_duel 32 = .ok (.aload_n 1, 1) := by decide +kernel
theorem dX3_duel_33 : decode cX3_duel 33 = .ok (.iload_n 2, 1) := by decide +kernel
theorem dX3_duel_34 : decode cX3_duel 34 = .ok (.iload 6, 2) := by decide +kernel
theorem dX3_duel_36 : decode cX3_duel 36 = .ok (.iadd, 1) := by decide +kernel
theorem dX3_duel_37 : decode cX3_duel 37 = .ok (.iaload, 1) := by decide +kernel
theorem dX3_duel_38 : decode cX3_duel 38 = .ok (.bipush 10, 2) := by decide +kernel
theorem dX3_duel_40 : decode cX3_duel 40 = .ok (.imul, 1) := by decide +kernel
theorem dX3_duel_41 : decode cX3_duel 41 = .ok (.iadd, 1) := by decide +kernel
theorem dX3_duel_42 : decode cX3_duel 42 = .ok (.aload_n 3, 1) := by decide +kernel
theorem dX3_duel_43 : decode cX3_duel 43 = .ok (.iload 4, 2) := by decide +kernel
theorem dX3_duel_45 : decode cX3_duel 45 = .ok (.iload 6, 2) := by decide +kernel
theorem dX3_duel_47 : decode cX3_duel 47 = .ok (.iadd, 1) := by decide +kernel
theorem dX3_duel_48 : decode cX3_duel 48 = .ok (.iaload, 1) := by decide +kernel
theorem dX3_duel_49 : decode cX3_duel 49 = .ok (.iadd, 1) := by decide +kernel
theorem dX3_duel_50 : decode cX3_duel 50 = .ok (.iaload, 1) := by decide +kernel
theorem dX3_duel_51 : decode cX3_duel 51 = .ok (.iadd, 1) := by decide +kernel
theorem dX3_duel_52 : decode cX3_duel 52 = .ok (.istore 5, 2) := by decide +kernel
theorem dX3_duel_54 : decode cX3_duel 54 = .ok (.iinc 6 1, 3) := by decide +kernel
theorem dX3_duel_57 : decode cX3_duel 57 = .ok (.goto (-51), 3) := by decide +kernel
theorem dX3_duel_60 : decode cX3_duel 60 = .ok (.iload 5, 2) := by decide +kernel
theorem dX3_duel_62 : decode cX3_duel 62 = .ok (.ireturn, 1) := by decide +kernel
theorem dX3_safe_0 : decode cX3_safe 0 = .ok (.sipush 301, 3) := by decide +kernel
theorem dX3_safe_3 : decode cX3_safe 3 = .ok (.istore_n 3, 1) := by decide +kernel
theorem dX3_safe_4 : decode cX3_safe 4 = .ok (.iconst 0, 1) := by decide +kernel
theorem dX3_safe_5 : decode cX3_safe 5 = .ok (.istore 4, 2) := by decide +kernel
theorem dX3_safe_7 : decode cX3_safe 7 = .ok (.iconst 0, 1) := by decide +kernel
theorem dX3_safe_8 : decode cX3_safe 8 = .ok (.istore 5, 2) := by decide +kernel
theorem dX3_safe_10 : decode cX3_safe 10 = .ok (.iload 5, 2) := by decide +kernel
theorem dX3_safe_12 : decode cX3_safe 12 = .ok (.aload_n 0, 1) := by decide +kernel
theorem dX3_safe_13 : decode cX3_safe 13 = .ok (.getfield 27, 3) := by decide +kernel
theorem dX3_safe_16 : decode cX3_safe 16 = .ok (.iload_n 1, 1) := by decide +kernel
theorem dX3_safe_17 : decode cX3_safe 17 = .ok (.iaload, 1) := by decide +kernel
theorem dX3_safe_18 : decode cX3_safe 18 = .ok (.if_icmp .ge 40, 3) := by decide +kernel
theorem dX3_safe_21 : decode cX3_safe 21 = .ok (.aload_n 0, 1) := by decide +kernel
theorem dX3_safe_22 : decode cX3_safe 22 = .ok (.iload_n 1, 1) := by decide +kernel
theorem dX3_safe_23 : decode cX3_safe 23 = .ok (.aload_n 0, 1) := by decide +kernel
theorem dX3_safe_24 : decode cX3_safe 24 = .ok (.getfield 35, 3) := by decide +kernel
theorem dX3_safe_27 : decode cX3_safe 27 = .ok (.iload_n 1, 1) := by decide +kernel
theorem dX3_safe_28 : decode cX3_safe 28 = .ok (.aaload, 1) := by decide +kernel
theorem dX3_safe_29 : decode cX3_safe 29 = .ok (.iload 5, 2) := by decide +kernel
theorem dX3_safe_31 : decode cX3_safe 31 = .ok (.iconst 5, 1) := by decide +kernel
theorem dX3_safe_32 : decode cX3_safe 32 = .ok (.imul, 1) := by decide +kernel
theorem dX3_safe_33 : decode cX3_safe 33 = .ok (.iload_n 3, 1) := by decide +kernel
theorem dX3_safe_34 : decode cX3_safe 34 = .ok (.invokevirtual 101, 3) := by decide +kernel
theorem dX3_safe_37 : decode cX3_safe 37 = .ok (.istore 6, 2) := by decide +kernel
theorem dX3_safe_39 : decode cX3_safe 39 = .ok (.iload 6, 2) := by decide +kernel
theorem dX3_safe_41 : decode cX3_safe 41 = .ok (.iload_n 3, 1) := by decide +kernel
theorem dX3_safe_42 : decode cX3_safe 42 = .ok (.if_icmp .ge 10, 3) := by decide +kernel
theorem dX3_safe_45 : decode cX3_safe 45 = .ok (.iload 6, 2) := by decide +kernel
theorem dX3_safe_47 : decode cX3_safe 47 = .ok (.istore_n 3, 1) := by decide +kernel
theorem dX3_safe_48 : decode cX3_safe 48 = .ok (.iload 5, 2) := by decide +kernel
theorem dX3_safe_50 : decode cX3_safe 50 = .ok (.istore 4, 2) := by decide +kernel
theorem dX3_safe_52 : decode cX3_safe 52 = .ok (.iinc 5 1, 3) := by decide +kernel
theorem dX3_safe_55 : decode cX3_safe 55 = .ok (.goto (-45), 3) := by decide +kernel
theorem dX3_safe_58 : decode cX3_safe 58 = .ok (.iload_n 2, 1) := by decide +kernel
theorem dX3_safe_59 : decode cX3_safe 59 = .ok (.ifCond .ne 13, 3) := by decide +kernel
theorem dX3_safe_62 : decode cX3_safe 62 = .ok (.aload_n 0, 1) := by decide +kernel
theorem dX3_safe_63 : decode cX3_safe 63 = .ok (.iload_n 1, 1) := by decide +kernel
theorem dX3_safe_64 : decode cX3_safe 64 = .ok (.iload 4, 2) := by decide +kernel
theorem dX3_safe_66 : decode cX3_safe 66 = .ok (.invokevirtual 105, 3) := by decide +kernel
theorem dX3_safe_69 : decode cX3_safe 69 = .ok (.goto 4, 3) := by decide +kernel
theorem dX3_safe_72 : decode cX3_safe 72 = .ok (.iload_n 3, 1) := by decide +kernel
theorem dX3_safe_73 : decode cX3_safe 73 = .ok (.ireturn, 1) := by decide +kernel
theorem dX3_ringPart_0 : decode cX3_ringPart 0 = .ok (.aload_n 0, 1) := by decide +kernel
theorem dX3_ringPart_1 : decode cX3_ringPart 1 = .ok (.iconst 0, 1) := by decide +kernel
theorem dX3_ringPart_2 : decode cX3_ringPart 2 = .ok (.aload_n 0, 1) := by decide +kernel
theorem dX3_ringPart_3 : decode cX3_ringPart 3 = .ok (.getfield 38, 3) := by decide +kernel
theorem dX3_ringPart_6 : decode cX3_ringPart 6 = .ok (.iload_n 1, 1) := by decide +kernel
theorem dX3_ringPart_7 : decode cX3_ringPart 7 = .ok (.iaload, 1) := by decide +kernel
theorem dX3_ringPart_8 : decode cX3_ringPart 8 = .ok (.invokevirtual 105, 3) := by decide +kernel
theorem dX3_ringPart_11 : decode cX3_ringPart 11 = .ok (.ireturn, 1) := by decide +kernel
theorem dX3_findRing_0 : decode cX3_findRing 0 = .ok (.aload_n 0, 1) := by decide +kernel
theorem dX3_findRing_1 : decode cX3_findRing 1 = .ok (.invokevirtual 109, 3) := by decide +kernel
theorem dX3_findRing_4 : decode cX3_findRing 4 = .ok (.iconst 0, 1) := by decide +kernel
theorem dX3_findRing_5 : decode cX3_findRing 5 = .ok (.istore_n 1, 1) := by decide +kernel
theorem dX3_findRing_6 : decode cX3_findRing 6 = .ok (.iload_n 1, 1) := by decide +kernel
theorem dX3_findRing_7 : decode cX3_findRing 7 = .ok (.aload_n 0, 1) := by decide +kernel
theorem dX3_findRing_8 : decode cX3_findRing 8 = .ok (.getfield 27, 3) := by decide +kernel
theorem dX3_findRing_11 : decode cX3_findRing 11 = .ok (.iconst 0, 1) := by decide +kernel
theorem dX3_findRing_12 : decode cX3_findRing 12 = .ok (.iaload, 1) := by decide +kernel
theorem dX3_findRing_13 : decode cX3_findRing 13 = .ok (.if_icmp .ge 81, 3) := by decide +kernel
theorem dX3_findRing_16 : decode cX3_findRing 16 = .ok (.iload_n 1, 1) := by decide +kernel
theorem dX3_findRing_17 : decode cX3_findRing 17 = .ok (.iconst 1, 1) := by decide +kernel
theorem dX3_findRing_18 : decode cX3_findRing 18 = .ok (.iadd, 1) := by decide +kernel
theorem dX3_findRing_19 : decode cX3_findRing 19 = .ok (.istore_n 2, 1) := by decide +kernel
theorem dX3_findRing_20 : decode cX3_findRing 20 = .ok (.iload_n 2, 1) := by decide +kernel
theorem dX3_findRing_21 : decode cX3_findRing 21 = .ok (.aload_n 0, 1) := by decide +kernel
theorem dX3_findRing_22 : decode cX3_findRing 22 = .ok (.getfield 27, 3) := by decide +kernel
theorem dX3_findRing_25 : decode cX3_findRing 25 = .ok (.iconst 0, 1) := by decide +kernel
theorem dX3_findRing_26 : decode cX3_findRing 26 = .ok (.iaload, 1) := by decide +kernel
theorem dX3_findRing_27 : decode cX3_findRing 27 = .ok (.if_icmp .ge 61, 3) := by decide +kernel
theorem dX3_findRing_30 : decode cX3_findRing 30 = .ok (.aload_n 0, 1) := by decide +kernel
theorem dX3_findRing_31 : decode cX3_findRing 31 = .ok (.getfield 44, 3) := by decide +kernel
theorem dX3_findRing_34 : decode cX3_findRing 34 = .ok (.iload_n 1, 1) := by decide +kernel
theorem dX3_findRing_35 : decode cX3_findRing 35 = .ok (.iload_n 2, 1) := by decide +kernel
theorem dX3_findRing_36 : decode cX3_findRing 36 = .ok (.invokestatic 112, 3) := by decide +kernel
theorem dX3_findRing_39 : decode cX3_findRing 39 = .ok (.ifCond .ne 6, 3) := by decide +kernel
theorem dX3_findRing_42 : decode cX3_findRing 42 = .ok (.goto 40, 3) := by decide +kernel
theorem dX3_findRing_45 : decode cX3_findRing 45 = .ok (.aload_n 0, 1) := by decide +kernel
theorem dX3_findRing_46 : decode cX3_findRing 46 = .ok (.iload_n 1, 1) := by decide +kernel
theorem dX3_findRing_47 : decode cX3_findRing 47 = .ok (.iload_n 2, 1) := by decide +kernel
theorem dX3_findRing_48 : decode cX3_findRing 48 = .ok (.invokevirtual 116, 3) := by decide +kernel
theorem dX3_findRing_51 : decode cX3_findRing 51 = .ok (.istore_n 3, 1) := by decide +kernel
theorem dX3_findRing_52 : decode cX3_findRing 52 = .ok (.iload_n 3, 1) := by decide +kernel
theorem dX3_findRing_53 : decode cX3_findRing 53 = .ok (.ifCond .ge 6, 3) := by decide +kernel
theorem dX3_findRing_56 : decode cX3_findRing 56 = .ok (.goto 26, 3) := by decide +kernel
theorem dX3_findRing_59 : decode cX3_findRing 59 = .ok (.aload_n 0, 1) := by decide +kernel
theorem dX3_findRing_60 : decode cX3_findRing 60 = .ok (.getfield 38, 3) := by decide +kernel
theorem dX3_findRing_63 : decode cX3_findRing 63 = .ok (.iconst 0, 1) := by decide +kernel
theorem dX3_findRing_64 : decode cX3_findRing 64 = .ok (.iload_n 1, 1) := by decide +kernel
theorem dX3_findRing_65 : decode cX3_findRing 65 = .ok (.iastore, 1) := by decide +kernel
theorem dX3_findRing_66 : decode cX3_findRing 66 = .ok (.aload_n 0, 1) := by decide +kernel
theorem dX3_findRing_67 : decode cX3_findRing 67 = .ok (.getfield 38, 3) := by decide +kernel
theorem dX3_findRing_70 : decode cX3_findRing 70 = .ok (.iconst 1, 1) := by decide +kernel
theorem dX3_findRing_71 : decode cX3_findRing 71 = .ok (.iload_n 2, 1) := by decide +kernel
theorem dX3_findRing_72 : decode cX3_findRing 72 = .ok (.iastore, 1) := by decide +kernel
theorem dX3_findRing_73 : decode cX3_findRing 73 = .ok (.aload_n 0, 1) := by decide +kernel
theorem dX3_findRing_74 : decode cX3_findRing 74 = .ok (.getfield 38, 3) := by decide +kernel
theorem dX3_findRing_77 : decode cX3_findRing 77 = .ok (.iconst 2, 1) := by decide +kernel
theorem dX3_findRing_78 : decode cX3_findRing 78 = .ok (.iload_n 3, 1) := by decide +kernel
theorem dX3_findRing_79 : decode cX3_findRing 79 = .ok (.iastore, 1) := by decide +kernel
theorem dX3_findRing_80 : decode cX3_findRing 80 = .ok (.iconst 1, 1) := by decide +kernel
theorem dX3_findRing_81 : decode cX3_findRing 81 = .ok (.ireturn, 1) := by decide +kernel
theorem dX3_findRing_82 : decode cX3_findRing 82 = .ok (.iinc 2 1, 3) := by decide +kernel
theorem dX3_findRing_85 : decode cX3_findRing 85 = .ok (.goto (-65), 3) := by decide +kernel
theorem dX3_findRing_88 : decode cX3_findRing 88 = .ok (.iinc 1 1, 3) := by decide +kernel
theorem dX3_findRing_91 : decode cX3_findRing 91 = .ok (.goto (-85), 3) := by decide +kernel
theorem dX3_findRing_94 : decode cX3_findRing 94 = .ok (.iconst 0, 1) := by decide +kernel
theorem dX3_findRing_95 : decode cX3_findRing 95 = .ok (.ireturn, 1) := by decide +kernel
theorem dX3_matchOwn_0 : decode cX3_matchOwn 0 = .ok (.aload_n 0, 1) := by decide +kernel
theorem dX3_matchOwn_1 : decode cX3_matchOwn 1 = .ok (.getfield 44, 3) := by decide +kernel
theorem dX3_matchOwn_4 : decode cX3_matchOwn 4 = .ok (.lconst 0, 1) := by decide +kernel
theorem dX3_matchOwn_5 : decode cX3_matchOwn 5 = .ok (.invokestatic 119, 3) := by decide +kernel
theorem dX3_matchOwn_8 : decode cX3_matchOwn 8 = .ok (.aload_n 0, 1) := by decide +kernel
theorem dX3_matchOwn_9 : decode cX3_matchOwn 9 = .ok (.getfield 48, 3) := by decide +kernel
theorem dX3_matchOwn_12 : decode cX3_matchOwn 12 = .ok (.lconst 0, 1) := by decide +kernel
theorem dX3_matchOwn_13 : decode cX3_matchOwn 13 = .ok (.invokestatic 119, 3) := by decide +kernel
theorem dX3_matchOwn_16 : decode cX3_matchOwn 16 = .ok (.iconst 0, 1) := by decide +kernel
theorem dX3_matchOwn_17 : decode cX3_matchOwn 17 = .ok (.istore_n 1, 1) := by decide +kernel
theorem dX3_matchOwn_18 : decode cX3_matchOwn 18 = .ok (.iload_n 1, 1) := by decide +kernel
theorem dX3_matchOwn_19 : decode cX3_matchOwn 19 = .ok (.aload_n 0, 1) := by decide +kernel
theorem dX3_matchOwn_20 : decode cX3_matchOwn 20 = .ok (.getfield 27, 3) := by decide +kernel
theorem dX3_matchOwn_23 : decode cX3_matchOwn 23 = .ok (.iconst 0, 1) := by decide +kernel
theorem dX3_matchOwn_24 : decode cX3_matchOwn 24 = .ok (.iaload, 1) := by decide +kernel
theorem dX3_matchOwn_25 : decode cX3_matchOwn 25 = .ok (.if_icmp .ge 99, 3) := by decide +kernel
theorem dX3_matchOwn_28 : decode cX3_matchOwn 28 = .ok (.iconst 0, 1) := by decide +kernel
theorem dX3_matchOwn_29 : decode cX3_matchOwn 29 = .ok (.istore_n 2, 1) := by decide +kernel
theorem dX3_matchOwn_30 : decode cX3_matchOwn 30 = .ok (.iload_n 2, 1) := by decide +kernel
theorem dX3_matchOwn_31 : decode cX3_matchOwn 31 = .ok (.aload_n 0, 1) := by decide +kernel
theorem dX3_matchOwn_32 : decode cX3_matchOwn 32 = .ok (.getfield 27, 3) := by decide +kernel
theorem dX3_matchOwn_35 : decode cX3_matchOwn 35 = .ok (.iconst 0, 1) := by decide +kernel
theorem dX3_matchOwn_36 : decode cX3_matchOwn 36 = .ok (.iaload, 1) := by decide +kernel
theorem dX3_matchOwn_37 : decode cX3_matchOwn 37 = .ok (.if_icmp .ge 81, 3) := by decide +kernel
theorem dX3_matchOwn_40 : decode cX3_matchOwn 40 = .ok (.aload_n 0, 1) := by decide +kernel
theorem dX3_matchOwn_41 : decode cX3_matchOwn 41 = .ok (.aload_n 0, 1) := by decide +kernel
theorem dX3_matchOwn_42 : decode cX3_matchOwn 42 = .ok (.getfield 35, 3) := by decide +kernel
theorem dX3_matchOwn_45 : decode cX3_matchOwn 45 = .ok (.iconst 0, 1) := by decide +kernel
theorem dX3_matchOwn_46 : decode cX3_matchOwn 46 = .ok (.aaload, 1) := by decide +kernel
theorem dX3_matchOwn_47 : decode cX3_matchOwn 47 = .ok (.iload_n 1, 1) := by decide +kernel
theorem dX3_matchOwn_48 : decode cX3_matchOwn 48 = .ok (.iconst 5, 1) := by decide +kernel
theorem dX3_matchOwn_49 : decode cX3_matchOwn 49 = .ok (.imul, 1) := by decide +kernel
theorem dX3_matchOwn_50 : decode cX3_matchOwn 50 = .ok (.aload_n 0, 1) := by decide +kernel
theorem dX3_matchOwn_51 : decode cX3_matchOwn 51 = .ok (.getfield 35, 3) := by decide +kernel
theorem dX3_matchOwn_54 : decode cX3_matchOwn 54 = .ok (.iconst 0, 1) := by decide +kernel
theorem dX3_matchOwn_55 : decode cX3_matchOwn 55 = .ok (.aaload, 1) := by decide +kernel
theorem dX3_matchOwn_56 : decode cX3_matchOwn 56 = .ok (.iload_n 2, 1) := by decide +kernel
theorem dX3_matchOwn_57 : decode cX3_matchOwn 57 = .ok (.iconst 5, 1) := by decide +kernel
theorem dX3_matchOwn_58 : decode cX3_matchOwn 58 = .ok (.imul, 1) := by decide +kernel
theorem dX3_matchOwn_59 : decode cX3_matchOwn 59 = .ok (.invokevirtual 94, 3) := by decide +kernel
theorem dX3_matchOwn_62 : decode cX3_matchOwn 62 = .ok (.ifCond .gt 6, 3) := by decide +kernel
theorem dX3_matchOwn_65 : decode cX3_matchOwn 65 = .ok (.goto 47, 3) := by decide +kernel
theorem dX3_matchOwn_68 : decode cX3_matchOwn 68 = .ok (.aload_n 0, 1) := by decide +kernel
theorem dX3_matchOwn_69 : decode cX3_matchOwn 69 = .ok (.getfield 44, 3) := by decide +kernel
theorem dX3_matchOwn_72 : decode cX3_matchOwn 72 = .ok (.iload_n 1, 1) := by decide +kernel
theorem dX3_matchOwn_73 : decode cX3_matchOwn 73 = .ok (.iconst 5, 1) := by decide +kernel
theorem dX3_matchOwn_74 : decode cX3_matchOwn 74 = .ok (.imul, 1) := by decide +kernel
theorem dX3_matchOwn_75 : decode cX3_matchOwn 75 = .ok (.iload_n 2, 1) := by decide +kernel
theorem dX3_matchOwn_76 : decode cX3_matchOwn 76 = .ok (.bipush 64, 2) := by decide +kernel
theorem dX3_matchOwn_78 : decode cX3_matchOwn 78 = .ok (.idiv, 1) := by decide +kernel
theorem dX3_matchOwn_79 : decode cX3_matchOwn 79 = .ok (.iadd, 1) := by decide +kernel
theorem dX3_matchOwn_80 : decode cX3_matchOwn 80 = .ok (.dup2, 1) := by decide +kernel
theorem dX3_matchOwn_81 : decode cX3_matchOwn 81 = .ok (.laload, 1) := by decide +kernel
theorem dX3_matchOwn_82 : decode cX3_matchOwn 82 = .ok (.lconst 1, 1) := by decide +kernel
theorem dX3_matchOwn_83 : decode cX3_matchOwn 83 = .ok (.iload_n 2, 1) := by decide +kernel
theorem dX3_matchOwn_84 : decode cX3_matchOwn 84 = .ok (.bipush 64, 2) := by decide +kernel
theorem dX3_matchOwn_86 : decode cX3_matchOwn 86 = .ok (.irem, 1) := by decide +kernel
theorem dX3_matchOwn_87 : decode cX3_matchOwn 87 = .ok (.lshl, 1) := by decide +kernel
theorem dX3_matchOwn_88 : decode cX3_matchOwn 88 = .ok (.lor, 1) := by decide +kernel
theorem dX3_matchOwn_89 : decode cX3_matchOwn 89 = .ok (.lastore, 1) := by decide +kernel
theorem dX3_matchOwn_90 : decode cX3_matchOwn 90 = .ok (.aload_n 0, 1) := by decide +kernel
theorem dX3_matchOwn_91 : decode cX3_matchOwn 91 = .ok (.getfield 48, 3) := by decide +kernel
theorem dX3_matchOwn_94 : decode cX3_matchOwn 94 = .ok (.iload_n 2, 1) := by decide +kernel
theorem dX3_matchOwn_95 : decode cX3_matchOwn 95 = .ok (.iconst 5, 1) := by decide +kernel
theorem dX3_matchOwn_96 : decode cX3_matchOwn 96 = .ok (.imul, 1) := by decide +kernel
theorem dX3_matchOwn_97 : decode cX3_matchOwn 97 = .ok (.iload_n 1, 1) := by decide +kernel
theorem dX3_matchOwn_98 : decode cX3_matchOwn 98 = .ok (.bipush 64, 2) := by decide +kernel
theorem dX3_matchOwn_100 : decode cX3_matchOwn 100 = .ok (.idiv, 1) := by decide +kernel
theorem dX3_matchOwn_101 : decode cX3_matchOwn 101 = .ok (.iadd, 1) := by decide +kernel
theorem dX3_matchOwn_102 : decode cX3_matchOwn 102 = .ok (.dup2, 1) := by decide +kernel
theorem dX3_matchOwn_103 : decode cX3_matchOwn 103 = .ok (.laload, 1) := by decide +kernel
theorem dX3_matchOwn_104 : decode cX3_matchOwn 104 = .ok (.lconst 1, 1) := by decide +kernel
theorem dX3_matchOwn_105 : decode cX3_matchOwn 105 = .ok (.iload_n 1, 1) := by decide +kernel
theorem dX3_matchOwn_106 : decode cX3_matchOwn 106 = .ok (.bipush 64, 2) := by decide +kernel
theorem dX3_matchOwn_108 : decode cX3_matchOwn 108 = .ok (.irem, 1) := by decide +kernel
theorem dX3_matchOwn_109 : decode cX3_matchOwn 109 = .ok (.lshl, 1) := by decide +kernel
theorem dX3_matchOwn_110 : decode cX3_matchOwn 110 = .ok (.lor, 1) := by decide +kernel
theorem dX3_matchOwn_111 : decode cX3_matchOwn 111 = .ok (.lastore, 1) := by decide +kernel
theorem dX3_matchOwn_112 : decode cX3_matchOwn 112 = .ok (.iinc 2 1, 3) := by decide +kernel
theorem dX3_matchOwn_115 : decode cX3_matchOwn 115 = .ok (.goto (-85), 3) := by decide +kernel
theorem dX3_matchOwn_118 : decode cX3_matchOwn 118 = .ok (.iinc 1 1, 3) := by decide +kernel
theorem dX3_matchOwn_121 : decode cX3_matchOwn 121 = .ok (.goto (-103), 3) := by decide +kernel
theorem dX3_matchOwn_124 : decode cX3_matchOwn 124 = .ok (.return_, 1) := by decide +kernel
theorem dX3_hasBit_0 : decode cX3_hasBit 0 = .ok (.aload_n 0, 1) := by decide +kernel
theorem dX3_hasBit_1 : decode cX3_hasBit 1 = .ok (.iload_n 1, 1) := by decide +kernel
theorem dX3_hasBit_2 : decode cX3_hasBit 2 = .ok (.iconst 5, 1) := by decide +kernel
theorem dX3_hasBit_3 : decode cX3_hasBit 3 = .ok (.imul, 1) := by decide +kernel
theorem dX3_hasBit_4 : decode cX3_hasBit 4 = .ok (.iload_n 2, 1) := by decide +kernel
theorem dX3_hasBit_5 : decode cX3_hasBit 5 = .ok (.bipush 64, 2) := by decide +kernel
theorem dX3_hasBit_7 : decode cX3_hasBit 7 = .ok (.idiv, 1) := by decide +kernel
theorem dX3_hasBit_8 : decode cX3_hasBit 8 = .ok (.iadd, 1) := by decide +kernel
theorem dX3_hasBit_9 : decode cX3_hasBit 9 = .ok (.laload, 1) := by decide +kernel
theorem dX3_hasBit_10 : decode cX3_hasBit 10 = .ok (.iload_n 2, 1) := by decide +kernel
theorem dX3_hasBit_11 : decode cX3_hasBit 11 = .ok (.bipush 64, 2) := by decide +kernel
theorem dX3_hasBit_13 : decode cX3_hasBit 13 = .ok (.irem, 1) := by decide +kernel
theorem dX3_hasBit_14 : decode cX3_hasBit 14 = .ok (.lushr, 1) := by decide +kernel
theorem dX3_hasBit_15 : decode cX3_hasBit 15 = .ok (.lconst 1, 1) := by decide +kernel
theorem dX3_hasBit_16 : decode cX3_hasBit 16 = .ok (.land, 1) := by decide +kernel
theorem dX3_hasBit_17 : decode cX3_hasBit 17 = .ok (.lconst 0, 1) := by decide +kernel
theorem dX3_hasBit_18 : decode cX3_hasBit 18 = .ok (.lcmp, 1) := by decide +kernel
theorem dX3_hasBit_19 : decode cX3_hasBit 19 = .ok (.ifCond .eq 7, 3) := by decide +kernel
theorem dX3_hasBit_22 : decode cX3_hasBit 22 = .ok (.iconst 1, 1) := by decide +kernel
theorem dX3_hasBit_23 : decode cX3_hasBit 23 = .ok (.goto 4, 3) := by decide +kernel
theorem dX3_hasBit_26 : decode cX3_hasBit 26 = .ok (.iconst 0, 1) := by decide +kernel
theorem dX3_hasBit_27 : decode cX3_hasBit 27 = .ok (.ireturn, 1) := by decide +kernel
theorem dX3_third_0 : decode cX3_third 0 = .ok (.iconst 0, 1) := by decide +kernel
theorem dX3_third_1 : decode cX3_third 1 = .ok (.istore_n 3, 1) := by decide +kernel
theorem dX3_third_2 : decode cX3_third 2 = .ok (.iload_n 3, 1) := by decide +kernel
theorem dX3_third_3 : decode cX3_third 3 = .ok (.iconst 5, 1) := by decide +kernel
theorem dX3_third_4 : decode cX3_third 4 = .ok (.if_icmp .ge 116, 3) := by decide +kernel
theorem dX3_third_7 : decode cX3_third 7 = .ok (.aload_n 0, 1) := by decide +kernel
theorem dX3_third_8 : decode cX3_third 8 = .ok (.getfield 44, 3) := by decide +kernel
theorem dX3_third_11 : decode cX3_third 11 = .ok (.iload_n 2, 1) := by decide +kernel
theorem dX3_third_12 : decode cX3_third 12 = .ok (.iconst 5, 1) := by decide +kernel
theorem dX3_third_13 : decode cX3_third 13 = .ok (.imul, 1) := by decide +kernel
theorem dX3_third_14 : decode cX3_third 14 = .ok (.iload_n 3, 1) := by decide +kernel
theorem dX3_third_15 : decode cX3_third 15 = .ok (.iadd, 1) := by decide +kernel
theorem dX3_third_16 : decode cX3_third 16 = .ok (.laload, 1) := by decide +kernel
theorem dX3_third_17 : decode cX3_third 17 = .ok (.aload_n 0, 1) := by decide +kernel
theorem dX3_third_18 : decode cX3_third 18 = .ok (.getfield 48, 3) := by decide +kernel
theorem dX3_third_21 : decode cX3_third 21 = .ok (.iload_n 1, 1) := by decide +kernel
theorem dX3_third_22 : decode cX3_third 22 = .ok (.iconst 5, 1) := by decide +kernel
theorem dX3_third_23 : decode cX3_third 23 = .ok (.imul, 1) := by decide +kernel
theorem dX3_third_24 : decode cX3_third 24 = .ok (.iload_n 3, 1) := by decide +kernel
theorem dX3_third_25 : decode cX3_third 25 = .ok (.iadd, 1) := by decide +kernel
theorem dX3_third_26 : decode cX3_third 26 = .ok (.laload, 1) := by decide +kernel
theorem dX3_third_27 : decode cX3_third 27 = .ok (.land, 1) := by decide +kernel
theorem dX3_third_28 : decode cX3_third 28 = .ok (.lconst 0, 1) := by decide +kernel
theorem dX3_third_29 : decode cX3_third 29 = .ok (.lcmp, 1) := by decide +kernel
theorem dX3_third_30 : decode cX3_third 30 = .ok (.ifCond .ne 6, 3) := by decide +kernel
theorem dX3_third_33 : decode cX3_third 33 = .ok (.goto 81, 3) := by decide +kernel
theorem dX3_third_36 : decode cX3_third 36 = .ok (.aload_n 0, 1) := by decide +kernel
theorem dX3_third_37 : decode cX3_third 37 = .ok (.getfield 27, 3) := by decide +kernel
theorem dX3_third_40 : decode cX3_third 40 = .ok (.iconst 0, 1) := by decide +kernel
theorem dX3_third_41 : decode cX3_third 41 = .ok (.iaload, 1) := by decide +kernel
theorem dX3_third_42 : decode cX3_third 42 = .ok (.iload_n 3, 1) := by decide +kernel
theorem dX3_third_43 : decode cX3_third 43 = .ok (.bipush 64, 2) := by decide +kernel
theorem dX3_third_45 : decode cX3_third 45 = .ok (.imul, 1) := by decide +kernel
theorem dX3_third_46 : decode cX3_third 46 = .ok (.bipush 64, 2) := by decide +kernel
theorem dX3_third_48 : decode cX3_third 48 = .ok (.iadd, 1) := by decide +kernel
theorem dX3_third_49 : decode cX3_third 49 = .ok (.invokestatic 125, 3) := by decide +kernel
theorem dX3_third_52 : decode cX3_third 52 = .ok (.istore 4, 2) := by decide +kernel
theorem dX3_third_54 : decode cX3_third 54 = .ok (.iload_n 1, 1) := by decide +kernel
theorem dX3_third_55 : decode cX3_third 55 = .ok (.iconst 1, 1) := by decide +kernel
theorem dX3_third_56 : decode cX3_third 56 = .ok (.iadd, 1) := by decide +kernel
theorem dX3_third_57 : decode cX3_third 57 = .ok (.iload_n 3, 1) := by decide +kernel
theorem dX3_third_58 : decode cX3_third 58 = .ok (.bipush 64, 2) := by decide +kernel
theorem dX3_third_60 : decode cX3_third 60 = .ok (.imul, 1) := by decide +kernel
theorem dX3_third_61 : decode cX3_third 61 = .ok (.invokestatic 130, 3) := by decide +kernel
theorem dX3_third_64 : decode cX3_third 64 = .ok (.istore 5, 2) := by decide +kernel
theorem dX3_third_66 : decode cX3_third 66 = .ok (.iload 5, 2) := by decide +kernel
theorem dX3_third_68 : decode cX3_third 68 = .ok (.iload 4, 2) := by decide +kernel
theorem dX3_third_70 : decode cX3_third 70 = .ok (.if_icmp .ge 44, 3) := by decide +kernel
theorem dX3_third_73 : decode cX3_third 73 = .ok (.iload 5, 2) := by decide +kernel
theorem dX3_third_75 : decode cX3_third 75 = .ok (.iload_n 2, 1) := by decide +kernel
theorem dX3_third_76 : decode cX3_third 76 = .ok (.if_icmp .eq 32, 3) := by decide +kernel
theorem dX3_third_79 : decode cX3_third 79 = .ok (.aload_n 0, 1) := by decide +kernel
theorem dX3_third_80 : decode cX3_third 80 = .ok (.getfield 44, 3) := by decide +kernel
theorem dX3_third_83 : decode cX3_third 83 = .ok (.iload_n 2, 1) := by decide +kernel
theorem dX3_third_84 : decode cX3_third 84 = .ok (.iload 5, 2) := by decide +kernel
theorem dX3_third_86 : decode cX3_third 86 = .ok (.invokestatic 112, 3) := by decide +kernel
theorem dX3_third_89 : decode cX3_third 89 = .ok (.ifCond .eq 19, 3) := by decide +kernel
theorem dX3_third_92 : decode cX3_third 92 = .ok (.aload_n 0, 1) := by decide +kernel
theorem dX3_third_93 : decode cX3_third 93 = .ok (.getfield 48, 3) := by decide +kernel
theorem dX3_third_96 : decode cX3_third 96 = .ok (.iload_n 1, 1) := by decide +kernel
theorem dX3_third_97 : decode cX3_third 97 = .ok (.iload 5, 2) := by decide +kernel
theorem dX3_third_99 : decode cX3_third 99 = .ok (.invokestatic 112, 3) := by decide +kernel
theorem dX3_third_102 : decode cX3_third 102 = .ok (.ifCond .eq 6, 3) := by decide +kernel
theorem dX3_third_105 : decode cX3_third 105 = .ok (.iload 5, 2) := by decide +kernel
theorem dX3_third_107 : decode cX3_third 107 = .ok (.ireturn, 1) := by decide +kernel
theorem dX3_third_108 : decode cX3_third 108 = .ok (.iinc 5 1, 3) := by decide +kernel
theorem dX3_third_111 : decode cX3_third 111 = .ok (.goto (-45), 3) := by decide +kernel
theorem dX3_third_114 : decode cX3_third 114 = .ok (.iinc 3 1, 3) := by decide +kernel
theorem dX3_third_117 : decode cX3_third 117 = .ok (.goto (-115), 3) := by decide +kernel
theorem dX3_third_120 : decode cX3_third 120 = .ok (.iconst (-1), 1) := by decide +kernel
theorem dX3_third_121 : decode cX3_third 121 = .ok (.ireturn, 1) := by decide +kernel
theorem dX3_findRest_0 : decode cX3_findRest 0 = .ok (.aload_n 0, 1) := by decide +kernel
theorem dX3_findRest_1 : decode cX3_findRest 1 = .ok (.iconst 0, 1) := by decide +kernel
theorem dX3_findRest_2 : decode cX3_findRest 2 = .ok (.invokevirtual 133, 3) := by decide +kernel
theorem dX3_findRest_5 : decode cX3_findRest 5 = .ok (.istore_n 1, 1) := by decide +kernel
theorem dX3_findRest_6 : decode cX3_findRest 6 = .ok (.aload_n 0, 1) := by decide +kernel
theorem dX3_findRest_7 : decode cX3_findRest 7 = .ok (.iconst 1, 1) := by decide +kernel
theorem dX3_findRest_8 : decode cX3_findRest 8 = .ok (.invokevirtual 133, 3) := by decide +kernel
theorem dX3_findRest_11 : decode cX3_findRest 11 = .ok (.istore_n 2, 1) := by decide +kernel
theorem dX3_findRest_12 : decode cX3_findRest 12 = .ok (.aload_n 0, 1) := by decide +kernel
theorem dX3_findRest_13 : decode cX3_findRest 13 = .ok (.iload_n 1, 1) := by decide +kernel
theorem dX3_findRest_14 : decode cX3_findRest 14 = .ok (.putfield 136, 3) := by decide +kernel
theorem dX3_findRest_17 : decode cX3_findRest 17 = .ok (.iload_n 1, 1) := by decide +kernel
theorem dX3_findRest_18 : decode cX3_findRest 18 = .ok (.iload_n 2, 1) := by decide +kernel
theorem dX3_findRest_19 : decode cX3_findRest 19 = .ok (.ineg, 1) := by decide +kernel
theorem dX3_findRest_20 : decode cX3_findRest 20 = .ok (.if_icmp .ne 7, 3) := by decide +kernel
theorem dX3_findRest_23 : decode cX3_findRest 23 = .ok (.iconst 1, 1) := by decide +kernel
theorem dX3_findRest_24 : decode cX3_findRest 24 = .ok (.goto 4, 3) := by decide +kernel
theorem dX3_findRest_27 : decode cX3_findRest 27 = .ok (.iconst 0, 1) := by decide +kernel
theorem dX3_findRest_28 : decode cX3_findRest 28 = .ok (.ireturn, 1) := by decide +kernel
theorem dX3_firstGuard_0 : decode cX3_firstGuard 0 = .ok (.ldc 139, 2) := by decide +kernel
theorem dX3_firstGuard_2 : decode cX3_firstGuard 2 = .ok (.istore_n 2, 1) := by decide +kernel
theorem dX3_firstGuard_3 : decode cX3_firstGuard 3 = .ok (.iconst 0, 1) := by decide +kernel
theorem dX3_firstGuard_4 : decode cX3_firstGuard 4 = .ok (.istore_n 3, 1) := by decide +kernel
theorem dX3_firstGuard_5 : decode cX3_firstGuard 5 = .ok (.iload_n 3, 1) := by decide +kernel
theorem dX3_firstGuard_6 : decode cX3_firstGuard 6 = .ok (.aload_n 0, 1) := by decide +kernel
theorem dX3_firstGuard_7 : decode cX3_firstGuard 7 = .ok (.getfield 27, 3) := by decide +kernel
theorem dX3_firstGuard_10 : decode cX3_firstGuard 10 = .ok (.iload_n 1, 1) := by decide +kernel
theorem dX3_firstGuard_11 : decode cX3_firstGuard 11 = .ok (.iaload, 1) := by decide +kernel
theorem dX3_firstGuard_12 : decode cX3_firstGuard 12 = .ok (.if_icmp .ge 36, 3) := by decide +kernel
theorem dX3_firstGuard_15 : decode cX3_firstGuard 15 = .ok (.aload_n 0, 1) := by decide +kernel
theorem dX3_firstGuard_16 : decode cX3_firstGuard 16 = .ok (.iload_n 1, 1) := by decide +kernel
theorem dX3_firstGuard_17 : decode cX3_firstGuard 17 = .ok (.iload_n 3, 1) := by decide +kernel
theorem dX3_firstGuard_18 : decode cX3_firstGuard 18 = .ok (.invokevirtual 140, 3) := by decide +kernel
theorem dX3_firstGuard_21 : decode cX3_firstGuard 21 = .ok (.istore 4, 2) := by decide +kernel
theorem dX3_firstGuard_23 : decode cX3_firstGuard 23 = .ok (.iload 4, 2) := by decide +kernel
theorem dX3_firstGuard_25 : decode cX3_firstGuard 25 = .ok (.iload_n 2, 1) := by decide +kernel
theorem dX3_firstGuard_26 : decode cX3_firstGuard 26 = .ok (.if_icmp .gt 6, 3) := by decide +kernel
theorem dX3_firstGuard_29 : decode cX3_firstGuard 29 = .ok (.goto 13, 3) := by decide +kernel
theorem dX3_firstGuard_32 : decode cX3_firstGuard 32 = .ok (.iload 4, 2) := by decide +kernel
theorem dX3_firstGuard_34 : decode cX3_firstGuard 34 = .ok (.istore_n 2, 1) := by decide +kernel
theorem dX3_firstGuard_35 : decode cX3_firstGuard 35 = .ok (.aload_n 0, 1) := by decide +kernel
theorem dX3_firstGuard_36 : decode cX3_firstGuard 36 = .ok (.getfield 41, 3) := by decide +kernel
theorem dX3_firstGuard_39 : decode cX3_firstGuard 39 = .ok (.iload_n 1, 1) := by decide +kernel
theorem dX3_firstGuard_40 : decode cX3_firstGuard 40 = .ok (.iload_n 3, 1) := by decide +kernel
theorem dX3_firstGuard_41 : decode cX3_firstGuard 41 = .ok (.iastore, 1) := by decide +kernel
theorem dX3_firstGuard_42 : decode cX3_firstGuard 42 = .ok (.iinc 3 1, 3) := by decide +kernel
theorem dX3_firstGuard_45 : decode cX3_firstGuard 45 = .ok (.goto (-40), 3) := by decide +kernel
theorem dX3_firstGuard_48 : decode cX3_firstGuard 48 = .ok (.iload_n 2, 1) := by decide +kernel
theorem dX3_firstGuard_49 : decode cX3_firstGuard 49 = .ok (.ireturn, 1) := by decide +kernel
theorem dX3_worst_0 : decode cX3_worst 0 = .ok (.iconst 0, 1) := by decide +kernel
theorem dX3_worst_1 : decode cX3_worst 1 = .ok (.istore_n 3, 1) := by decide +kernel
theorem dX3_worst_2 : decode cX3_worst 2 = .ok (.iload_n 3, 1) := by decide +kernel
theorem dX3_worst_3 : decode cX3_worst 3 = .ok (.aload_n 0, 1) := by decide +kernel
theorem dX3_worst_4 : decode cX3_worst 4 = .ok (.getfield 7, 3) := by decide +kernel
theorem dX3_worst_7 : decode cX3_worst 7 = .ok (.getfield 69, 3) := by decide +kernel
theorem dX3_worst_10 : decode cX3_worst 10 = .ok (.if_icmp .ge 104, 3) := by decide +kernel
theorem dX3_worst_13 : decode cX3_worst 13 = .ok (.aload_n 0, 1) := by decide +kernel
theorem dX3_worst_14 : decode cX3_worst 14 = .ok (.getfield 35, 3) := by decide +kernel
theorem dX3_worst_17 : decode cX3_worst 17 = .ok (.iload_n 1, 1) := by decide +kernel
theorem dX3_worst_18 : decode cX3_worst 18 = .ok (.aaload, 1) := by decide +kernel
theorem dX3_worst_19 : decode cX3_worst 19 = .ok (.iload_n 2, 1) := by decide +kernel
theorem dX3_worst_20 : decode cX3_worst 20 = .ok (.iconst 5, 1) := by decide +kernel
theorem dX3_worst_21 : decode cX3_worst 21 = .ok (.imul, 1) := by decide +kernel
theorem dX3_worst_22 : decode cX3_worst 22 = .ok (.iload_n 3, 1) := by decide +kernel
theorem dX3_worst_23 : decode cX3_worst 23 = .ok (.iadd, 1) := by decide +kernel
theorem dX3_worst_24 : decode cX3_worst 24 = .ok (.iaload, 1) := by decide +kernel
theorem dX3_worst_25 : decode cX3_worst 25 = .ok (.istore 4, 2) := by decide +kernel
theorem dX3_worst_27 : decode cX3_worst 27 = .ok (.iconst 0, 1) := by decide +kernel
theorem dX3_worst_28 : decode cX3_worst 28 = .ok (.istore 5, 2) := by decide +kernel
theorem dX3_worst_30 : decode cX3_worst 30 = .ok (.iload 5, 2) := by decide +kernel
theorem dX3_worst_32 : decode cX3_worst 32 = .ok (.bipush 9, 2) := by decide +kernel
theorem dX3_worst_34 : decode cX3_worst 34 = .ok (.if_icmp .gt 74, 3) := by decide +kernel
theorem dX3_worst_37 : decode cX3_worst 37 = .ok (.aload_n 0, 1) := by decide +kernel
theorem dX3_worst_38 : decode cX3_worst 38 = .ok (.getfield 23, 3) := by decide +kernel
theorem dX3_worst_41 : decode cX3_worst 41 = .ok (.getfield 143, 3) := by decide +kernel
theorem dX3_worst_44 : decode cX3_worst 44 = .ok (.iload_n 3, 1) := by decide +kernel
theorem dX3_worst_45 : decode cX3_worst 45 = .ok (.bipush 10, 2) := by decide +kernel
theorem dX3_worst_47 : decode cX3_worst 47 = .ok (.imul, 1) := by decide +kernel
theorem dX3_worst_48 : decode cX3_worst 48 = .ok (.iload 5, 2) := by decide +kernel
theorem dX3_worst_50 : decode cX3_worst 50 = .ok (.iadd, 1) := by decide +kernel
theorem dX3_worst_51 : decode cX3_worst 51 = .ok (.iload_n 1, 1) := by decide +kernel
theorem dX3_worst_52 : decode cX3_worst 52 = .ok (.ifCond .ne 28, 3) := by decide +kernel
theorem dX3_worst_55 : decode cX3_worst 55 = .ok (.aload_n 0, 1) := by decide +kernel
theorem dX3_worst_56 : decode cX3_worst 56 = .ok (.getfield 7, 3) := by decide +kernel
theorem dX3_worst_59 : decode cX3_worst 59 = .ok (.getfield 98, 3) := by decide +kernel
theorem dX3_worst_62 : decode cX3_worst 62 = .ok (.iload_n 3, 1) := by decide +kernel
theorem dX3_worst_63 : decode cX3_worst 63 = .ok (.bipush 100, 2) := by decide +kernel
theorem dX3_worst_65 : decode cX3_worst 65 = .ok (.imul, 1) := by decide +kernel
theorem dX3_worst_66 : decode cX3_worst 66 = .ok (.iload 4, 2) := by decide +kernel
theorem dX3_worst_68 : decode cX3_worst 68 = .ok (.bipush 10, 2) := by decide +kernel
theorem dX3_worst_70 : decode cX3_worst 70 = .ok (.imul, 1) := by decide +kernel
theorem dX3_worst_71 : decode cX3_worst 71 = .ok (.iadd, 1) := by decide +kernel
theorem dX3_worst_72 : decode cX3_worst 72 = .ok (.iload 5, 2) := by decide +kernel
theorem dX3_worst_74 : decode cX3_worst 74 = .ok (.iadd, 1) := by decide +kernel
theorem dX3_worst_75 : decode cX3_worst 75 = .ok (.iaload, 1) := by decide +kernel
theorem dX3_worst_76 : decode cX3_worst 76 = .ok (.ineg, 1) := by decide +kernel
theorem dX3_worst_77 : decode cX3_worst 77 = .ok (.goto 24, 3) := by decide +kernel
theorem dX3_worst_80 : decode cX3_worst 80 = .ok (.aload_n 0, 1) := by decide +kernel
theorem dX3_worst_81 : decode cX3_worst 81 = .ok (.getfield 7, 3) := by decide +kernel
theorem dX3_worst_84 : decode cX3_worst 84 = .ok (.getfield 98, 3) := by decide +kernel
theorem dX3_worst_87 : decode cX3_worst 87 = .ok (.iload_n 3, 1) := by decide +kernel
theorem dX3_worst_88 : decode cX3_worst 88 = .ok (.bipush 100, 2) := by decide +kernel
theorem dX3_worst_90 : decode cX3_worst 90 = .ok (.imul, 1) := by decide +kernel
theorem dX3_worst_91 : decode cX3_worst 91 = .ok (.iload 5, 2) := by decide +kernel
theorem dX3_worst_93 : decode cX3_worst 93 = .ok (.bipush 10, 2) := by decide +kernel
theorem dX3_worst_95 : decode cX3_worst 95 = .ok (.imul, 1) := by decide +kernel
theorem dX3_worst_96 : decode cX3_worst 96 = .ok (.iadd, 1) := by decide +kernel
theorem dX3_worst_97 : decode cX3_worst 97 = .ok (.iload 4, 2) := by decide +kernel
theorem dX3_worst_99 : decode cX3_worst 99 = .ok (.iadd, 1) := by decide +kernel
theorem dX3_worst_100 : decode cX3_worst 100 = .ok (.iaload, 1) := by decide +kernel
theorem dX3_worst_101 : decode cX3_worst 101 = .ok (.iastore, 1) := by decide +kernel
theorem dX3_worst_102 : decode cX3_worst 102 = .ok (.iinc 5 1, 3) := by decide +kernel
theorem dX3_worst_105 : decode cX3_worst 105 = .ok (.goto (-75), 3) := by decide +kernel
theorem dX3_worst_108 : decode cX3_worst 108 = .ok (.iinc 3 1, 3) := by decide +kernel
theorem dX3_worst_111 : decode cX3_worst 111 = .ok (.goto (-109), 3) := by decide +kernel
theorem dX3_worst_114 : decode cX3_worst 114 = .ok (.aload_n 0, 1) := by decide +kernel
theorem dX3_worst_115 : decode cX3_worst 115 = .ok (.getfield 23, 3) := by decide +kernel
theorem dX3_worst_118 : decode cX3_worst 118 = .ok (.aload_n 0, 1) := by decide +kernel
theorem dX3_worst_119 : decode cX3_worst 119 = .ok (.getfield 7, 3) := by decide +kernel
theorem dX3_worst_122 : decode cX3_worst 122 = .ok (.getfield 69, 3) := by decide +kernel
theorem dX3_worst_125 : decode cX3_worst 125 = .ok (.aload_n 0, 1) := by decide +kernel
theorem dX3_worst_126 : decode cX3_worst 126 = .ok (.getfield 7, 3) := by decide +kernel
theorem dX3_worst_129 : decode cX3_worst 129 = .ok (.getfield 73, 3) := by decide +kernel
theorem dX3_worst_132 : decode cX3_worst 132 = .ok (.iconst 1, 1) := by decide +kernel
theorem dX3_worst_133 : decode cX3_worst 133 = .ok (.iload_n 1, 1) := by decide +kernel
theorem dX3_worst_134 : decode cX3_worst 134 = .ok (.isub, 1) := by decide +kernel
theorem dX3_worst_135 : decode cX3_worst 135 = .ok (.iaload, 1) := by decide +kernel
theorem dX3_worst_136 : decode cX3_worst 136 = .ok (.iconst 1, 1) := by decide +kernel
theorem dX3_worst_137 : decode cX3_worst 137 = .ok (.invokevirtual 146, 3) := by decide +kernel
theorem dX3_worst_140 : decode cX3_worst 140 = .ok (.ineg, 1) := by decide +kernel
theorem dX3_worst_141 : decode cX3_worst 141 = .ok (.ireturn, 1) := by decide +kernel
theorem dX3_costs_0 : decode cX3_costs 0 = .ok (.aload_n 0, 1) := by decide +kernel
theorem dX3_costs_1 : decode cX3_costs 1 = .ok (.getfield 7, 3) := by decide +kernel
theorem dX3_costs_4 : decode cX3_costs 4 = .ok (.invokevirtual 62, 3) := by decide +kernel
theorem dX3_costs_7 : decode cX3_costs 7 = .ok (.iconst 0, 1) := by decide +kernel
theorem dX3_costs_8 : decode cX3_costs 8 = .ok (.istore_n 1, 1) := by decide +kernel
theorem dX3_costs_9 : decode cX3_costs 9 = .ok (.iload_n 1, 1) := by decide +kernel
theorem dX3_costs_10 : decode cX3_costs 10 = .ok (.aload_n 0, 1) := by decide +kernel
theorem dX3_costs_11 : decode cX3_costs 11 = .ok (.getfield 7, 3) := by decide +kernel
theorem dX3_costs_14 : decode cX3_costs 14 = .ok (.getfield 69, 3) := by decide +kernel
theorem dX3_costs_17 : decode cX3_costs 17 = .ok (.if_icmp .ge 82, 3) := by decide +kernel
theorem dX3_costs_20 : decode cX3_costs 20 = .ok (.iconst 0, 1) := by decide +kernel
theorem dX3_costs_21 : decode cX3_costs 21 = .ok (.istore_n 2, 1) := by decide +kernel
theorem dX3_costs_22 : decode cX3_costs 22 = .ok (.iload_n 2, 1) := by decide +kernel
theorem dX3_costs_23 : decode cX3_costs 23 = .ok (.bipush 9, 2) := by decide +kernel
theorem dX3_costs_25 : decode cX3_costs 25 = .ok (.if_icmp .gt 68, 3) := by decide +kernel
theorem dX3_costs_28 : decode cX3_costs 28 = .ok (.iconst 0, 1) := by decide +kernel
theorem dX3_costs_29 : decode cX3_costs 29 = .ok (.istore_n 3, 1) := by decide +kernel
theorem dX3_costs_30 : decode cX3_costs 30 = .ok (.iload_n 3, 1) := by decide +kernel
theorem dX3_costs_31 : decode cX3_costs 31 = .ok (.bipush 9, 2) := by decide +kernel
theorem dX3_costs_33 : decode cX3_costs 33 = .ok (.if_icmp .gt 31, 3) := by decide +kernel
theorem dX3_costs_36 : decode cX3_costs 36 = .ok (.aload_n 0, 1) := by decide +kernel
theorem dX3_costs_37 : decode cX3_costs 37 = .ok (.getfield 7, 3) := by decide +kernel
theorem dX3_costs_40 : decode cX3_costs 40 = .ok (.getfield 98, 3) := by decide +kernel
theorem dX3_costs_43 : decode cX3_costs 43 = .ok (.iload_n 1, 1) := by decide +kernel
theorem dX3_costs_44 : decode cX3_costs 44 = .ok (.bipush 100, 2) := by decide +kernel
theorem dX3_costs_46 : decode cX3_costs 46 = .ok (.imul, 1) := by decide +kernel
theorem dX3_costs_47 : decode cX3_costs 47 = .ok (.iload_n 2, 1) := by decide +kernel
theorem dX3_costs_48 : decode cX3_costs 48 = .ok (.bipush 10, 2) := by decide +kernel
theorem dX3_costs_50 : decode cX3_costs 50 = .ok (.imul, 1) := by decide +kernel
theorem dX3_costs_51 : decode cX3_costs 51 = .ok (.iadd, 1) := by decide +kernel
theorem dX3_costs_52 : decode cX3_costs 52 = .ok (.iload_n 3, 1) := by decide +kernel
theorem dX3_costs_53 : decode cX3_costs 53 = .ok (.iadd, 1) := by decide +kernel
theorem dX3_costs_54 : decode cX3_costs 54 = .ok (.iaload, 1) := by decide +kernel
theorem dX3_costs_55 : decode cX3_costs 55 = .ok (.ifCond .le 9, 3) := by decide +kernel
theorem dX3_costs_58 : decode cX3_costs 58 = .ok (.iinc 3 1, 3) := by decide +kernel
theorem dX3_costs_61 : decode cX3_costs 61 = .ok (.goto (-31), 3) := by decide +kernel
theorem dX3_costs_64 : decode cX3_costs 64 = .ok (.aload_n 0, 1) := by decide +kernel
theorem dX3_costs_65 : decode cX3_costs 65 = .ok (.getfield 51, 3) := by decide +kernel
theorem dX3_costs_68 : decode cX3_costs 68 = .ok (.iload_n 1, 1) := by decide +kernel
theorem dX3_costs_69 : decode cX3_costs 69 = .ok (.bipush 10, 2) := by decide +kernel
theorem dX3_costs_71 : decode cX3_costs 71 = .ok (.imul, 1) := by decide +kernel
theorem dX3_costs_72 : decode cX3_costs 72 = .ok (.iload_n 2, 1) := by decide +kernel
theorem dX3_costs_73 : decode cX3_costs 73 = .ok (.iadd, 1) := by decide +kernel
theorem dX3_costs_74 : decode cX3_costs 74 = .ok (.iload_n 3, 1) := by decide +kernel
theorem dX3_costs_75 : decode cX3_costs 75 = .ok (.bipush 9, 2) := by decide +kernel
theorem dX3_costs_77 : decode cX3_costs 77 = .ok (.if_icmp .gt 7, 3) := by decide +kernel
theorem dX3_costs_80 : decode cX3_costs 80 = .ok (.iload_n 3, 1) := by decide +kernel
theorem dX3_costs_81 : decode cX3_costs 81 = .ok (.goto 5, 3) := by decide +kernel
theorem dX3_costs_84 : decode cX3_costs 84 = .ok (.bipush 99, 2) := by decide +kernel
theorem dX3_costs_86 : decode cX3_costs 86 = .ok (.iastore, 1) := by decide +kernel
theorem dX3_costs_87 : decode cX3_costs 87 = .ok (.iinc 2 1, 3) := by decide +kernel
theorem dX3_costs_90 : decode cX3_costs 90 = .ok (.goto (-68), 3) := by decide +kernel
theorem dX3_costs_93 : decode cX3_costs 93 = .ok (.iinc 1 1, 3) := by decide +kernel
theorem dX3_costs_96 : decode cX3_costs 96 = .ok (.goto (-87), 3) := by decide +kernel
theorem dX3_costs_99 : decode cX3_costs 99 = .ok (.return_, 1) := by decide +kernel
theorem dX3_surely_0 : decode cX3_surely 0 = .ok (.aload_n 0, 1) := by decide +kernel
theorem dX3_surely_1 : decode cX3_surely 1 = .ok (.getfield 7, 3) := by decide +kernel
theorem dX3_surely_4 : decode cX3_surely 4 = .ok (.getfield 73, 3) := by decide +kernel
theorem dX3_surely_7 : decode cX3_surely 7 = .ok (.iconst 1, 1) := by decide +kernel
theorem dX3_surely_8 : decode cX3_surely 8 = .ok (.iaload, 1) := by decide +kernel
theorem dX3_surely_9 : decode cX3_surely 9 = .ok (.istore_n 2, 1) := by decide +kernel
theorem dX3_surely_10 : decode cX3_surely 10 = .ok (.aload_n 0, 1) := by decide +kernel
theorem dX3_surely_11 : decode cX3_surely 11 = .ok (.getfield 7, 3) := by decide +kernel
theorem dX3_surely_14 : decode cX3_surely 14 = .ok (.getfield 69, 3) := by decide +kernel
theorem dX3_surely_17 : decode cX3_surely 17 = .ok (.istore_n 3, 1) := by decide +kernel
theorem dX3_surely_18 : decode cX3_surely 18 = .ok (.iconst 0, 1) := by decide +kernel
theorem dX3_surely_19 : decode cX3_surely 19 = .ok (.istore 4, 2) := by decide +kernel
theorem dX3_surely_21 : decode cX3_surely 21 = .ok (.iload 4, 2) := by decide +kernel
theorem dX3_surely_23 : decode cX3_surely 23 = .ok (.bipush 9, 2) := by decide +kernel
theorem dX3_surely_25 : decode cX3_surely 25 = .ok (.if_icmp .gt 67, 3) := by decide +kernel
theorem dX3_surely_28 : decode cX3_surely 28 = .ok (.iconst 0, 1) := by decide +kernel
theorem dX3_surely_29 : decode cX3_surely 29 = .ok (.istore 5, 2) := by decide +kernel
theorem dX3_surely_31 : decode cX3_surely 31 = .ok (.iload 5, 2) := by decide +kernel
theorem dX3_surely_33 : decode cX3_surely 33 = .ok (.aload_n 0, 1) := by decide +kernel
theorem dX3_surely_34 : decode cX3_surely 34 = .ok (.getfield 7, 3) := by decide +kernel
theorem dX3_surely_37 : decode cX3_surely 37 = .ok (.getfield 69, 3) := by decide +kernel
theorem dX3_surely_40 : decode cX3_surely 40 = .ok (.if_icmp .ge 46, 3) := by decide +kernel
theorem dX3_surely_43 : decode cX3_surely 43 = .ok (.iload 4, 2) := by decide +kernel
theorem dX3_surely_45 : decode cX3_surely 45 = .ok (.iload_n 2, 1) := by decide +kernel
theorem dX3_surely_46 : decode cX3_surely 46 = .ok (.if_icmp .gt 40, 3) := by decide +kernel
theorem dX3_surely_49 : decode cX3_surely 49 = .ok (.aload_n 0, 1) := by decide +kernel
theorem dX3_surely_50 : decode cX3_surely 50 = .ok (.getfield 51, 3) := by decide +kernel
theorem dX3_surely_53 : decode cX3_surely 53 = .ok (.iload 5, 2) := by decide +kernel
theorem dX3_surely_55 : decode cX3_surely 55 = .ok (.bipush 10, 2) := by decide +kernel
theorem dX3_surely_57 : decode cX3_surely 57 = .ok (.imul, 1) := by decide +kernel
theorem dX3_surely_58 : decode cX3_surely 58 = .ok (.aload_n 1, 1) := by decide +kernel
theorem dX3_surely_59 : decode cX3_surely 59 = .ok (.iload 5, 2) := by decide +kernel
theorem dX3_surely_61 : decode cX3_surely 61 = .ok (.iaload, 1) := by decide +kernel
theorem dX3_surely_62 : decode cX3_surely 62 = .ok (.iadd, 1) := by decide +kernel
theorem dX3_surely_63 : decode cX3_surely 63 = .ok (.iaload, 1) := by decide +kernel
theorem dX3_surely_64 : decode cX3_surely 64 = .ok (.iload 4, 2) := by decide +kernel
theorem dX3_surely_66 : decode cX3_surely 66 = .ok (.if_icmp .eq 6, 3) := by decide +kernel
theorem dX3_surely_69 : decode cX3_surely 69 = .ok (.goto 11, 3) := by decide +kernel
theorem dX3_surely_72 : decode cX3_surely 72 = .ok (.iload_n 2, 1) := by decide +kernel
theorem dX3_surely_73 : decode cX3_surely 73 = .ok (.iload 4, 2) := by decide +kernel
theorem dX3_surely_75 : decode cX3_surely 75 = .ok (.isub, 1) := by decide +kernel
theorem dX3_surely_76 : decode cX3_surely 76 = .ok (.istore_n 2, 1) := by decide +kernel
theorem dX3_surely_77 : decode cX3_surely 77 = .ok (.iinc 3 (-1), 3) := by decide +kernel
theorem dX3_surely_80 : decode cX3_surely 80 = .ok (.iinc 5 1, 3) := by decide +kernel
theorem dX3_surely_83 : decode cX3_surely 83 = .ok (.goto (-52), 3) := by decide +kernel
theorem dX3_surely_86 : decode cX3_surely 86 = .ok (.iinc 4 1, 3) := by decide +kernel
theorem dX3_surely_89 : decode cX3_surely 89 = .ok (.goto (-68), 3) := by decide +kernel
theorem dX3_surely_92 : decode cX3_surely 92 = .ok (.iload_n 3, 1) := by decide +kernel
theorem dX3_surely_93 : decode cX3_surely 93 = .ok (.ireturn, 1) := by decide +kernel
theorem dX3_findMost_0 : decode cX3_findMost 0 = .ok (.aload_n 0, 1) := by decide +kernel
theorem dX3_findMost_1 : decode cX3_findMost 1 = .ok (.getfield 16, 3) := by decide +kernel
theorem dX3_findMost_4 : decode cX3_findMost 4 = .ok (.aload_n 0, 1) := by decide +kernel
theorem dX3_findMost_5 : decode cX3_findMost 5 = .ok (.getfield 7, 3) := by decide +kernel
theorem dX3_findMost_8 : decode cX3_findMost 8 = .ok (.getfield 69, 3) := by decide +kernel
theorem dX3_findMost_11 : decode cX3_findMost 11 = .ok (.iload_n 1, 1) := by decide +kernel
theorem dX3_findMost_12 : decode cX3_findMost 12 = .ok (.invokevirtual 76, 3) := by decide +kernel
theorem dX3_findMost_15 : decode cX3_findMost 15 = .ok (.istore_n 2, 1) := by decide +kernel
theorem dX3_findMost_16 : decode cX3_findMost 16 = .ok (.iload_n 2, 1) := by decide +kernel
theorem dX3_findMost_17 : decode cX3_findMost 17 = .ok (.ifCond .ne 5, 3) := by decide +kernel
theorem dX3_findMost_20 : decode cX3_findMost 20 = .ok (.iconst 0, 1) := by decide +kernel
theorem dX3_findMost_21 : decode cX3_findMost 21 = .ok (.ireturn, 1) := by decide +kernel
theorem dX3_findMost_22 : decode cX3_findMost 22 = .ok (.aload_n 0, 1) := by decide +kernel
theorem dX3_findMost_23 : decode cX3_findMost 23 = .ok (.iconst (-1), 1) := by decide +kernel
theorem dX3_findMost_24 : decode cX3_findMost 24 = .ok (.putfield 150, 3) := by decide +kernel
theorem dX3_findMost_27 : decode cX3_findMost 27 = .ok (.iconst 0, 1) := by decide +kernel
theorem dX3_findMost_28 : decode cX3_findMost 28 = .ok (.istore_n 3, 1) := by decide +kernel
theorem dX3_findMost_29 : decode cX3_findMost 29 = .ok (.iload_n 3, 1) := by decide +kernel
theorem dX3_findMost_30 : decode cX3_findMost 30 = .ok (.sipush 1000, 3) := by decide +kernel
theorem dX3_findMost_33 : decode cX3_findMost 33 = .ok (.if_icmp .ge 68, 3) := by decide +kernel
theorem dX3_findMost_36 : decode cX3_findMost 36 = .ok (.iload_n 2, 1) := by decide +kernel
theorem dX3_findMost_37 : decode cX3_findMost 37 = .ok (.ifCond .eq 64, 3) := by decide +kernel
theorem dX3_findMost_40 : decode cX3_findMost 40 = .ok (.aload_n 0, 1) := by decide +kernel
theorem dX3_findMost_41 : decode cX3_findMost 41 = .ok (.aload_n 0, 1) := by decide +kernel
theorem dX3_findMost_42 : decode cX3_findMost 42 = .ok (.getfield 16, 3) := by decide +kernel
theorem dX3_findMost_45 : decode cX3_findMost 45 = .ok (.getfield 80, 3) := by decide +kernel
theorem dX3_findMost_48 : decode cX3_findMost 48 = .ok (.invokevirtual 153, 3) := by decide +kernel
theorem dX3_findMost_51 : decode cX3_findMost 51 = .ok (.istore 4, 2) := by decide +kernel
theorem dX3_findMost_53 : decode cX3_findMost 53 = .ok (.iload 4, 2) := by decide +kernel
theorem dX3_findMost_55 : decode cX3_findMost 55 = .ok (.aload_n 0, 1) := by decide +kernel
theorem dX3_findMost_56 : decode cX3_findMost 56 = .ok (.getfield 150, 3) := by decide +kernel
theorem dX3_findMost_59 : decode cX3_findMost 59 = .ok (.if_icmp .le 28, 3) := by decide +kernel
theorem dX3_findMost_62 : decode cX3_findMost 62 = .ok (.aload_n 0, 1) := by decide +kernel
theorem dX3_findMost_63 : decode cX3_findMost 63 = .ok (.iload 4, 2) := by decide +kernel
theorem dX3_findMost_65 : decode cX3_findMost 65 = .ok (.putfield 150, 3) := by decide +kernel
theorem dX3_findMost_68 : decode cX3_findMost 68 = .ok (.aload_n 0, 1) := by decide +kernel
theorem dX3_findMost_69 : decode cX3_findMost 69 = .ok (.aload_n 0, 1) := by decide +kernel
theorem dX3_findMost_70 : decode cX3_findMost 70 = .ok (.getfield 7, 3) := by decide +kernel
theorem dX3_findMost_73 : decode cX3_findMost 73 = .ok (.aload_n 0, 1) := by decide +kernel
theorem dX3_findMost_74 : decode cX3_findMost 74 = .ok (.getfield 16, 3) := by decide +kernel
theorem dX3_findMost_77 : decode cX3_findMost 77 = .ok (.getfield 80, 3) := by decide +kernel
theorem dX3_findMost_80 : decode cX3_findMost 80 = .ok (.iconst 0, 1) := by decide +kernel
theorem dX3_findMost_81 : decode cX3_findMost 81 = .ok (.invokevirtual 90, 3) := by decide +kernel
theorem dX3_findMost_84 : decode cX3_findMost 84 = .ok (.putfield 157, 3) := by decide +kernel
theorem dX3_findMost_87 : decode cX3_findMost 87 = .ok (.aload_n 0, 1) := by decide +kernel
theorem dX3_findMost_88 : decode cX3_findMost 88 = .ok (.getfield 16, 3) := by decide +kernel
theorem dX3_findMost_91 : decode cX3_findMost 91 = .ok (.invokevirtual 87, 3) := by decide +kernel
theorem dX3_findMost_94 : decode cX3_findMost 94 = .ok (.istore_n 2, 1) := by decide +kernel
theorem dX3_findMost_95 : decode cX3_findMost 95 = .ok (.iinc 3 1, 3) := by decide +kernel
theorem dX3_findMost_98 : decode cX3_findMost 98 = .ok (.goto (-69), 3) := by decide +kernel
theorem dX3_findMost_101 : decode cX3_findMost 101 = .ok (.iconst 1, 1) := by decide +kernel
theorem dX3_findMost_102 : decode cX3_findMost 102 = .ok (.ireturn, 1) := by decide +kernel
theorem dX4_init_0 : decode cX4_init 0 = .ok (.aload_n 0, 1) := by decide +kernel
theorem dX4_init_1 : decode cX4_init 1 = .ok (.invokespecial 1, 3) := by decide +kernel
theorem dX4_init_4 : decode cX4_init 4 = .ok (.aload_n 0, 1) := by decide +kernel
theorem dX4_init_5 : decode cX4_init 5 = .ok (.bipush 120, 2) := by decide +kernel
theorem dX4_init_7 : decode cX4_init 7 = .ok (.newarray .int, 2) := by decide +kernel
theorem dX4_init_9 : decode cX4_init 9 = .ok (.putfield 9, 3) := by decide +kernel
theorem dX4_init_12 : decode cX4_init 12 = .ok (.aload_n 0, 1) := by decide +kernel
theorem dX4_init_13 : decode cX4_init 13 = .ok (.bipush 121, 2) := by decide +kernel
theorem dX4_init_15 : decode cX4_init 15 = .ok (.newarray .int, 2) := by decide +kernel
theorem dX4_init_17 : decode cX4_init 17 = .ok (.putfield 13, 3) := by decide +kernel
theorem dX4_init_20 : decode cX4_init 20 = .ok (.aload_n 0, 1) := by decide +kernel
theorem dX4_init_21 : decode cX4_init 21 = .ok (.bipush 121, 2) := by decide +kernel
theorem dX4_init_23 : decode cX4_init 23 = .ok (.newarray .int, 2) := by decide +kernel
theorem dX4_init_25 : decode cX4_init 25 = .ok (.putfield 16, 3) := by decide +kernel
theorem dX4_init_28 : decode cX4_init 28 = .ok (.aload_n 0, 1) := by decide +kernel
theorem dX4_init_29 : decode cX4_init 29 = .ok (.bipush 40, 2) := by decide +kernel
theorem dX4_init_31 : decode cX4_init 31 = .ok (.newarray .int, 2) := by decide +kernel
theorem dX4_init_33 : decode cX4_init 33 = .ok (.putfield 19, 3) := by decide +kernel
theorem dX4_init_36 : decode cX4_init 36 = .ok (.return_, 1) := by decide +kernel
theorem dX4_take_0 : decode cX4_take 0 = .ok (.aload_n 0, 1) := by decide +kernel
theorem dX4_take_1 : decode cX4_take 1 = .ok (.getfield 22, 3) := by decide +kernel
theorem dX4_take_4 : decode cX4_take 4 = .ok (.bipush 120, 2) := by decide +kernel
theorem dX4_take_6 : decode cX4_take 6 = .ok (.if_icmp .lt 5, 3) := by decide +kernel
theorem dX4_take_9 : decode cX4_take 9 = .ok (.iconst 0, 1) := by decide +kernel
theorem dX4_take_10 : decode cX4_take 10 = .ok (.ireturn, 1) := by decide +kernel
theorem dX4_take_11 : decode cX4_take 11 = .ok (.aload_n 0, 1) := by decide +kernel
theorem dX4_take_12 : decode cX4_take 12 = .ok (.getfield 9, 3) := by decide +kernel
theorem dX4_take_15 : decode cX4_take 15 = .ok (.aload_n 0, 1) := by decide +kernel
theorem dX4_take_16 : decode cX4_take 16 = .ok (.getfield 22, 3) := by decide +kernel
theorem dX4_take_19 : decode cX4_take 19 = .ok (.iload_n 1, 1) := by decide +kernel
theorem dX4_take_20 : decode cX4_take 20 = .ok (.iastore, 1) := by decide +kernel
theorem dX4_take_21 : decode cX4_take 21 = .ok (.aload_n 0, 1) := by decide +kernel
theorem dX4_take_22 : decode cX4_take 22 = .ok (.dup, 1) := by decide +kernel
theorem dX4_take_23 : decode cX4_take 23 = .ok (.getfield 22, 3) := by decide +kernel
theorem dX4_take_26 : decode cX4_take 26 = .ok (.iconst 1, 1) := by decide +kernel
theorem dX4_take_27 : decode cX4_take 27 = .ok (.iadd, 1) := by decide +kernel
theorem dX4_take_28 : decode cX4_take 28 = .ok (.putfield 22, 3) := by decide +kernel
theorem dX4_take_31 : decode cX4_take 31 = .ok (.iconst 1, 1) := by decide +kernel
theorem dX4_take_32 : decode cX4_take 32 = .ok (.ireturn, 1) := by decide +kernel
theorem dX4_isTold_0 : decode cX4_isTold 0 = .ok (.aload_n 0, 1) := by decide +kernel
theorem dX4_isTold_1 : decode cX4_isTold 1 = .ok (.getfield 26, 3) := by decide +kernel
theorem dX4_isTold_4 : decode cX4_isTold 4 = .ok (.ifCond .le 7, 3) := by decide +kernel
theorem dX4_isTold_7 : decode cX4_isTold 7 = .ok (.iconst 1, 1) := by decide +kernel
theorem dX4_isTold_8 : decode cX4_isTold 8 = .ok (.goto 4, 3) := by decide +kernel
theorem dX4_isTold_11 : decode cX4_isTold 11 = .ok (.iconst 0, 1) := by decide +kernel
theorem dX4_isTold_12 : decode cX4_isTold 12 = .ok (.ireturn, 1) := by decide +kernel
theorem dX4_read_0 : decode cX4_read 0 = .ok (.aload_n 0, 1) := by decide +kernel
theorem dX4_read_1 : decode cX4_read 1 = .ok (.iconst 0, 1) := by decide +kernel
theorem dX4_read_2 : decode cX4_read 2 = .ok (.putfield 29, 3) := by decide +kernel
theorem dX4_read_5 : decode cX4_read 5 = .ok (.aload_n 0, 1) := by decide +kernel
theorem dX4_read_6 : decode cX4_read 6 = .ok (.iconst (-1), 1) := by decide +kernel
theorem dX4_read_7 : decode cX4_read 7 = .ok (.putfield 32, 3) := by decide +kernel
theorem dX4_read_10 : decode cX4_read 10 = .ok (.aload_n 0, 1) := by decide +kernel
theorem dX4_read_11 : decode cX4_read 11 = .ok (.iconst 0, 1) := by decide +kernel
theorem dX4_read_12 : decode cX4_read 12 = .ok (.putfield 35, 3) := by decide +kernel
theorem dX4_read_15 : decode cX4_read 15 = .ok (.aload_n 0, 1) := by decide +kernel
theorem dX4_read_16 : decode cX4_read 16 = .ok (.invokevirtual 38, 3) := by decide +kernel
theorem dX4_read_19 : decode cX4_read 19 = .ok (.iconst 0, 1) := by decide +kernel
theorem dX4_read_20 : decode cX4_read 20 = .ok (.istore_n 1, 1) := by decide +kernel
theorem dX4_read_21 : decode cX4_read 21 = .ok (.iload_n 1, 1) := by decide +kernel
theorem dX4_read_22 : decode cX4_read 22 = .ok (.bipush 120, 2) := by decide +kernel
theorem dX4_read_24 : decode cX4_read 24 = .ok (.if_icmp .ge 22, 3) := by decide +kernel
theorem dX4_read_27 : decode cX4_read 27 = .ok (.aload_n 0, 1) := by decide +kernel
theorem dX4_read_28 : decode cX4_read 28 = .ok (.bipush 59, 2) := by decide +kernel
theorem dX4_read_30 : decode cX4_read 30 = .ok (.invokevirtual 41, 3) := by decide +kernel
theorem dX4_read_33 : decode cX4_read 33 = .ok (.ifCond .eq 13, 3) := by decide +kernel
theorem dX4_read_36 : decode cX4_read 36 = .ok (.aload_n 0, 1) := by decide +kernel
theorem dX4_read_37 : decode cX4_read 37 = .ok (.invokevirtual 38, 3) := by decide +kernel
theorem dX4_read_40 : decode cX4_read 40 = .ok (.iinc 1 1, 3) := by decide +kernel
theorem dX4_read_43 : decode cX4_read 43 = .ok (.goto (-22), 3) := by decide +kernel
theorem dX4_read_46 : decode cX4_read 46 = .ok (.aload_n 0, 1) := by decide +kernel
theorem dX4_read_47 : decode cX4_read 47 = .ok (.getfield 29, 3) := by decide +kernel
theorem dX4_read_50 : decode cX4_read 50 = .ok (.aload_n 0, 1) := by decide +kernel
theorem dX4_read_51 : decode cX4_read 51 = .ok (.getfield 22, 3) := by decide +kernel
theorem dX4_read_54 : decode cX4_read 54 = .ok (.if_icmp .ge 7, 3) := by decide +kernel
theorem dX4_read_57 : decode cX4_read 57 = .ok (.aload_n 0, 1) := by decide +kernel
theorem dX4_read_58 : decode cX4_read 58 = .ok (.invokevirtual 45, 3) := by decide +kernel
theorem dX4_read_61 : decode cX4_read 61 = .ok (.aload_n 0, 1) := by decide +kernel
theorem dX4_read_62 : decode cX4_read 62 = .ok (.getfield 32, 3) := by decide +kernel
theorem dX4_read_65 : decode cX4_read 65 = .ok (.ifCond .ge 28, 3) := by decide +kernel
theorem dX4_read_68 : decode cX4_read 68 = .ok (.aload_n 0, 1) := by decide +kernel
theorem dX4_read_69 : decode cX4_read 69 = .ok (.getfield 13, 3) := by decide +kernel
theorem dX4_read_72 : decode cX4_read 72 = .ok (.iconst 0, 1) := by decide +kernel
theorem dX4_read_73 : decode cX4_read 73 = .ok (.aload_n 0, 1) := by decide +kernel
theorem dX4_read_74 : decode cX4_read 74 = .ok (.getfield 16, 3) := by decide +kernel
theorem dX4_read_77 : decode cX4_read 77 = .ok (.iconst 0, 1) := by decide +kernel
theorem dX4_read_78 : decode cX4_read 78 = .ok (.aload_n 0, 1) := by decide +kernel
theorem dX4_read_79 : decode cX4_read 79 = .ok (.getfield 35, 3) := by decide +kernel
theorem dX4_read_82 : decode cX4_read 82 = .ok (.invokestatic 48, 3) := by decide +kernel
theorem dX4_read_85 : decode cX4_read 85 = .ok (.aload_n 0, 1) := by decide +kernel
theorem dX4_read_86 : decode cX4_read 86 = .ok (.aload_n 0, 1) := by decide +kernel
theorem dX4_read_87 : decode cX4_read 87 = .ok (.getfield 35, 3) := by decide +kernel
theorem dX4_read_90 : decode cX4_read 90 = .ok (.putfield 26, 3) := by decide +kernel
theorem dX4_read_93 : decode cX4_read 93 = .ok (.aload_n 0, 1) := by decide +kernel
theorem dX4_read_94 : decode cX4_read 94 = .ok (.iconst 0, 1) := by decide +kernel
theorem dX4_read_95 : decode cX4_read 95 = .ok (.putfield 22, 3) := by decide +kernel
theorem dX4_read_98 : decode cX4_read 98 = .ok (.aload_n 0, 1) := by decide +kernel
theorem dX4_read_99 : decode cX4_read 99 = .ok (.getfield 32, 3) := by decide +kernel
theorem dX4_read_102 : decode cX4_read 102 = .ok (.ireturn, 1) := by decide +kernel
theorem dX4_readLine_0 : decode cX4_readLine 0 = .ok (.aload_n 0, 1) := by decide +kernel
theorem dX4_readLine_1 : decode cX4_readLine 1 = .ok (.iconst 0, 1) := by decide +kernel
theorem dX4_readLine_2 : decode cX4_readLine 2 = .ok (.invokevirtual 54, 3) := by decide +kernel
theorem dX4_readLine_5 : decode cX4_readLine 5 = .ok (.aload_n 0, 1) := by decide +kernel
theorem dX4_readLine_6 : decode cX4_readLine 6 = .ok (.bipush 63, 2) := by decide +kernel
theorem dX4_readLine_8 : decode cX4_readLine 8 = .ok (.invokevirtual 41, 3) := by decide +kernel
theorem dX4_readLine_11 : decode cX4_readLine 11 = .ok (.ifCond .eq 14, 3) := by decide +kernel
theorem dX4_readLine_14 : decode cX4_readLine 14 = .ok (.aload_n 0, 1) := by decide +kernel
theorem dX4_readLine_15 : decode cX4_readLine 15 = .ok (.bipush (-63), 2) := by decide +kernel
theorem dX4_readLine_17 : decode cX4_readLine 17 = .ok (.invokevirtual 58, 3) := by decide +kernel
theorem dX4_readLine_20 : decode cX4_readLine 20 = .ok (.aload_n 0, 1) := by decide +kernel
theorem dX4_readLine_21 : decode cX4_readLine 21 = .ok (.iconst 0, 1) := by decide +kernel
theorem dX4_readLine_22 : decode cX4_readLine 22 = .ok (.invokevirtual 54, 3) := by decide +kernel
theorem dX4_readLine_25 : decode cX4_readLine 25 = .ok (.aload_n 0, 1) := by decide +kernel
theorem dX4_readLine_26 : decode cX4_readLine 26 = .ok (.bipush (-59), 2) := by decide +kernel
theorem dX4_readLine_28 : decode cX4_readLine 28 = .ok (.invokevirtual 58, 3) := by decide +kernel
theorem dX4_readLine_31 : decode cX4_readLine 31 = .ok (.return_, 1) := by decide +kernel
theorem dX4_readEither_0 : decode cX4_readEither 0 = .ok (.aload_n 0, 1) := by decide +kernel
theorem dX4_readEither_1 : decode cX4_readEither 1 = .ok (.iload_n 1, 1) := by decide +kernel
theorem dX4_readEither_2 : decode cX4_readEither 2 = .ok (.invokevirtual 61, 3) := by decide +kernel
theorem dX4_readEither_5 : decode cX4_readEither 5 = .ok (.iconst 0, 1) := by decide +kernel
theorem dX4_readEither_6 : decode cX4_readEither 6 = .ok (.istore_n 2, 1) := by decide +kernel
theorem dX4_readEither_7 : decode cX4_readEither 7 = .ok (.iload_n 2, 1) := by decide +kernel
theorem dX4_readEither_8 : decode cX4_readEither 8 = .ok (.bipush 120, 2) := by decide +kernel
theorem dX4_readEither_10 : decode cX4_readEither 10 = .ok (.if_icmp .ge 29, 3) := by decide +kernel
theorem dX4_readEither_13 : decode cX4_readEither 13 = .ok (.aload_n 0, 1) := by decide +kernel
theorem dX4_readEither_14 : decode cX4_readEither 14 = .ok (.bipush 124, 2) := by decide +kernel
theorem dX4_readEither_16 : decode cX4_readEither 16 = .ok (.invokevirtual 41, 3) := by decide +kernel
theorem dX4_readEither_19 : decode cX4_readEither 19 = .ok (.ifCond .eq 20, 3) := by decide +kernel
theorem dX4_readEither_22 : decode cX4_readEither 22 = .ok (.aload_n 0, 1) := by decide +kernel
theorem dX4_readEither_23 : decode cX4_readEither 23 = .ok (.iload_n 1, 1) := by decide +kernel
theorem dX4_readEither_24 : decode cX4_readEither 24 = .ok (.invokevirtual 61, 3) := by decide +kernel
theorem dX4_readEither_27 : decode cX4_readEither 27 = .ok (.aload_n 0, 1) := by decide +kernel
theorem dX4_readEither_28 : decode cX4_readEither 28 = .ok (.bipush (-124), 2) := by decide +kernel
theorem dX4_readEither_30 : decode cX4_readEither 30 = .ok (.invokevirtual 58, 3) := by decide +kernel
theorem dX4_readEither_33 : decode cX4_readEither 33 = .ok (.iinc 2 1, 3) := by decide +kernel
theorem dX4_readEither_36 : decode cX4_readEither 36 = .ok (.goto (-29), 3) := by decide +kernel
theorem dX4_readEither_39 : decode cX4_readEither 39 = .ok (.return_, 1) := by decide +kernel
theorem dX4_readBoth_0 : decode cX4_readBoth 0 = .ok (.aload_n 0, 1) := by decide +kernel
theorem dX4_readBoth_1 : decode cX4_readBoth 1 = .ok (.iload_n 1, 1) := by decide +kernel
theorem dX4_readBoth_2 : decode cX4_readBoth 2 = .ok (.invokevirtual 64, 3) := by decide +kernel
theorem dX4_readBoth_5 : decode cX4_readBoth 5 = .ok (.iconst 0, 1) := by decide +kernel
theorem dX4_readBoth_6 : decode cX4_readBoth 6 = .ok (.istore_n 2, 1) := by decide +kernel
theorem dX4_readBoth_7 : decode cX4_readBoth 7 = .ok (.iload_n 2, 1) := by decide +kernel
theorem dX4_readBoth_8 : decode cX4_readBoth 8 = .ok (.bipush 120, 2) := by decide +kernel
theorem dX4_readBoth_10 : decode cX4_readBoth 10 = .ok (.if_icmp .ge 29, 3) := by decide +kernel
theorem dX4_readBoth_13 : decode cX4_readBoth 13 = .ok (.aload_n 0, 1) := by decide +kernel
theorem dX4_readBoth_14 : decode cX4_readBoth 14 = .ok (.bipush 38, 2) := by decide +kernel
theorem dX4_readBoth_16 : decode cX4_readBoth 16 = .ok (.invokevirtual 41, 3) := by decide +kernel
theorem dX4_readBoth_19 : decode cX4_readBoth 19 = .ok (.ifCond .eq 20, 3) := by decide +kernel
theorem dX4_readBoth_22 : decode cX4_readBoth 22 = .ok (.aload_n 0, 1) := by decide +kernel
theorem dX4_readBoth_23 : decode cX4_readBoth 23 = .ok (.iload_n 1, 1) := by decide +kernel
theorem dX4_readBoth_24 : decode cX4_readBoth 24 = .ok (.invokevirtual 64, 3) := by decide +kernel
theorem dX4_readBoth_27 : decode cX4_readBoth 27 = .ok (.aload_n 0, 1) := by decide +kernel
theorem dX4_readBoth_28 : decode cX4_readBoth 28 = .ok (.bipush (-38), 2) := by decide +kernel
theorem dX4_readBoth_30 : decode cX4_readBoth 30 = .ok (.invokevirtual 58, 3) := by decide +kernel
theorem dX4_readBoth_33 : decode cX4_readBoth 33 = .ok (.iinc 2 1, 3) := by decide +kernel
theorem dX4_readBoth_36 : decode cX4_readBoth 36 = .ok (.goto (-29), 3) := by decide +kernel
theorem dX4_readBoth_39 : decode cX4_readBoth 39 = .ok (.return_, 1) := by decide +kernel
theorem dX4_readCompared_0 : decode cX4_readCompared 0 = .ok (.aload_n 0, 1) := by decide +kernel
theorem dX4_readCompared_1 : decode cX4_readCompared 1 = .ok (.iload_n 1, 1) := by decide +kernel
theorem dX4_readCompared_2 : decode cX4_readCompared 2 = .ok (.invokevirtual 67, 3) := by decide +kernel
theorem dX4_readCompared_5 : decode cX4_readCompared 5 = .ok (.aload_n 0, 1) := by decide +kernel
theorem dX4_readCompared_6 : decode cX4_readCompared 6 = .ok (.invokevirtual 70, 3) := by decide +kernel
theorem dX4_readCompared_9 : decode cX4_readCompared 9 = .ok (.istore_n 2, 1) := by decide +kernel
theorem dX4_readCompared_10 : decode cX4_readCompared 10 = .ok (.iload_n 2, 1) := by decide +kernel
theorem dX4_readCompared_11 : decode cX4_readCompared 11 = .ok (.bipush 60, 2) := by decide +kernel
theorem dX4_readCompared_13 : decode cX4_readCompared 13 = .ok (.if_icmp .eq 16, 3) := by decide +kernel
theorem dX4_readCompared_16 : decode cX4_readCompared 16 = .ok (.iload_n 2, 1) := by decide +kernel
theorem dX4_readCompared_17 : decode cX4_readCompared 17 = .ok (.bipush 61, 2) := by decide +kernel
theorem dX4_readCompared_19 : decode cX4_readCompared 19 = .ok (.if_icmp .eq 10, 3) := by decide +kernel
theorem dX4_readCompared_22 : decode cX4_readCompared 22 = .ok (.iload_n 2, 1) := by decide +kernel
theorem dX4_readCompared_23 : decode cX4_readCompared 23 = .ok (.bipush 62, 2) := by decide +kernel
theorem dX4_readCompared_25 : decode cX4_readCompared 25 = .ok (.if_icmp .eq 4, 3) := by decide +kernel
theorem dX4_readCompared_28 : decode cX4_readCompared 28 = .ok (.return_, 1) := by decide +kernel
theorem dX4_readCompared_29 : decode cX4_readCompared 29 = .ok (.aload_n 0, 1) := by decide +kernel
theorem dX4_readCompared_30 : decode cX4_readCompared 30 = .ok (.dup, 1) := by decide +kernel
theorem dX4_readCompared_31 : decode cX4_readCompared 31 = .ok (.getfield 29, 3) := by decide +kernel
theorem dX4_readCompared_34 : decode cX4_readCompared 34 = .ok (.iconst 1, 1) := by decide +kernel
theorem dX4_readCompared_35 : decode cX4_readCompared 35 = .ok (.iadd, 1) := by decide +kernel
theorem dX4_readCompared_36 : decode cX4_readCompared 36 = .ok (.putfield 29, 3) := by decide +kernel
theorem dX4_readCompared_39 : decode cX4_readCompared 39 = .ok (.aload_n 0, 1) := by decide +kernel
theorem dX4_readCompared_40 : decode cX4_readCompared 40 = .ok (.iload_n 1, 1) := by decide +kernel
theorem dX4_readCompared_41 : decode cX4_readCompared 41 = .ok (.invokevirtual 67, 3) := by decide +kernel
theorem dX4_readCompared_44 : decode cX4_readCompared 44 = .ok (.aload_n 0, 1) := by decide +kernel
theorem dX4_readCompared_45 : decode cX4_readCompared 45 = .ok (.iload_n 2, 1) := by decide +kernel
theorem dX4_readCompared_46 : decode cX4_readCompared 46 = .ok (.ineg, 1) := by decide +kernel
theorem dX4_readCompared_47 : decode cX4_readCompared 47 = .ok (.invokevirtual 58, 3) := by decide +kernel
theorem dX4_readCompared_50 : decode cX4_readCompared 50 = .ok (.return_, 1) := by decide +kernel
theorem dX4_readSum_0 : decode cX4_readSum 0 = .ok (.aload_n 0, 1) := by decide +kernel
theorem dX4_readSum_1 : decode cX4_readSum 1 = .ok (.iload_n 1, 1) := by decide +kernel
theorem dX4_readSum_2 : decode cX4_readSum 2 = .ok (.invokevirtual 74, 3) := by decide +kernel
theorem dX4_readSum_5 : decode cX4_readSum 5 = .ok (.iconst 0, 1) := by decide +kernel
theorem dX4_readSum_6 : decode cX4_readSum 6 = .ok (.istore_n 2, 1) := by decide +kernel
theorem dX4_readSum_7 : decode cX4_readSum 7 = .ok (.iload_n 2, 1) := by decide +kernel
theorem dX4_readSum_8 : decode cX4_readSum 8 = .ok (.bipush 120, 2) := by decide +kernel
theorem dX4_readSum_10 : decode cX4_readSum 10 = .ok (.if_icmp .ge 48, 3) := by decide +kernel
theorem dX4_readSum_13 : decode cX4_readSum 13 = .ok (.aload_n 0, 1) := by decide +kernel
theorem dX4_readSum_14 : decode cX4_readSum 14 = .ok (.invokevirtual 70, 3) := by decide +kernel
theorem dX4_readSum_17 : decode cX4_readSum 17 = .ok (.istore_n 3, 1) := by decide +kernel
theorem dX4_readSum_18 : decode cX4_readSum 18 = .ok (.iload_n 3, 1) := by decide +kernel
theorem dX4_readSum_19 : decode cX4_readSum 19 = .ok (.bipush 43, 2) := by decide +kernel
theorem dX4_readSum_21 : decode cX4_readSum 21 = .ok (.if_icmp .eq 10, 3) := by decide +kernel
theorem dX4_readSum_24 : decode cX4_readSum 24 = .ok (.iload_n 3, 1) := by decide +kernel
theorem dX4_readSum_25 : decode cX4_readSum 25 = .ok (.bipush 45, 2) := by decide +kernel
theorem dX4_readSum_27 : decode cX4_readSum 27 = .ok (.if_icmp .eq 4, 3) := by decide +kernel
theorem dX4_readSum_30 : decode cX4_readSum 30 = .ok (.return_, 1) := by decide +kernel
theorem dX4_readSum_31 : decode cX4_readSum 31 = .ok (.aload_n 0, 1) := by decide +kernel
theorem dX4_readSum_32 : decode cX4_readSum 32 = .ok (.dup, 1) := by decide +kernel
theorem dX4_readSum_33 : decode cX4_readSum 33 = .ok (.getfield 29, 3) := by decide +kernel
theorem dX4_readSum_36 : decode cX4_readSum 36 = .ok (.iconst 1, 1) := by decide +kernel
theorem dX4_readSum_37 : decode cX4_readSum 37 = .ok (.iadd, 1) := by decide +kernel
theorem dX4_readSum_38 : decode cX4_readSum 38 = .ok (.putfield 29, 3) := by decide +kernel
theorem dX4_readSum_41 : decode cX4_readSum 41 = .ok (.aload_n 0, 1) := by decide +kernel
theorem dX4_readSum_42 : decode cX4_readSum 42 = .ok (.iload_n 1, 1) := by decide +kernel
theorem dX4_readSum_43 : decode cX4_readSum 43 = .ok (.invokevirtual 74, 3) := by decide +kernel
theorem dX4_readSum_46 : decode cX4_readSum 46 = .ok (.aload_n 0, 1) := by decide +kernel
theorem dX4_readSum_47 : decode cX4_readSum 47 = .ok (.iload_n 3, 1) := by decide +kernel
theorem dX4_readSum_48 : decode cX4_readSum 48 = .ok (.ineg, 1) := by decide +kernel
theorem dX4_readSum_49 : decode cX4_readSum 49 = .ok (.invokevirtual 58, 3) := by decide +kernel
theorem dX4_readSum_52 : decode cX4_readSum 52 = .ok (.iinc 2 1, 3) := by decide +kernel
theorem dX4_readSum_55 : decode cX4_readSum 55 = .ok (.goto (-48), 3) := by decide +kernel
theorem dX4_readSum_58 : decode cX4_readSum 58 = .ok (.return_, 1) := by decide +kernel
theorem dX4_readProduct_0 : decode cX4_readProduct 0 = .ok (.aload_n 0, 1) := by decide +kernel
theorem dX4_readProduct_1 : decode cX4_readProduct 1 = .ok (.iload_n 1, 1) := by decide +kernel
theorem dX4_readProduct_2 : decode cX4_readProduct 2 = .ok (.invokevirtual 77, 3) := by decide +kernel
theorem dX4_readProduct_5 : decode cX4_readProduct 5 = .ok (.iconst 0, 1) := by decide +kernel
theorem dX4_readProduct_6 : decode cX4_readProduct 6 = .ok (.istore_n 2, 1) := by decide +kernel
theorem dX4_readProduct_7 : decode cX4_readProduct 7 = .ok (.iload_n 2, 1) := by decide +kernel
theorem dX4_readProduct_8 : decode cX4_readProduct 8 = .ok (.bipush 120, 2) := by decide +kernel
theorem dX4_readProduct_10 : decode cX4_readProduct 10 = .ok (.if_icmp .ge 54, 3) := by decide +kernel
theorem dX4_readProduct_13 : decode cX4_readProduct 13 = .ok (.aload_n 0, 1) := by decide +kernel
theorem dX4_readProduct_14 : decode cX4_readProduct 14 = .ok (.invokevirtual 70, 3) := by decide +kernel
theorem dX4_readProduct_17 : decode cX4_readProduct 17 = .ok (.istore_n 3, 1) := by decide +kernel
theorem dX4_readProduct_18 : decode cX4_readProduct 18 = .ok (.iload_n 3, 1) := by decide +kernel
theorem dX4_readProduct_19 : decode cX4_readProduct 19 = .ok (.bipush 42, 2) := by decide +kernel
theorem dX4_readProduct_21 : decode cX4_readProduct 21 = .ok (.if_icmp .eq 16, 3) := by decide +kernel
theorem dX4_readProduct_24 : decode cX4_readProduct 24 = .ok (.iload_n 3, 1) := by decide +kernel
theorem dX4_readProduct_25 : decode cX4_readProduct 25 = .ok (.bipush 47, 2) := by decide +kernel
theorem dX4_readProduct_27 : decode cX4_readProduct 27 = .ok (.if_icmp .eq 10, 3) := by decide +kernel
theorem dX4_readProduct_30 : decode cX4_readProduct 30 = .ok (.iload_n 3, 1) := by decide +kernel
theorem dX4_readProduct_31 : decode cX4_readProduct 31 = .ok (.bipush 37, 2) := by decide +kernel
theorem dX4_readProduct_33 : decode cX4_readProduct 33 = .ok (.if_icmp .eq 4, 3) := by decide +kernel
theorem dX4_readProduct_36 : decode cX4_readProduct 36 = .ok (.return_, 1) := by decide +kernel
theorem dX4_readProduct_37 : decode cX4_readProduct 37 = .ok (.aload_n 0, 1) := by decide +kernel
theorem dX4_readProduct_38 : decode cX4_readProduct 38 = .ok (.dup, 1) := by decide +kernel
theorem dX4_readProduct_39 : decode cX4_readProduct 39 = .ok (.getfield 29, 3) := by decide +kernel
theorem dX4_readProduct_42 : decode cX4_readProduct 42 = .ok (.iconst 1, 1) := by decide +kernel
theorem dX4_readProduct_43 : decode cX4_readProduct 43 = .ok (.iadd, 1) := by decide +kernel
theorem dX4_readProduct_44 : decode cX4_readProduct 44 = .ok (.putfield 29, 3) := by decide +kernel
theorem dX4_readProduct_47 : decode cX4_readProduct 47 = .ok (.aload_n 0, 1) := by decide +kernel
theorem dX4_readProduct_48 : decode cX4_readProduct 48 = .ok (.iload_n 1, 1) := by decide +kernel
theorem dX4_readProduct_49 : decode cX4_readProduct 49 = .ok (.invokevirtual 77, 3) := by decide +kernel
theorem dX4_readProduct_52 : decode cX4_readProduct 52 = .ok (.aload_n 0, 1) := by decide +kernel
theorem dX4_readProduct_53 : decode cX4_readProduct 53 = .ok (.iload_n 3, 1) := by decide +kernel
theorem dX4_readProduct_54 : decode cX4_readProduct 54 = .ok (.ineg, 1) := by decide +kernel
theorem dX4_readProduct_55 : decode cX4_readProduct 55 = .ok (.invokevirtual 58, 3) := by decide +kernel
theorem dX4_readProduct_58 : decode cX4_readProduct 58 = .ok (.iinc 2 1, 3) := by decide +kernel
theorem dX4_readProduct_61 : decode cX4_readProduct 61 = .ok (.goto (-54), 3) := by decide +kernel
theorem dX4_readProduct_64 : decode cX4_readProduct 64 = .ok (.return_, 1) := by decide +kernel
theorem dX4_readOperand_0 : decode cX4_readOperand 0 = .ok (.aload_n 0, 1) := by decide +kernel
theorem dX4_readOperand_1 : decode cX4_readOperand 1 = .ok (.invokevirtual 70, 3) := by decide +kernel
theorem dX4_readOperand_4 : decode cX4_readOperand 4 = .ok (.istore_n 2, 1) := by decide +kernel
theorem dX4_readOperand_5 : decode cX4_readOperand 5 = .ok (.iload_n 2, 1) := by decide +kernel
theorem dX4_readOperand_6 : decode cX4_readOperand 6 = .ok (.invokestatic 80, 3) := by decide +kernel
theorem dX4_readOperand_9 : decode cX4_readOperand 9 = .ok (.ifCond .eq 10, 3) := by decide +kernel
theorem dX4_readOperand_12 : decode cX4_readOperand 12 = .ok (.aload_n 0, 1) := by decide +kernel
theorem dX4_readOperand_13 : decode cX4_readOperand 13 = .ok (.invokevirtual 83, 3) := by decide +kernel
theorem dX4_readOperand_16 : decode cX4_readOperand 16 = .ok (.goto 68, 3) := by decide +kernel
theorem dX4_readOperand_19 : decode cX4_readOperand 19 = .ok (.iload_n 2, 1) := by decide +kernel
theorem dX4_readOperand_20 : decode cX4_readOperand 20 = .ok (.invokestatic 86, 3) := by decide +kernel
theorem dX4_readOperand_23 : decode cX4_readOperand 23 = .ok (.ifCond .eq 22, 3) := by decide +kernel
theorem dX4_readOperand_26 : decode cX4_readOperand 26 = .ok (.aload_n 0, 1) := by decide +kernel
theorem dX4_readOperand_27 : decode cX4_readOperand 27 = .ok (.dup, 1) := by decide +kernel
theorem dX4_readOperand_28 : decode cX4_readOperand 28 = .ok (.getfield 29, 3) := by decide +kernel
theorem dX4_readOperand_31 : decode cX4_readOperand 31 = .ok (.iconst 1, 1) := by decide +kernel
theorem dX4_readOperand_32 : decode cX4_readOperand 32 = .ok (.iadd, 1) := by decide +kernel
theorem dX4_readOperand_33 : decode cX4_readOperand 33 = .ok (.putfield 29, 3) := by decide +kernel
theorem dX4_readOperand_36 : decode cX4_readOperand 36 = .ok (.aload_n 0, 1) := by decide +kernel
theorem dX4_readOperand_37 : decode cX4_readOperand 37 = .ok (.iload_n 2, 1) := by decide +kernel
theorem dX4_readOperand_38 : decode cX4_readOperand 38 = .ok (.ineg, 1) := by decide +kernel
theorem dX4_readOperand_39 : decode cX4_readOperand 39 = .ok (.invokevirtual 58, 3) := by decide +kernel
theorem dX4_readOperand_42 : decode cX4_readOperand 42 = .ok (.goto 42, 3) := by decide +kernel
theorem dX4_readOperand_45 : decode cX4_readOperand 45 = .ok (.iload_n 1, 1) := by decide +kernel
theorem dX4_readOperand_46 : decode cX4_readOperand 46 = .ok (.bipush 6, 2) := by decide +kernel
theorem dX4_readOperand_48 : decode cX4_readOperand 48 = .ok (.if_icmp .ge 32, 3) := by decide +kernel
theorem dX4_readOperand_51 : decode cX4_readOperand 51 = .ok (.iload_n 2, 1) := by decide +kernel
theorem dX4_readOperand_52 : decode cX4_readOperand 52 = .ok (.bipush 40, 2) := by decide +kernel
theorem dX4_readOperand_54 : decode cX4_readOperand 54 = .ok (.if_icmp .eq 15, 3) := by decide +kernel
theorem dX4_readOperand_57 : decode cX4_readOperand 57 = .ok (.iload_n 2, 1) := by decide +kernel
theorem dX4_readOperand_58 : decode cX4_readOperand 58 = .ok (.bipush 33, 2) := by decide +kernel
theorem dX4_readOperand_60 : decode cX4_readOperand 60 = .ok (.if_icmp .eq 9, 3) := by decide +kernel
theorem dX4_readOperand_63 : decode cX4_readOperand 63 = .ok (.iload_n 2, 1) := by decide +kernel
theorem dX4_readOperand_64 : decode cX4_readOperand 64 = .ok (.bipush 45, 2) := by decide +kernel
theorem dX4_readOperand_66 : decode cX4_readOperand 66 = .ok (.if_icmp .ne 14, 3) := by decide +kernel
theorem dX4_readOperand_69 : decode cX4_readOperand 69 = .ok (.aload_n 0, 1) := by decide +kernel
theorem dX4_readOperand_70 : decode cX4_readOperand 70 = .ok (.iload_n 2, 1) := by decide +kernel
theorem dX4_readOperand_71 : decode cX4_readOperand 71 = .ok (.iload_n 1, 1) := by decide +kernel
theorem dX4_readOperand_72 : decode cX4_readOperand 72 = .ok (.iconst 1, 1) := by decide +kernel
theorem dX4_readOperand_73 : decode cX4_readOperand 73 = .ok (.iadd, 1) := by decide +kernel
theorem dX4_readOperand_74 : decode cX4_readOperand 74 = .ok (.invokevirtual 89, 3) := by decide +kernel
theorem dX4_readOperand_77 : decode cX4_readOperand 77 = .ok (.goto 7, 3) := by decide +kernel
theorem dX4_readOperand_80 : decode cX4_readOperand 80 = .ok (.aload_n 0, 1) := by decide +kernel
theorem dX4_readOperand_81 : decode cX4_readOperand 81 = .ok (.invokevirtual 45, 3) := by decide +kernel
theorem dX4_readOperand_84 : decode cX4_readOperand 84 = .ok (.return_, 1) := by decide +kernel
theorem dX4_readOpened_0 : decode cX4_readOpened 0 = .ok (.aload_n 0, 1) := by decide +kernel
theorem dX4_readOpened_1 : decode cX4_readOpened 1 = .ok (.dup, 1) := by decide +kernel
theorem dX4_readOpened_2 : decode cX4_readOpened 2 = .ok (.getfield 29, 3) := by decide +kernel
theorem dX4_readOpened_5 : decode cX4_readOpened 5 = .ok (.iconst 1, 1) := by decide +kernel
theorem dX4_readOpened_6 : decode cX4_readOpened 6 = .ok (.iadd, 1) := by decide +kernel
theorem dX4_readOpened_7 : decode cX4_readOpened 7 = .ok (.putfield 29, 3) := by decide +kernel
theorem dX4_readOpened_10 : decode cX4_readOpened 10 = .ok (.iload_n 1, 1) := by decide +kernel
theorem dX4_readOpened_11 : decode cX4_readOpened 11 = .ok (.bipush 40, 2) := by decide +kernel
theorem dX4_readOpened_13 : decode cX4_readOpened 13 = .ok (.if_icmp .ne 24, 3) := by decide +kernel
theorem dX4_readOpened_16 : decode cX4_readOpened 16 = .ok (.aload_n 0, 1) := by decide +kernel
theorem dX4_readOpened_17 : decode cX4_readOpened 17 = .ok (.iload_n 2, 1) := by decide +kernel
theorem dX4_readOpened_18 : decode cX4_readOpened 18 = .ok (.invokevirtual 54, 3) := by decide +kernel
theorem dX4_readOpened_21 : decode cX4_readOpened 21 = .ok (.aload_n 0, 1) := by decide +kernel
theorem dX4_readOpened_22 : decode cX4_readOpened 22 = .ok (.bipush 41, 2) := by decide +kernel
theorem dX4_readOpened_24 : decode cX4_readOpened 24 = .ok (.invokevirtual 41, 3) := by decide +kernel
theorem dX4_readOpened_27 : decode cX4_readOpened 27 = .ok (.ifCond .ne 31, 3) := by decide +kernel
theorem dX4_readOpened_30 : decode cX4_readOpened 30 = .ok (.aload_n 0, 1) := by decide +kernel
theorem dX4_readOpened_31 : decode cX4_readOpened 31 = .ok (.invokevirtual 45, 3) := by decide +kernel
theorem dX4_readOpened_34 : decode cX4_readOpened 34 = .ok (.goto 24, 3) := by decide +kernel
theorem dX4_readOpened_37 : decode cX4_readOpened 37 = .ok (.aload_n 0, 1) := by decide +kernel
theorem dX4_readOpened_38 : decode cX4_readOpened 38 = .ok (.iload_n 2, 1) := by decide +kernel
theorem dX4_readOpened_39 : decode cX4_readOpened 39 = .ok (.invokevirtual 77, 3) := by decide +kernel
theorem dX4_readOpened_42 : decode cX4_readOpened 42 = .ok (.aload_n 0, 1) := by decide +kernel
theorem dX4_readOpened_43 : decode cX4_readOpened 43 = .ok (.iload_n 1, 1) := by decide +kernel
theorem dX4_readOpened_44 : decode cX4_readOpened 44 = .ok (.bipush 33, 2) := by decide +kernel
theorem dX4_readOpened_46 : decode cX4_readOpened 46 = .ok (.if_icmp .ne 8, 3) := by decide +kernel
theorem dX4_readOpened_49 : decode cX4_readOpened 49 = .ok (.bipush (-33), 2) := by decide +kernel
theorem dX4_readOpened_51 : decode cX4_readOpened 51 = .ok (.goto 4, 3) := by decide +kernel
theorem dX4_readOpened_54 : decode cX4_readOpened 54 = .ok (.iconst (-1), 1) := by decide +kernel
theorem dX4_readOpened_55 : decode cX4_readOpened 55 = .ok (.invokevirtual 58, 3) := by decide +kernel
theorem dX4_readOpened_58 : decode cX4_readOpened 58 = .ok (.return_, 1) := by decide +kernel
theorem dX4_readNumber_0 : decode cX4_readNumber 0 = .ok (.iconst 0, 1) := by decide +kernel
theorem dX4_readNumber_1 : decode cX4_readNumber 1 = .ok (.istore_n 1, 1) := by decide +kernel
theorem dX4_readNumber_2 : decode cX4_readNumber 2 = .ok (.iconst 0, 1) := by decide +kernel
theorem dX4_readNumber_3 : decode cX4_readNumber 3 = .ok (.istore_n 2, 1) := by decide +kernel
theorem dX4_readNumber_4 : decode cX4_readNumber 4 = .ok (.iload_n 2, 1) := by decide +kernel
theorem dX4_readNumber_5 : decode cX4_readNumber 5 = .ok (.iconst 4, 1) := by decide +kernel
theorem dX4_readNumber_6 : decode cX4_readNumber 6 = .ok (.if_icmp .ge 42, 3) := by decide +kernel
theorem dX4_readNumber_9 : decode cX4_readNumber 9 = .ok (.aload_n 0, 1) := by decide +kernel
theorem dX4_readNumber_10 : decode cX4_readNumber 10 = .ok (.invokevirtual 70, 3) := by decide +kernel
theorem dX4_readNumber_13 : decode cX4_readNumber 13 = .ok (.invokestatic 80, 3) := by decide +kernel
theorem dX4_readNumber_16 : decode cX4_readNumber 16 = .ok (.ifCond .eq 32, 3) := by decide +kernel
theorem dX4_readNumber_19 : decode cX4_readNumber 19 = .ok (.iload_n 1, 1) := by decide +kernel
theorem dX4_readNumber_20 : decode cX4_readNumber 20 = .ok (.bipush 10, 2) := by decide +kernel
theorem dX4_readNumber_22 : decode cX4_readNumber 22 = .ok (.imul, 1) := by decide +kernel
theorem dX4_readNumber_23 : decode cX4_readNumber 23 = .ok (.aload_n 0, 1) := by decide +kernel
theorem dX4_readNumber_24 : decode cX4_readNumber 24 = .ok (.invokevirtual 70, 3) := by decide +kernel
theorem dX4_readNumber_27 : decode cX4_readNumber 27 = .ok (.iadd, 1) := by decide +kernel
theorem dX4_readNumber_28 : decode cX4_readNumber 28 = .ok (.bipush 48, 2) := by decide +kernel
theorem dX4_readNumber_30 : decode cX4_readNumber 30 = .ok (.isub, 1) := by decide +kernel
theorem dX4_readNumber_31 : decode cX4_readNumber 31 = .ok (.istore_n 1, 1) := by decide +kernel
theorem dX4_readNumber_32 : decode cX4_readNumber 32 = .ok (.aload_n 0, 1) := by decide +kernel
theorem dX4_readNumber_33 : decode cX4_readNumber 33 = .ok (.dup, 1) := by decide +kernel
theorem dX4_readNumber_34 : decode cX4_readNumber 34 = .ok (.getfield 29, 3) := by decide +kernel
theorem dX4_readNumber_37 : decode cX4_readNumber 37 = .ok (.iconst 1, 1) := by decide +kernel
theorem dX4_readNumber_38 : decode cX4_readNumber 38 = .ok (.iadd, 1) := by decide +kernel
theorem dX4_readNumber_39 : decode cX4_readNumber 39 = .ok (.putfield 29, 3) := by decide +kernel
theorem dX4_readNumber_42 : decode cX4_readNumber 42 = .ok (.iinc 2 1, 3) := by decide +kernel
theorem dX4_readNumber_45 : decode cX4_readNumber 45 = .ok (.goto (-41), 3) := by decide +kernel
theorem dX4_readNumber_48 : decode cX4_readNumber 48 = .ok (.aload_n 0, 1) := by decide +kernel
theorem dX4_readNumber_49 : decode cX4_readNumber 49 = .ok (.iload_n 1, 1) := by decide +kernel
theorem dX4_readNumber_50 : decode cX4_readNumber 50 = .ok (.invokevirtual 58, 3) := by decide +kernel
theorem dX4_readNumber_53 : decode cX4_readNumber 53 = .ok (.return_, 1) := by decide +kernel
theorem dX4_isDigit_0 : decode cX4_isDigit 0 = .ok (.iload_n 0, 1) := by decide +kernel
theorem dX4_isDigit_1 : decode cX4_isDigit 1 = .ok (.bipush 48, 2) := by decide +kernel
theorem dX4_isDigit_3 : decode cX4_isDigit 3 = .ok (.if_icmp .lt 13, 3) := by decide +kernel
theorem dX4_isDigit_6 : decode cX4_isDigit 6 = .ok (.iload_n 0, 1) := by decide +kernel
theorem dX4_isDigit_7 : decode cX4_isDigit 7 = .ok (.bipush 57, 2) := by decide +kernel
theorem dX4_isDigit_9 : decode cX4_isDigit 9 = .ok (.if_icmp .gt 7, 3) := by decide +kernel
theorem dX4_isDigit_12 : decode cX4_isDigit 12 = .ok (.iconst 1, 1) := by decide +kernel
theorem dX4_isDigit_13 : decode cX4_isDigit 13 = .ok (.goto 4, 3) := by decide +kernel
theorem dX4_isDigit_16 : decode cX4_isDigit 16 = .ok (.iconst 0, 1) := by decide +kernel
theorem dX4_isDigit_17 : decode cX4_isDigit 17 = .ok (.ireturn, 1) := by decide +kernel
theorem dX4_isName_0 : decode cX4_isName 0 = .ok (.iload_n 0, 1) := by decide +kernel
theorem dX4_isName_1 : decode cX4_isName 1 = .ok (.bipush 97, 2) := by decide +kernel
theorem dX4_isName_3 : decode cX4_isName 3 = .ok (.if_icmp .eq 27, 3) := by decide +kernel
theorem dX4_isName_6 : decode cX4_isName 6 = .ok (.iload_n 0, 1) := by decide +kernel
theorem dX4_isName_7 : decode cX4_isName 7 = .ok (.bipush 98, 2) := by decide +kernel
theorem dX4_isName_9 : decode cX4_isName 9 = .ok (.if_icmp .eq 21, 3) := by decide +kernel
theorem dX4_isName_12 : decode cX4_isName 12 = .ok (.iload_n 0, 1) := by decide +kernel
theorem dX4_isName_13 : decode cX4_isName 13 = .ok (.bipush 119, 2) := by decide +kernel
theorem dX4_isName_15 : decode cX4_isName 15 = .ok (.if_icmp .eq 15, 3) := by decide +kernel
theorem dX4_isName_18 : decode cX4_isName 18 = .ok (.iload_n 0, 1) := by decide +kernel
theorem dX4_isName_19 : decode cX4_isName 19 = .ok (.bipush 116, 2) := by decide +kernel
theorem dX4_isName_21 : decode cX4_isName 21 = .ok (.if_icmp .eq 9, 3) := by decide +kernel
theorem dX4_isName_24 : decode cX4_isName 24 = .ok (.iload_n 0, 1) := by decide +kernel
theorem dX4_isName_25 : decode cX4_isName 25 = .ok (.bipush 118, 2) := by decide +kernel
theorem dX4_isName_27 : decode cX4_isName 27 = .ok (.if_icmp .ne 7, 3) := by decide +kernel
theorem dX4_isName_30 : decode cX4_isName 30 = .ok (.iconst 1, 1) := by decide +kernel
theorem dX4_isName_31 : decode cX4_isName 31 = .ok (.goto 4, 3) := by decide +kernel
theorem dX4_isName_34 : decode cX4_isName 34 = .ok (.iconst 0, 1) := by decide +kernel
theorem dX4_isName_35 : decode cX4_isName 35 = .ok (.ireturn, 1) := by decide +kernel
theorem dX4_next_0 : decode cX4_next 0 = .ok (.aload_n 0, 1) := by decide +kernel
theorem dX4_next_1 : decode cX4_next 1 = .ok (.getfield 32, 3) := by decide +kernel
theorem dX4_next_4 : decode cX4_next 4 = .ok (.ifCond .ge 26, 3) := by decide +kernel
theorem dX4_next_7 : decode cX4_next 7 = .ok (.aload_n 0, 1) := by decide +kernel
theorem dX4_next_8 : decode cX4_next 8 = .ok (.getfield 29, 3) := by decide +kernel
theorem dX4_next_11 : decode cX4_next 11 = .ok (.aload_n 0, 1) := by decide +kernel
theorem dX4_next_12 : decode cX4_next 12 = .ok (.getfield 22, 3) := by decide +kernel
theorem dX4_next_15 : decode cX4_next 15 = .ok (.if_icmp .ge 15, 3) := by decide +kernel
theorem dX4_next_18 : decode cX4_next 18 = .ok (.aload_n 0, 1) := by decide +kernel
theorem dX4_next_19 : decode cX4_next 19 = .ok (.getfield 9, 3) := by decide +kernel
theorem dX4_next_22 : decode cX4_next 22 = .ok (.aload_n 0, 1) := by decide +kernel
theorem dX4_next_23 : decode cX4_next 23 = .ok (.getfield 29, 3) := by decide +kernel
theorem dX4_next_26 : decode cX4_next 26 = .ok (.iaload, 1) := by decide +kernel
theorem dX4_next_27 : decode cX4_next 27 = .ok (.goto 4, 3) := by decide +kernel
theorem dX4_next_30 : decode cX4_next 30 = .ok (.iconst (-1), 1) := by decide +kernel
theorem dX4_next_31 : decode cX4_next 31 = .ok (.ireturn, 1) := by decide +kernel
theorem dX4_takes_0 : decode cX4_takes 0 = .ok (.aload_n 0, 1) := by decide +kernel
theorem dX4_takes_1 : decode cX4_takes 1 = .ok (.invokevirtual 70, 3) := by decide +kernel
theorem dX4_takes_4 : decode cX4_takes 4 = .ok (.iload_n 1, 1) := by decide +kernel
theorem dX4_takes_5 : decode cX4_takes 5 = .ok (.if_icmp .eq 5, 3) := by decide +kernel
theorem dX4_takes_8 : decode cX4_takes 8 = .ok (.iconst 0, 1) := by decide +kernel
theorem dX4_takes_9 : decode cX4_takes 9 = .ok (.ireturn, 1) := by decide +kernel
theorem dX4_takes_10 : decode cX4_takes 10 = .ok (.aload_n 0, 1) := by decide +kernel
theorem dX4_takes_11 : decode cX4_takes 11 = .ok (.dup, 1) := by decide +kernel
theorem dX4_takes_12 : decode cX4_takes 12 = .ok (.getfield 29, 3) := by decide +kernel
theorem dX4_takes_15 : decode cX4_takes 15 = .ok (.iconst 1, 1) := by decide +kernel
theorem dX4_takes_16 : decode cX4_takes 16 = .ok (.iadd, 1) := by decide +kernel
theorem dX4_takes_17 : decode cX4_takes 17 = .ok (.putfield 29, 3) := by decide +kernel
theorem dX4_takes_20 : decode cX4_takes 20 = .ok (.iconst 1, 1) := by decide +kernel
theorem dX4_takes_21 : decode cX4_takes 21 = .ok (.ireturn, 1) := by decide +kernel
theorem dX4_fail_0 : decode cX4_fail 0 = .ok (.aload_n 0, 1) := by decide +kernel
theorem dX4_fail_1 : decode cX4_fail 1 = .ok (.getfield 32, 3) := by decide +kernel
theorem dX4_fail_4 : decode cX4_fail 4 = .ok (.ifCond .ge 11, 3) := by decide +kernel
theorem dX4_fail_7 : decode cX4_fail 7 = .ok (.aload_n 0, 1) := by decide +kernel
theorem dX4_fail_8 : decode cX4_fail 8 = .ok (.aload_n 0, 1) := by decide +kernel
theorem dX4_fail_9 : decode cX4_fail 9 = .ok (.getfield 29, 3) := by decide +kernel
theorem dX4_fail_12 : decode cX4_fail 12 = .ok (.putfield 32, 3) := by decide +kernel
theorem dX4_fail_15 : decode cX4_fail 15 = .ok (.return_, 1) := by decide +kernel
theorem dX4_emit_0 : decode cX4_emit 0 = .ok (.aload_n 0, 1) := by decide +kernel
theorem dX4_emit_1 : decode cX4_emit 1 = .ok (.getfield 32, 3) := by decide +kernel
theorem dX4_emit_4 : decode cX4_emit 4 = .ok (.ifCond .ge 15, 3) := by decide +kernel
theorem dX4_emit_7 : decode cX4_emit 7 = .ok (.aload_n 0, 1) := by decide +kernel
theorem dX4_emit_8 : decode cX4_emit 8 = .ok (.getfield 35, 3) := by decide +kernel
theorem dX4_emit_11 : decode cX4_emit 11 = .ok (.aload_n 0, 1) := by decide +kernel
theorem dX4_emit_12 : decode cX4_emit 12 = .ok (.getfield 13, 3) := by decide +kernel
theorem dX4_emit_15 : decode cX4_emit 15 = .ok (.arraylength, 1) := by decide +kernel
theorem dX4_emit_16 : decode cX4_emit 16 = .ok (.if_icmp .lt 4, 3) := by decide +kernel
theorem dX4_emit_19 : decode cX4_emit 19 = .ok (.return_, 1) := by decide +kernel
theorem dX4_emit_20 : decode cX4_emit 20 = .ok (.aload_n 0, 1) := by decide +kernel
theorem dX4_emit_21 : decode cX4_emit 21 = .ok (.getfield 13, 3) := by decide +kernel
theorem dX4_emit_24 : decode cX4_emit 24 = .ok (.aload_n 0, 1) := by decide +kernel
theorem dX4_emit_25 : decode cX4_emit 25 = .ok (.getfield 35, 3) := by decide +kernel
theorem dX4_emit_28 : decode cX4_emit 28 = .ok (.iload_n 1, 1) := by decide +kernel
theorem dX4_emit_29 : decode cX4_emit 29 = .ok (.iastore, 1) := by decide +kernel
theorem dX4_emit_30 : decode cX4_emit 30 = .ok (.aload_n 0, 1) := by decide +kernel
theorem dX4_emit_31 : decode cX4_emit 31 = .ok (.dup, 1) := by decide +kernel
theorem dX4_emit_32 : decode cX4_emit 32 = .ok (.getfield 35, 3) := by decide +kernel
theorem dX4_emit_35 : decode cX4_emit 35 = .ok (.iconst 1, 1) := by decide +kernel
theorem dX4_emit_36 : decode cX4_emit 36 = .ok (.iadd, 1) := by decide +kernel
theorem dX4_emit_37 : decode cX4_emit 37 = .ok (.putfield 35, 3) := by decide +kernel
theorem dX4_emit_40 : decode cX4_emit 40 = .ok (.return_, 1) := by decide +kernel
theorem dX4_worked_0 : decode cX4_worked 0 = .ok (.aload_n 0, 1) := by decide +kernel
theorem dX4_worked_1 : decode cX4_worked 1 = .ok (.iconst 0, 1) := by decide +kernel
theorem dX4_worked_2 : decode cX4_worked 2 = .ok (.putfield 93, 3) := by decide +kernel
theorem dX4_worked_5 : decode cX4_worked 5 = .ok (.iconst 0, 1) := by decide +kernel
theorem dX4_worked_6 : decode cX4_worked 6 = .ok (.istore 6, 2) := by decide +kernel
theorem dX4_worked_8 : decode cX4_worked 8 = .ok (.iconst 0, 1) := by decide +kernel
theorem dX4_worked_9 : decode cX4_worked 9 = .ok (.istore 7, 2) := by decide +kernel
theorem dX4_worked_11 : decode cX4_worked 11 = .ok (.iload 7, 2) := by decide +kernel
theorem dX4_worked_13 : decode cX4_worked 13 = .ok (.aload_n 0, 1) := by decide +kernel
theorem dX4_worked_14 : decode cX4_worked 14 = .ok (.getfield 26, 3) := by decide +kernel
theorem dX4_worked_17 : decode cX4_worked 17 = .ok (.if_icmp .ge 185, 3) := by decide +kernel
theorem dX4_worked_20 : decode cX4_worked 20 = .ok (.aload_n 0, 1) := by decide +kernel
theorem dX4_worked_21 : decode cX4_worked 21 = .ok (.getfield 16, 3) := by decide +kernel
theorem dX4_worked_24 : decode cX4_worked 24 = .ok (.iload 7, 2) := by decide +kernel
theorem dX4_worked_26 : decode cX4_worked 26 = .ok (.iaload, 1) := by decide +kernel
theorem dX4_worked_27 : decode cX4_worked 27 = .ok (.istore 8, 2) := by decide +kernel
theorem dX4_worked_29 : decode cX4_worked 29 = .ok (.iload 6, 2) := by decide +kernel
theorem dX4_worked_31 : decode cX4_worked 31 = .ok (.ifCond .eq 20, 3) := by decide +kernel
theorem dX4_worked_34 : decode cX4_worked 34 = .ok (.iload 8, 2) := by decide +kernel
theorem dX4_worked_36 : decode cX4_worked 36 = .ok (.bipush (-59), 2) := by decide +kernel
theorem dX4_worked_38 : decode cX4_worked 38 = .ok (.if_icmp .eq 7, 3) := by decide +kernel
theorem dX4_worked_41 : decode cX4_worked 41 = .ok (.iconst 1, 1) := by decide +kernel
theorem dX4_worked_42 : decode cX4_worked 42 = .ok (.goto 4, 3) := by decide +kernel
theorem dX4_worked_45 : decode cX4_worked 45 = .ok (.iconst 0, 1) := by decide +kernel
theorem dX4_worked_46 : decode cX4_worked 46 = .ok (.istore 6, 2) := by decide +kernel
theorem dX4_worked_48 : decode cX4_worked 48 = .ok (.goto 148, 3) := by decide +kernel
theorem dX4_worked_51 : decode cX4_worked 51 = .ok (.iload 8, 2) := by decide +kernel
theorem dX4_worked_53 : decode cX4_worked 53 = .ok (.bipush (-59), 2) := by decide +kernel
theorem dX4_worked_55 : decode cX4_worked 55 = .ok (.if_icmp .ne 8, 3) := by decide +kernel
theorem dX4_worked_58 : decode cX4_worked 58 = .ok (.aload_n 0, 1) := by decide +kernel
theorem dX4_worked_59 : decode cX4_worked 59 = .ok (.invokevirtual 96, 3) := by decide +kernel
theorem dX4_worked_62 : decode cX4_worked 62 = .ok (.ireturn, 1) := by decide +kernel
theorem dX4_worked_63 : decode cX4_worked 63 = .ok (.iload 8, 2) := by decide +kernel
theorem dX4_worked_65 : decode cX4_worked 65 = .ok (.bipush (-63), 2) := by decide +kernel
theorem dX4_worked_67 : decode cX4_worked 67 = .ok (.if_icmp .ne 20, 3) := by decide +kernel
theorem dX4_worked_70 : decode cX4_worked 70 = .ok (.aload_n 0, 1) := by decide +kernel
theorem dX4_worked_71 : decode cX4_worked 71 = .ok (.invokevirtual 96, 3) := by decide +kernel
theorem dX4_worked_74 : decode cX4_worked 74 = .ok (.ifCond .ne 7, 3) := by decide +kernel
theorem dX4_worked_77 : decode cX4_worked 77 = .ok (.iconst 1, 1) := by decide +kernel
theorem dX4_worked_78 : decode cX4_worked 78 = .ok (.goto 4, 3) := by decide +kernel
theorem dX4_worked_81 : decode cX4_worked 81 = .ok (.iconst 0, 1) := by decide +kernel
theorem dX4_worked_82 : decode cX4_worked 82 = .ok (.istore 6, 2) := by decide +kernel
theorem dX4_worked_84 : decode cX4_worked 84 = .ok (.goto 112, 3) := by decide +kernel
theorem dX4_worked_87 : decode cX4_worked 87 = .ok (.iload 8, 2) := by decide +kernel
theorem dX4_worked_89 : decode cX4_worked 89 = .ok (.ifCond .lt 12, 3) := by decide +kernel
theorem dX4_worked_92 : decode cX4_worked 92 = .ok (.aload_n 0, 1) := by decide +kernel
theorem dX4_worked_93 : decode cX4_worked 93 = .ok (.iload 8, 2) := by decide +kernel
theorem dX4_worked_95 : decode cX4_worked 95 = .ok (.invokevirtual 99, 3) := by decide +kernel
theorem dX4_worked_98 : decode cX4_worked 98 = .ok (.goto 98, 3) := by decide +kernel
theorem dX4_worked_101 : decode cX4_worked 101 = .ok (.iload 8, 2) := by decide +kernel
theorem dX4_worked_103 : decode cX4_worked 103 = .ok (.ineg, 1) := by decide +kernel
theorem dX4_worked_104 : decode cX4_worked 104 = .ok (.invokestatic 86, 3) := by decide +kernel
theorem dX4_worked_107 : decode cX4_worked 107 = .ok (.ifCond .eq 23, 3) := by decide +kernel
theorem dX4_worked_110 : decode cX4_worked 110 = .ok (.aload_n 0, 1) := by decide +kernel
theorem dX4_worked_111 : decode cX4_worked 111 = .ok (.iload 8, 2) := by decide +kernel
theorem dX4_worked_113 : decode cX4_worked 113 = .ok (.ineg, 1) := by decide +kernel
theorem dX4_worked_114 : decode cX4_worked 114 = .ok (.iload_n 1, 1) := by decide +kernel
theorem dX4_worked_115 : decode cX4_worked 115 = .ok (.iload_n 2, 1) := by decide +kernel
theorem dX4_worked_116 : decode cX4_worked 116 = .ok (.iload_n 3, 1) := by decide +kernel
theorem dX4_worked_117 : decode cX4_worked 117 = .ok (.iload 4, 2) := by decide +kernel
theorem dX4_worked_119 : decode cX4_worked 119 = .ok (.iload 5, 2) := by decide +kernel
theorem dX4_worked_121 : decode cX4_worked 121 = .ok (.invokestatic 102, 3) := by decide +kernel
theorem dX4_worked_124 : decode cX4_worked 124 = .ok (.invokevirtual 99, 3) := by decide +kernel
theorem dX4_worked_127 : decode cX4_worked 127 = .ok (.goto 69, 3) := by decide +kernel
theorem dX4_worked_130 : decode cX4_worked 130 = .ok (.iload 8, 2) := by decide +kernel
theorem dX4_worked_132 : decode cX4_worked 132 = .ok (.iconst (-1), 1) := by decide +kernel
theorem dX4_worked_133 : decode cX4_worked 133 = .ok (.if_icmp .ne 15, 3) := by decide +kernel
theorem dX4_worked_136 : decode cX4_worked 136 = .ok (.aload_n 0, 1) := by decide +kernel
theorem dX4_worked_137 : decode cX4_worked 137 = .ok (.aload_n 0, 1) := by decide +kernel
theorem dX4_worked_138 : decode cX4_worked 138 = .ok (.invokevirtual 96, 3) := by decide +kernel
theorem dX4_worked_141 : decode cX4_worked 141 = .ok (.ineg, 1) := by decide +kernel
theorem dX4_worked_142 : decode cX4_worked 142 = .ok (.invokevirtual 99, 3) := by decide +kernel
theorem dX4_worked_145 : decode cX4_worked 145 = .ok (.goto 51, 3) := by decide +kernel
theorem dX4_worked_148 : decode cX4_worked 148 = .ok (.iload 8, 2) := by decide +kernel
theorem dX4_worked_150 : decode cX4_worked 150 = .ok (.bipush (-33), 2) := by decide +kernel
theorem dX4_worked_152 : decode cX4_worked 152 = .ok (.if_icmp .ne 22, 3) := by decide +kernel
theorem dX4_worked_155 : decode cX4_worked 155 = .ok (.aload_n 0, 1) := by decide +kernel
theorem dX4_worked_156 : decode cX4_worked 156 = .ok (.aload_n 0, 1) := by decide +kernel
theorem dX4_worked_157 : decode cX4_worked 157 = .ok (.invokevirtual 96, 3) := by decide +kernel
theorem dX4_worked_160 : decode cX4_worked 160 = .ok (.ifCond .ne 7, 3) := by decide +kernel
theorem dX4_worked_163 : decode cX4_worked 163 = .ok (.iconst 1, 1) := by decide +kernel
theorem dX4_worked_164 : decode cX4_worked 164 = .ok (.goto 4, 3) := by decide +kernel
theorem dX4_worked_167 : decode cX4_worked 167 = .ok (.iconst 0, 1) := by decide +kernel
theorem dX4_worked_168 : decode cX4_worked 168 = .ok (.invokevirtual 99, 3) := by decide +kernel
theorem dX4_worked_171 : decode cX4_worked 171 = .ok (.goto 25, 3) := by decide +kernel
theorem dX4_worked_174 : decode cX4_worked 174 = .ok (.aload_n 0, 1) := by decide +kernel
theorem dX4_worked_175 : decode cX4_worked 175 = .ok (.invokevirtual 96, 3) := by decide +kernel
theorem dX4_worked_178 : decode cX4_worked 178 = .ok (.istore 9, 2) := by decide +kernel
theorem dX4_worked_180 : decode cX4_worked 180 = .ok (.aload_n 0, 1) := by decide +kernel
theorem dX4_worked_181 : decode cX4_worked 181 = .ok (.iload 8, 2) := by decide +kernel
theorem dX4_worked_183 : decode cX4_worked 183 = .ok (.ineg, 1) := by decide +kernel
theorem dX4_worked_184 : decode cX4_worked 184 = .ok (.aload_n 0, 1) := by decide +kernel
theorem dX4_worked_185 : decode cX4_worked 185 = .ok (.invokevirtual 96, 3) := by decide +kernel
theorem dX4_worked_188 : decode cX4_worked 188 = .ok (.iload 9, 2) := by decide +kernel
theorem dX4_worked_190 : decode cX4_worked 190 = .ok (.invokestatic 106, 3) := by decide +kernel
theorem dX4_worked_193 : decode cX4_worked 193 = .ok (.invokevirtual 99, 3) := by decide +kernel
theorem dX4_worked_196 : decode cX4_worked 196 = .ok (.iinc 7 1, 3) := by decide +kernel
theorem dX4_worked_199 : decode cX4_worked 199 = .ok (.goto (-188), 3) := by decide +kernel
theorem dX4_worked_202 : decode cX4_worked 202 = .ok (.iconst 0, 1) := by decide +kernel
theorem dX4_worked_203 : decode cX4_worked 203 = .ok (.ireturn, 1) := by decide +kernel
theorem dX4_named_0 : decode cX4_named 0 = .ok (.iload_n 0, 1) := by decide +kernel
theorem dX4_named_1 : decode cX4_named 1 = .ok (.lookupswitch 52 #[(97, 43), (98, 45), (116, 49), (119, 47)], 43) := by decide +kernel
theorem dX4_named_44 : decode cX4_named 44 = .ok (.iload_n 1, 1) := by decide +kernel
theorem dX4_named_45 : decode cX4_named 45 = .ok (.ireturn, 1) := by decide +kernel
theorem dX4_named_46 : decode cX4_named 46 = .ok (.iload_n 2, 1) := by decide +kernel
theorem dX4_named_47 : decode cX4_named 47 = .ok (.ireturn, 1) := by decide +kernel
theorem dX4_named_48 : decode cX4_named 48 = .ok (.iload_n 3, 1) := by decide +kernel
theorem dX4_named_49 : decode cX4_named 49 = .ok (.ireturn, 1) := by decide +kernel
theorem dX4_named_50 : decode cX4_named 50 = .ok (.iload 4, 2) := by decide +kernel
theorem dX4_named_52 : decode cX4_named 52 = .ok (.ireturn, 1) := by decide +kernel
theorem dX4_named_53 : decode cX4_named 53 = .ok (.iload 5, 2) := by decide +kernel
theorem dX4_named_55 : decode cX4_named 55 = .ok (.ireturn, 1) := by decide +kernel
theorem dX4_joined_0 : decode cX4_joined 0 = .ok (.iload_n 0, 1) := by decide +kernel
theorem dX4_joined_1 : decode cX4_joined 1 = .ok (.lookupswitch 168 #[(38, 97), (42, 152), (43, 144), (45, 148), (47, 156), (60, 111), (61, 122), (62, 133), (124, 83)], 83) := by decide +kernel
theorem dX4_joined_84 : decode cX4_joined 84 = .ok (.iload_n 1, 1) := by decide +kernel
theorem dX4_joined_85 : decode cX4_joined 85 = .ok (.ifCond .ne 7, 3) := by decide +kernel
theorem dX4_joined_88 : decode cX4_joined 88 = .ok (.iload_n 2, 1) := by decide +kernel
theorem dX4_joined_89 : decode cX4_joined 89 = .ok (.ifCond .eq 7, 3) := by decide +kernel
theorem dX4_joined_92 : decode cX4_joined 92 = .ok (.iconst 1, 1) := by decide +kernel
theorem dX4_joined_93 : decode cX4_joined 93 = .ok (.goto 4, 3) := by decide +kernel
theorem dX4_joined_96 : decode cX4_joined 96 = .ok (.iconst 0, 1) := by decide +kernel
theorem dX4_joined_97 : decode cX4_joined 97 = .ok (.ireturn, 1) := by decide +kernel
theorem dX4_joined_98 : decode cX4_joined 98 = .ok (.iload_n 1, 1) := by decide +kernel
theorem dX4_joined_99 : decode cX4_joined 99 = .ok (.ifCond .eq 11, 3) := by decide +kernel
theorem dX4_joined_102 : decode cX4_joined 102 = .ok (.iload_n 2, 1) := by decide +kernel
theorem dX4_joined_103 : decode cX4_joined 103 = .ok (.ifCond .eq 7, 3) := by decide +kernel
theorem dX4_joined_106 : decode cX4_joined 106 = .ok (.iconst 1, 1) := by decide +kernel
theorem dX4_joined_107 : decode cX4_joined 107 = .ok (.goto 4, 3) := by decide +kernel
theorem dX4_joined_110 : decode cX4_joined 110 = .ok (.iconst 0, 1) := by decide +kernel
theorem dX4_joined_111 : decode cX4_joined 111 = .ok (.ireturn, 1) := by decide +kernel
theorem dX4_joined_112 : decode cX4_joined 112 = .ok (.iload_n 1, 1) := by decide +kernel
theorem dX4_joined_113 : decode cX4_joined 113 = .ok (.iload_n 2, 1) := by decide +kernel
theorem dX4_joined_114 : decode cX4_joined 114 = .ok (.if_icmp .ge 7, 3) := by decide +kernel
theorem dX4_joined_117 : decode cX4_joined 117 = .ok (.iconst 1, 1) := by decide +kernel
theorem dX4_joined_118 : decode cX4_joined 118 = .ok (.goto 4, 3) := by decide +kernel
theorem dX4_joined_121 : decode cX4_joined 121 = .ok (.iconst 0, 1) := by decide +kernel
theorem dX4_joined_122 : decode cX4_joined 122 = .ok (.ireturn, 1) := by decide +kernel
theorem dX4_joined_123 : decode cX4_joined 123 = .ok (.iload_n 1, 1) := by decide +kernel
theorem dX4_joined_124 : decode cX4_joined 124 = .ok (.iload_n 2, 1) := by decide +kernel
theorem dX4_joined_125 : decode cX4_joined 125 = .ok (.if_icmp .ne 7, 3) := by decide +kernel
theorem dX4_joined_128 : decode cX4_joined 128 = .ok (.iconst 1, 1) := by decide +kernel
theorem dX4_joined_129 : decode cX4_joined 129 = .ok (.goto 4, 3) := by decide +kernel
theorem dX4_joined_132 : decode cX4_joined 132 = .ok (.iconst 0, 1) := by decide +kernel
theorem dX4_joined_133 : decode cX4_joined 133 = .ok (.ireturn, 1) := by decide +kernel
theorem dX4_joined_134 : decode cX4_joined 134 = .ok (.iload_n 1, 1) := by decide +kernel
theorem dX4_joined_135 : decode cX4_joined 135 = .ok (.iload_n 2, 1) := by decide +kernel
theorem dX4_joined_136 : decode cX4_joined 136 = .ok (.if_icmp .le 7, 3) := by decide +kernel
theorem dX4_joined_139 : decode cX4_joined 139 = .ok (.iconst 1, 1) := by decide +kernel
theorem dX4_joined_140 : decode cX4_joined 140 = .ok (.goto 4, 3) := by decide +kernel
theorem dX4_joined_143 : decode cX4_joined 143 = .ok (.iconst 0, 1) := by decide +kernel
theorem dX4_joined_144 : decode cX4_joined 144 = .ok (.ireturn, 1) := by decide +kernel
theorem dX4_joined_145 : decode cX4_joined 145 = .ok (.iload_n 1, 1) := by decide +kernel
theorem dX4_joined_146 : decode cX4_joined 146 = .ok (.iload_n 2, 1) := by decide +kernel
theorem dX4_joined_147 : decode cX4_joined 147 = .ok (.iadd, 1) := by decide +kernel
theorem dX4_joined_148 : decode cX4_joined 148 = .ok (.ireturn, 1) := by decide +kernel
theorem dX4_joined_149 : decode cX4_joined 149 = .ok (.iload_n 1, 1) := by decide +kernel
theorem dX4_joined_150 : decode cX4_joined 150 = .ok (.iload_n 2, 1) := by decide +kernel
theorem dX4_joined_151 : decode cX4_joined 151 = .ok (.isub, 1) := by decide +kernel
theorem dX4_joined_152 : decode cX4_joined 152 = .ok (.ireturn, 1) := by decide +kernel
theorem dX4_joined_153 : decode cX4_joined 153 = .ok (.iload_n 1, 1) := by decide +kernel
theorem dX4_joined_154 : decode cX4_joined 154 = .ok (.iload_n 2, 1) := by decide +kernel
theorem dX4_joined_155 : decode cX4_joined 155 = .ok (.imul, 1) := by decide +kernel
theorem dX4_joined_156 : decode cX4_joined 156 = .ok (.ireturn, 1) := by decide +kernel
theorem dX4_joined_157 : decode cX4_joined 157 = .ok (.iload_n 2, 1) := by decide +kernel
theorem dX4_joined_158 : decode cX4_joined 158 = .ok (.ifCond .ne 7, 3) := by decide +kernel
theorem dX4_joined_161 : decode cX4_joined 161 = .ok (.iconst 0, 1) := by decide +kernel
theorem dX4_joined_162 : decode cX4_joined 162 = .ok (.goto 6, 3) := by decide +kernel
theorem dX4_joined_165 : decode cX4_joined 165 = .ok (.iload_n 1, 1) := by decide +kernel
theorem dX4_joined_166 : decode cX4_joined 166 = .ok (.iload_n 2, 1) := by decide +kernel
theorem dX4_joined_167 : decode cX4_joined 167 = .ok (.idiv, 1) := by decide +kernel
theorem dX4_joined_168 : decode cX4_joined 168 = .ok (.ireturn, 1) := by decide +kernel
theorem dX4_joined_169 : decode cX4_joined 169 = .ok (.iload_n 2, 1) := by decide +kernel
theorem dX4_joined_170 : decode cX4_joined 170 = .ok (.ifCond .ne 7, 3) := by decide +kernel
theorem dX4_joined_173 : decode cX4_joined 173 = .ok (.iconst 0, 1) := by decide +kernel
theorem dX4_joined_174 : decode cX4_joined 174 = .ok (.goto 6, 3) := by decide +kernel
theorem dX4_joined_177 : decode cX4_joined 177 = .ok (.iload_n 1, 1) := by decide +kernel
theorem dX4_joined_178 : decode cX4_joined 178 = .ok (.iload_n 2, 1) := by decide +kernel
theorem dX4_joined_179 : decode cX4_joined 179 = .ok (.irem, 1) := by decide +kernel
theorem dX4_joined_180 : decode cX4_joined 180 = .ok (.ireturn, 1) := by decide +kernel
theorem dX4_push_0 : decode cX4_push 0 = .ok (.aload_n 0, 1) := by decide +kernel
theorem dX4_push_1 : decode cX4_push 1 = .ok (.getfield 93, 3) := by decide +kernel
theorem dX4_push_4 : decode cX4_push 4 = .ok (.bipush 40, 2) := by decide +kernel
theorem dX4_push_6 : decode cX4_push 6 = .ok (.if_icmp .lt 4, 3) := by decide +kernel
theorem dX4_push_9 : decode cX4_push 9 = .ok (.return_, 1) := by decide +kernel
theorem dX4_push_10 : decode cX4_push 10 = .ok (.aload_n 0, 1) := by decide +kernel
theorem dX4_push_11 : decode cX4_push 11 = .ok (.getfield 19, 3) := by decide +kernel
theorem dX4_push_14 : decode cX4_push 14 = .ok (.aload_n 0, 1) := by decide +kernel
theorem dX4_push_15 : decode cX4_push 15 = .ok (.getfield 93, 3) := by decide +kernel
theorem dX4_push_18 : decode cX4_push 18 = .ok (.iload_n 1, 1) := by decide +kernel
theorem dX4_push_19 : decode cX4_push 19 = .ok (.iastore, 1) := by decide +kernel
theorem dX4_push_20 : decode cX4_push 20 = .ok (.aload_n 0, 1) := by decide +kernel
theorem dX4_push_21 : decode cX4_push 21 = .ok (.dup, 1) := by decide +kernel
theorem dX4_push_22 : decode cX4_push 22 = .ok (.getfield 93, 3) := by decide +kernel
theorem dX4_push_25 : decode cX4_push 25 = .ok (.iconst 1, 1) := by decide +kernel
theorem dX4_push_26 : decode cX4_push 26 = .ok (.iadd, 1) := by decide +kernel
theorem dX4_push_27 : decode cX4_push 27 = .ok (.putfield 93, 3) := by decide +kernel
theorem dX4_push_30 : decode cX4_push 30 = .ok (.return_, 1) := by decide +kernel
theorem dX4_pop_0 : decode cX4_pop 0 = .ok (.aload_n 0, 1) := by decide +kernel
theorem dX4_pop_1 : decode cX4_pop 1 = .ok (.getfield 93, 3) := by decide +kernel
theorem dX4_pop_4 : decode cX4_pop 4 = .ok (.ifCond .gt 5, 3) := by decide +kernel
theorem dX4_pop_7 : decode cX4_pop 7 = .ok (.iconst 0, 1) := by decide +kernel
theorem dX4_pop_8 : decode cX4_pop 8 = .ok (.ireturn, 1) := by decide +kernel
theorem dX4_pop_9 : decode cX4_pop 9 = .ok (.aload_n 0, 1) := by decide +kernel
theorem dX4_pop_10 : decode cX4_pop 10 = .ok (.dup, 1) := by decide +kernel
theorem dX4_pop_11 : decode cX4_pop 11 = .ok (.getfield 93, 3) := by decide +kernel
theorem dX4_pop_14 : decode cX4_pop 14 = .ok (.iconst 1, 1) := by decide +kernel
theorem dX4_pop_15 : decode cX4_pop 15 = .ok (.isub, 1) := by decide +kernel
theorem dX4_pop_16 : decode cX4_pop 16 = .ok (.putfield 93, 3) := by decide +kernel
theorem dX4_pop_19 : decode cX4_pop 19 = .ok (.aload_n 0, 1) := by decide +kernel
theorem dX4_pop_20 : decode cX4_pop 20 = .ok (.getfield 19, 3) := by decide +kernel
theorem dX4_pop_23 : decode cX4_pop 23 = .ok (.aload_n 0, 1) := by decide +kernel
theorem dX4_pop_24 : decode cX4_pop 24 = .ok (.getfield 93, 3) := by decide +kernel
theorem dX4_pop_27 : decode cX4_pop 27 = .ok (.iaload, 1) := by decide +kernel
theorem dX4_pop_28 : decode cX4_pop 28 = .ok (.ireturn, 1) := by decide +kernel
theorem dX5_init_0 : decode cX5_init 0 = .ok (.aload_n 0, 1) := by decide +kernel
theorem dX5_init_1 : decode cX5_init 1 = .ok (.invokespecial 1, 3) := by decide +kernel
theorem dX5_init_4 : decode cX5_init 4 = .ok (.aload_n 0, 1) := by decide +kernel
theorem dX5_init_5 : decode cX5_init 5 = .ok (.bipush 8, 2) := by decide +kernel
theorem dX5_init_7 : decode cX5_init 7 = .ok (.newarray .int, 2) := by decide +kernel
theorem dX5_init_9 : decode cX5_init 9 = .ok (.putfield 9, 3) := by decide +kernel
theorem dX5_init_12 : decode cX5_init 12 = .ok (.aload_n 0, 1) := by decide +kernel
theorem dX5_init_13 : decode cX5_init 13 = .ok (.bipush 40, 2) := by decide +kernel
theorem dX5_init_15 : decode cX5_init 15 = .ok (.newarray .int, 2) := by decide +kernel
theorem dX5_init_17 : decode cX5_init 17 = .ok (.putfield 15, 3) := by decide +kernel
theorem dX5_init_20 : decode cX5_init 20 = .ok (.return_, 1) := by decide +kernel
theorem dX5_add_0 : decode cX5_add 0 = .ok (.aload_n 0, 1) := by decide +kernel
theorem dX5_add_1 : decode cX5_add 1 = .ok (.getfield 18, 3) := by decide +kernel
theorem dX5_add_4 : decode cX5_add 4 = .ok (.bipush 8, 2) := by decide +kernel
theorem dX5_add_6 : decode cX5_add 6 = .ok (.if_icmp .lt 5, 3) := by decide +kernel
theorem dX5_add_9 : decode cX5_add 9 = .ok (.iconst 0, 1) := by decide +kernel
theorem dX5_add_10 : decode cX5_add 10 = .ok (.ireturn, 1) := by decide +kernel
theorem dX5_add_11 : decode cX5_add 11 = .ok (.aload_n 1, 1) := by decide +kernel
theorem dX5_add_12 : decode cX5_add 12 = .ok (.iconst 0, 1) := by decide +kernel
theorem dX5_add_13 : decode cX5_add 13 = .ok (.aload_n 0, 1) := by decide +kernel
theorem dX5_add_14 : decode cX5_add 14 = .ok (.getfield 15, 3) := by decide +kernel
theorem dX5_add_17 : decode cX5_add 17 = .ok (.aload_n 0, 1) := by decide +kernel
theorem dX5_add_18 : decode cX5_add 18 = .ok (.getfield 18, 3) := by decide +kernel
theorem dX5_add_21 : decode cX5_add 21 = .ok (.iconst 5, 1) := by decide +kernel
theorem dX5_add_22 : decode cX5_add 22 = .ok (.imul, 1) := by decide +kernel
theorem dX5_add_23 : decode cX5_add 23 = .ok (.iconst 5, 1) := by decide +kernel
theorem dX5_add_24 : decode cX5_add 24 = .ok (.invokestatic 22, 3) := by decide +kernel
theorem dX5_add_27 : decode cX5_add 27 = .ok (.aload_n 0, 1) := by decide +kernel
theorem dX5_add_28 : decode cX5_add 28 = .ok (.getfield 9, 3) := by decide +kernel
theorem dX5_add_31 : decode cX5_add 31 = .ok (.aload_n 0, 1) := by decide +kernel
theorem dX5_add_32 : decode cX5_add 32 = .ok (.getfield 18, 3) := by decide +kernel
theorem dX5_add_35 : decode cX5_add 35 = .ok (.iload_n 2, 1) := by decide +kernel
theorem dX5_add_36 : decode cX5_add 36 = .ok (.iastore, 1) := by decide +kernel
theorem dX5_add_37 : decode cX5_add 37 = .ok (.aload_n 0, 1) := by decide +kernel
theorem dX5_add_38 : decode cX5_add 38 = .ok (.dup, 1) := by decide +kernel
theorem dX5_add_39 : decode cX5_add 39 = .ok (.getfield 18, 3) := by decide +kernel
theorem dX5_add_42 : decode cX5_add 42 = .ok (.iconst 1, 1) := by decide +kernel
theorem dX5_add_43 : decode cX5_add 43 = .ok (.iadd, 1) := by decide +kernel
theorem dX5_add_44 : decode cX5_add 44 = .ok (.putfield 18, 3) := by decide +kernel
theorem dX5_add_47 : decode cX5_add 47 = .ok (.iconst 1, 1) := by decide +kernel
theorem dX5_add_48 : decode cX5_add 48 = .ok (.ireturn, 1) := by decide +kernel
theorem dX5_copy_0 : decode cX5_copy 0 = .ok (.aload_n 0, 1) := by decide +kernel
theorem dX5_copy_1 : decode cX5_copy 1 = .ok (.aload_n 1, 1) := by decide +kernel
theorem dX5_copy_2 : decode cX5_copy 2 = .ok (.getfield 18, 3) := by decide +kernel
theorem dX5_copy_5 : decode cX5_copy 5 = .ok (.putfield 18, 3) := by decide +kernel
theorem dX5_copy_8 : decode cX5_copy 8 = .ok (.aload_n 1, 1) := by decide +kernel
theorem dX5_copy_9 : decode cX5_copy 9 = .ok (.getfield 9, 3) := by decide +kernel
theorem dX5_copy_12 : decode cX5_copy 12 = .ok (.iconst 0, 1) := by decide +kernel
theorem dX5_copy_13 : decode cX5_copy 13 = .ok (.aload_n 0, 1) := by decide +kernel
theorem dX5_copy_14 : decode cX5_copy 14 = .ok (.getfield 9, 3) := by decide +kernel
theorem dX5_copy_17 : decode cX5_copy 17 = .ok (.iconst 0, 1) := by decide +kernel
theorem dX5_copy_18 : decode cX5_copy 18 = .ok (.bipush 8, 2) := by decide +kernel
theorem dX5_copy_20 : decode cX5_copy 20 = .ok (.invokestatic 22, 3) := by decide +kernel
theorem dX5_copy_23 : decode cX5_copy 23 = .ok (.aload_n 1, 1) := by decide +kernel
theorem dX5_copy_24 : decode cX5_copy 24 = .ok (.getfield 15, 3) := by decide +kernel
theorem dX5_copy_27 : decode cX5_copy 27 = .ok (.iconst 0, 1) := by decide +kernel
theorem dX5_copy_28 : decode cX5_copy 28 = .ok (.aload_n 0, 1) := by decide +kernel
theorem dX5_copy_29 : decode cX5_copy 29 = .ok (.getfield 15, 3) := by decide +kernel
theorem dX5_copy_32 : decode cX5_copy 32 = .ok (.iconst 0, 1) := by decide +kernel
theorem dX5_copy_33 : decode cX5_copy 33 = .ok (.bipush 40, 2) := by decide +kernel
theorem dX5_copy_35 : decode cX5_copy 35 = .ok (.invokestatic 22, 3) := by decide +kernel
theorem dX5_copy_38 : decode cX5_copy 38 = .ok (.return_, 1) := by decide +kernel
theorem dX5_weight_0 : decode cX5_weight 0 = .ok (.iconst 0, 1) := by decide +kernel
theorem dX5_weight_1 : decode cX5_weight 1 = .ok (.istore_n 1, 1) := by decide +kernel
theorem dX5_weight_2 : decode cX5_weight 2 = .ok (.iconst 0, 1) := by decide +kernel
theorem dX5_weight_3 : decode cX5_weight 3 = .ok (.istore_n 2, 1) := by decide +kernel
theorem dX5_weight_4 : decode cX5_weight 4 = .ok (.iload_n 2, 1) := by decide +kernel
theorem dX5_weight_5 : decode cX5_weight 5 = .ok (.aload_n 0, 1) := by decide +kernel
theorem dX5_weight_6 : decode cX5_weight 6 = .ok (.getfield 18, 3) := by decide +kernel
theorem dX5_weight_9 : decode cX5_weight 9 = .ok (.if_icmp .ge 18, 3) := by decide +kernel
theorem dX5_weight_12 : decode cX5_weight 12 = .ok (.iload_n 1, 1) := by decide +kernel
theorem dX5_weight_13 : decode cX5_weight 13 = .ok (.aload_n 0, 1) := by decide +kernel
theorem dX5_weight_14 : decode cX5_weight 14 = .ok (.getfield 9, 3) := by decide +kernel
theorem dX5_weight_17 : decode cX5_weight 17 = .ok (.iload_n 2, 1) := by decide +kernel
theorem dX5_weight_18 : decode cX5_weight 18 = .ok (.iaload, 1) := by decide +kernel
theorem dX5_weight_19 : decode cX5_weight 19 = .ok (.iadd, 1) := by decide +kernel
theorem dX5_weight_20 : decode cX5_weight 20 = .ok (.istore_n 1, 1) := by decide +kernel
theorem dX5_weight_21 : decode cX5_weight 21 = .ok (.iinc 2 1, 3) := by decide +kernel
theorem dX5_weight_24 : decode cX5_weight 24 = .ok (.goto (-20), 3) := by decide +kernel
theorem dX5_weight_27 : decode cX5_weight 27 = .ok (.iload_n 1, 1) := by decide +kernel
theorem dX5_weight_28 : decode cX5_weight 28 = .ok (.ireturn, 1) := by decide +kernel
theorem dX5_whole_0 : decode cX5_whole 0 = .ok (.aload_n 0, 1) := by decide +kernel
theorem dX5_whole_1 : decode cX5_whole 1 = .ok (.getfield 18, 3) := by decide +kernel
theorem dX5_whole_4 : decode cX5_whole 4 = .ok (.ifCond .ne 7, 3) := by decide +kernel
theorem dX5_whole_7 : decode cX5_whole 7 = .ok (.iconst 1, 1) := by decide +kernel
theorem dX5_whole_8 : decode cX5_whole 8 = .ok (.goto 7, 3) := by decide +kernel
theorem dX5_whole_11 : decode cX5_whole 11 = .ok (.aload_n 0, 1) := by decide +kernel
theorem dX5_whole_12 : decode cX5_whole 12 = .ok (.invokevirtual 28, 3) := by decide +kernel
theorem dX5_whole_15 : decode cX5_whole 15 = .ok (.ireturn, 1) := by decide +kernel
theorem dX5_lines_0 : decode cX5_lines 0 = .ok (.aload_n 0, 1) := by decide +kernel
theorem dX5_lines_1 : decode cX5_lines 1 = .ok (.getfield 18, 3) := by decide +kernel
theorem dX5_lines_4 : decode cX5_lines 4 = .ok (.ifCond .ne 7, 3) := by decide +kernel
theorem dX5_lines_7 : decode cX5_lines 7 = .ok (.iconst 1, 1) := by decide +kernel
theorem dX5_lines_8 : decode cX5_lines 8 = .ok (.goto 7, 3) := by decide +kernel
theorem dX5_lines_11 : decode cX5_lines 11 = .ok (.aload_n 0, 1) := by decide +kernel
theorem dX5_lines_12 : decode cX5_lines 12 = .ok (.getfield 18, 3) := by decide +kernel
theorem dX5_lines_15 : decode cX5_lines 15 = .ok (.ireturn, 1) := by decide +kernel
theorem dX5_weightAt_0 : decode cX5_weightAt 0 = .ok (.aload_n 0, 1) := by decide +kernel
theorem dX5_weightAt_1 : decode cX5_weightAt 1 = .ok (.getfield 18, 3) := by decide +kernel
theorem dX5_weightAt_4 : decode cX5_weightAt 4 = .ok (.ifCond .ne 7, 3) := by decide +kernel
theorem dX5_weightAt_7 : decode cX5_weightAt 7 = .ok (.iconst 1, 1) := by decide +kernel
theorem dX5_weightAt_8 : decode cX5_weightAt 8 = .ok (.goto 9, 3) := by decide +kernel
theorem dX5_weightAt_11 : decode cX5_weightAt 11 = .ok (.aload_n 0, 1) := by decide +kernel
theorem dX5_weightAt_12 : decode cX5_weightAt 12 = .ok (.getfield 9, 3) := by decide +kernel
theorem dX5_weightAt_15 : decode cX5_weightAt 15 = .ok (.iload_n 1, 1) := by decide +kernel
theorem dX5_weightAt_16 : decode cX5_weightAt 16 = .ok (.iaload, 1) := by decide +kernel
theorem dX5_weightAt_17 : decode cX5_weightAt 17 = .ok (.ireturn, 1) := by decide +kernel
theorem dX5_loavesAt_0 : decode cX5_loavesAt 0 = .ok (.aload_n 0, 1) := by decide +kernel
theorem dX5_loavesAt_1 : decode cX5_loavesAt 1 = .ok (.getfield 18, 3) := by decide +kernel
theorem dX5_loavesAt_4 : decode cX5_loavesAt 4 = .ok (.ifCond .ne 7, 3) := by decide +kernel
theorem dX5_loavesAt_7 : decode cX5_loavesAt 7 = .ok (.iconst 0, 1) := by decide +kernel
theorem dX5_loavesAt_8 : decode cX5_loavesAt 8 = .ok (.goto 13, 3) := by decide +kernel
theorem dX5_loavesAt_11 : decode cX5_loavesAt 11 = .ok (.aload_n 0, 1) := by decide +kernel
theorem dX5_loavesAt_12 : decode cX5_loavesAt 12 = .ok (.getfield 15, 3) := by decide +kernel
theorem dX5_loavesAt_15 : decode cX5_loavesAt 15 = .ok (.iload_n 1, 1) := by decide +kernel
theorem dX5_loavesAt_16 : decode cX5_loavesAt 16 = .ok (.iconst 5, 1) := by decide +kernel
theorem dX5_loavesAt_17 : decode cX5_loavesAt 17 = .ok (.imul, 1) := by decide +kernel
theorem dX5_loavesAt_18 : decode cX5_loavesAt 18 = .ok (.iload_n 2, 1) := by decide +kernel
theorem dX5_loavesAt_19 : decode cX5_loavesAt 19 = .ok (.iadd, 1) := by decide +kernel
theorem dX5_loavesAt_20 : decode cX5_loavesAt 20 = .ok (.iaload, 1) := by decide +kernel
theorem dX5_loavesAt_21 : decode cX5_loavesAt 21 = .ok (.ireturn, 1) := by decide +kernel
theorem dX6_init_0 : decode cX6_init 0 = .ok (.aload_n 0, 1) := by decide +kernel
theorem dX6_init_1 : decode cX6_init 1 = .ok (.invokespecial 1, 3) := by decide +kernel
theorem dX6_init_4 : decode cX6_init 4 = .ok (.aload_n 0, 1) := by decide +kernel
theorem dX6_init_5 : decode cX6_init 5 = .ok (.bipush 50, 2) := by decide +kernel
theorem dX6_init_7 : decode cX6_init 7 = .ok (.newarray .int, 2) := by decide +kernel
theorem dX6_init_9 : decode cX6_init 9 = .ok (.putfield 9, 3) := by decide +kernel
theorem dX6_init_12 : decode cX6_init 12 = .ok (.aload_n 0, 1) := by decide +kernel
theorem dX6_init_13 : decode cX6_init 13 = .ok (.bipush 60, 2) := by decide +kernel
theorem dX6_init_15 : decode cX6_init 15 = .ok (.newarray .int, 2) := by decide +kernel
theorem dX6_init_17 : decode cX6_init 17 = .ok (.putfield 15, 3) := by decide +kernel
theorem dX6_init_20 : decode cX6_init 20 = .ok (.return_, 1) := by decide +kernel
theorem dX6_solve_0 : decode cX6_solve 0 = .ok (.iconst 0, 1) := by decide +kernel
theorem dX6_solve_1 : decode cX6_solve 1 = .ok (.istore 4, 2) := by decide +kernel
theorem dX6_solve_3 : decode cX6_solve 3 = .ok (.iload 4, 2) := by decide +kernel
theorem dX6_solve_5 : decode cX6_solve 5 = .ok (.iload_n 2, 1) := by decide +kernel
theorem dX6_solve_6 : decode cX6_solve 6 = .ok (.if_icmp .gt 36, 3) := by decide +kernel
theorem dX6_solve_9 : decode cX6_solve 9 = .ok (.aload_n 0, 1) := by decide +kernel
theorem dX6_solve_10 : decode cX6_solve 10 = .ok (.getfield 15, 3) := by decide +kernel
theorem dX6_solve_13 : decode cX6_solve 13 = .ok (.iload_n 1, 1) := by decide +kernel
theorem dX6_solve_14 : decode cX6_solve 14 = .ok (.bipush 10, 2) := by decide +kernel
theorem dX6_solve_16 : decode cX6_solve 16 = .ok (.imul, 1) := by decide +kernel
theorem dX6_solve_17 : decode cX6_solve 17 = .ok (.iload 4, 2) := by decide +kernel
theorem dX6_solve_19 : decode cX6_solve 19 = .ok (.iadd, 1) := by decide +kernel
theorem dX6_solve_20 : decode cX6_solve 20 = .ok (.iload_n 3, 1) := by decide +kernel
theorem dX6_solve_21 : decode cX6_solve 21 = .ok (.ifCond .eq 13, 3) := by decide +kernel
theorem dX6_solve_24 : decode cX6_solve 24 = .ok (.iload 4, 2) := by decide +kernel
theorem dX6_solve_26 : decode cX6_solve 26 = .ok (.ifCond .le 8, 3) := by decide +kernel
theorem dX6_solve_29 : decode cX6_solve 29 = .ok (.ldc 18, 2) := by decide +kernel
theorem dX6_solve_31 : decode cX6_solve 31 = .ok (.goto 4, 3) := by decide +kernel
theorem dX6_solve_34 : decode cX6_solve 34 = .ok (.iconst 0, 1) := by decide +kernel
theorem dX6_solve_35 : decode cX6_solve 35 = .ok (.iastore, 1) := by decide +kernel
theorem dX6_solve_36 : decode cX6_solve 36 = .ok (.iinc 4 1, 3) := by decide +kernel
theorem dX6_solve_39 : decode cX6_solve 39 = .ok (.goto (-36), 3) := by decide +kernel
theorem dX6_solve_42 : decode cX6_solve 42 = .ok (.iload_n 1, 1) := by decide +kernel
theorem dX6_solve_43 : decode cX6_solve 43 = .ok (.iconst 1, 1) := by decide +kernel
theorem dX6_solve_44 : decode cX6_solve 44 = .ok (.isub, 1) := by decide +kernel
theorem dX6_solve_45 : decode cX6_solve 45 = .ok (.istore 4, 2) := by decide +kernel
theorem dX6_solve_47 : decode cX6_solve 47 = .ok (.iload 4, 2) := by decide +kernel
theorem dX6_solve_49 : decode cX6_solve 49 = .ok (.ifCond .lt 45, 3) := by decide +kernel
theorem dX6_solve_52 : decode cX6_solve 52 = .ok (.iconst 0, 1) := by decide +kernel
theorem dX6_solve_53 : decode cX6_solve 53 = .ok (.istore 5, 2) := by decide +kernel
theorem dX6_solve_55 : decode cX6_solve 55 = .ok (.iload 5, 2) := by decide +kernel
theorem dX6_solve_57 : decode cX6_solve 57 = .ok (.iload_n 2, 1) := by decide +kernel
theorem dX6_solve_58 : decode cX6_solve 58 = .ok (.if_icmp .gt 30, 3) := by decide +kernel
theorem dX6_solve_61 : decode cX6_solve 61 = .ok (.aload_n 0, 1) := by decide +kernel
theorem dX6_solve_62 : decode cX6_solve 62 = .ok (.getfield 15, 3) := by decide +kernel
theorem dX6_solve_65 : decode cX6_solve 65 = .ok (.iload 4, 2) := by decide +kernel
theorem dX6_solve_67 : decode cX6_solve 67 = .ok (.bipush 10, 2) := by decide +kernel
theorem dX6_solve_69 : decode cX6_solve 69 = .ok (.imul, 1) := by decide +kernel
theorem dX6_solve_70 : decode cX6_solve 70 = .ok (.iload 5, 2) := by decide +kernel
theorem dX6_solve_72 : decode cX6_solve 72 = .ok (.iadd, 1) := by decide +kernel
theorem dX6_solve_73 : decode cX6_solve 73 = .ok (.aload_n 0, 1) := by decide +kernel
theorem dX6_solve_74 : decode cX6_solve 74 = .ok (.iload 4, 2) := by decide +kernel
theorem dX6_solve_76 : decode cX6_solve 76 = .ok (.iload 5, 2) := by decide +kernel
theorem dX6_solve_78 : decode cX6_solve 78 = .ok (.invokevirtual 19, 3) := by decide +kernel
theorem dX6_solve_81 : decode cX6_solve 81 = .ok (.iastore, 1) := by decide +kernel
theorem dX6_solve_82 : decode cX6_solve 82 = .ok (.iinc 5 1, 3) := by decide +kernel
theorem dX6_solve_85 : decode cX6_solve 85 = .ok (.goto (-30), 3) := by decide +kernel
theorem dX6_solve_88 : decode cX6_solve 88 = .ok (.iinc 4 (-1), 3) := by decide +kernel
theorem dX6_solve_91 : decode cX6_solve 91 = .ok (.goto (-44), 3) := by decide +kernel
theorem dX6_solve_94 : decode cX6_solve 94 = .ok (.aload_n 0, 1) := by decide +kernel
theorem dX6_solve_95 : decode cX6_solve 95 = .ok (.getfield 15, 3) := by decide +kernel
theorem dX6_solve_98 : decode cX6_solve 98 = .ok (.iload_n 2, 1) := by decide +kernel
theorem dX6_solve_99 : decode cX6_solve 99 = .ok (.iaload, 1) := by decide +kernel
theorem dX6_solve_100 : decode cX6_solve 100 = .ok (.ireturn, 1) := by decide +kernel
theorem dX6_mostFrom_0 : decode cX6_mostFrom 0 = .ok (.ldc 18, 2) := by decide +kernel
theorem dX6_mostFrom_2 : decode cX6_mostFrom 2 = .ok (.istore_n 3, 1) := by decide +kernel
theorem dX6_mostFrom_3 : decode cX6_mostFrom 3 = .ok (.iconst 0, 1) := by decide +kernel
theorem dX6_mostFrom_4 : decode cX6_mostFrom 4 = .ok (.istore 4, 2) := by decide +kernel
theorem dX6_mostFrom_6 : decode cX6_mostFrom 6 = .ok (.iload 4, 2) := by decide +kernel
theorem dX6_mostFrom_8 : decode cX6_mostFrom 8 = .ok (.iload_n 2, 1) := by decide +kernel
theorem dX6_mostFrom_9 : decode cX6_mostFrom 9 = .ok (.if_icmp .gt 22, 3) := by decide +kernel
theorem dX6_mostFrom_12 : decode cX6_mostFrom 12 = .ok (.iload_n 3, 1) := by decide +kernel
theorem dX6_mostFrom_13 : decode cX6_mostFrom 13 = .ok (.aload_n 0, 1) := by decide +kernel
theorem dX6_mostFrom_14 : decode cX6_mostFrom 14 = .ok (.iload_n 1, 1) := by decide +kernel
theorem dX6_mostFrom_15 : decode cX6_mostFrom 15 = .ok (.iload_n 2, 1) := by decide +kernel
theorem dX6_mostFrom_16 : decode cX6_mostFrom 16 = .ok (.iload 4, 2) := by decide +kernel
theorem dX6_mostFrom_18 : decode cX6_mostFrom 18 = .ok (.invokevirtual 23, 3) := by decide +kernel
theorem dX6_mostFrom_21 : decode cX6_mostFrom 21 = .ok (.invokestatic 27, 3) := by decide +kernel
theorem dX6_mostFrom_24 : decode cX6_mostFrom 24 = .ok (.istore_n 3, 1) := by decide +kernel
theorem dX6_mostFrom_25 : decode cX6_mostFrom 25 = .ok (.iinc 4 1, 3) := by decide +kernel
theorem dX6_mostFrom_28 : decode cX6_mostFrom 28 = .ok (.goto (-22), 3) := by decide +kernel
theorem dX6_mostFrom_31 : decode cX6_mostFrom 31 = .ok (.iload_n 3, 1) := by decide +kernel
theorem dX6_mostFrom_32 : decode cX6_mostFrom 32 = .ok (.ireturn, 1) := by decide +kernel
theorem dX6_with_0 : decode cX6_with 0 = .ok (.aload_n 0, 1) := by decide +kernel
theorem dX6_with_1 : decode cX6_with 1 = .ok (.getfield 9, 3) := by decide +kernel
theorem dX6_with_4 : decode cX6_with 4 = .ok (.iload_n 1, 1) := by decide +kernel
theorem dX6_with_5 : decode cX6_with 5 = .ok (.bipush 10, 2) := by decide +kernel
theorem dX6_with_7 : decode cX6_with 7 = .ok (.imul, 1) := by decide +kernel
theorem dX6_with_8 : decode cX6_with 8 = .ok (.iload_n 3, 1) := by decide +kernel
theorem dX6_with_9 : decode cX6_with 9 = .ok (.iadd, 1) := by decide +kernel
theorem dX6_with_10 : decode cX6_with 10 = .ok (.iaload, 1) := by decide +kernel
theorem dX6_with_11 : decode cX6_with 11 = .ok (.aload_n 0, 1) := by decide +kernel
theorem dX6_with_12 : decode cX6_with 12 = .ok (.getfield 15, 3) := by decide +kernel
theorem dX6_with_15 : decode cX6_with 15 = .ok (.iload_n 1, 1) := by decide +kernel
theorem dX6_with_16 : decode cX6_with 16 = .ok (.iconst 1, 1) := by decide +kernel
theorem dX6_with_17 : decode cX6_with 17 = .ok (.iadd, 1) := by decide +kernel
theorem dX6_with_18 : decode cX6_with 18 = .ok (.bipush 10, 2) := by decide +kernel
theorem dX6_with_20 : decode cX6_with 20 = .ok (.imul, 1) := by decide +kernel
theorem dX6_with_21 : decode cX6_with 21 = .ok (.iload_n 2, 1) := by decide +kernel
theorem dX6_with_22 : decode cX6_with 22 = .ok (.iadd, 1) := by decide +kernel
theorem dX6_with_23 : decode cX6_with 23 = .ok (.iload_n 3, 1) := by decide +kernel
theorem dX6_with_24 : decode cX6_with 24 = .ok (.isub, 1) := by decide +kernel
theorem dX6_with_25 : decode cX6_with 25 = .ok (.iaload, 1) := by decide +kernel
theorem dX6_with_26 : decode cX6_with 26 = .ok (.iadd, 1) := by decide +kernel
theorem dX6_with_27 : decode cX6_with 27 = .ok (.ireturn, 1) := by decide +kernel
theorem dX6_choose_0 : decode cX6_choose 0 = .ok (.iload_n 2, 1) := by decide +kernel
theorem dX6_choose_1 : decode cX6_choose 1 = .ok (.istore 4, 2) := by decide +kernel
theorem dX6_choose_3 : decode cX6_choose 3 = .ok (.iconst 0, 1) := by decide +kernel
theorem dX6_choose_4 : decode cX6_choose 4 = .ok (.istore 5, 2) := by decide +kernel
theorem dX6_choose_6 : decode cX6_choose 6 = .ok (.iload 5, 2) := by decide +kernel
theorem dX6_choose_8 : decode cX6_choose 8 = .ok (.iload_n 1, 1) := by decide +kernel
theorem dX6_choose_9 : decode cX6_choose 9 = .ok (.if_icmp .ge 64, 3) := by decide +kernel
theorem dX6_choose_12 : decode cX6_choose 12 = .ok (.iconst 0, 1) := by decide +kernel
theorem dX6_choose_13 : decode cX6_choose 13 = .ok (.istore 6, 2) := by decide +kernel
theorem dX6_choose_15 : decode cX6_choose 15 = .ok (.iload 6, 2) := by decide +kernel
theorem dX6_choose_17 : decode cX6_choose 17 = .ok (.iload 4, 2) := by decide +kernel
theorem dX6_choose_19 : decode cX6_choose 19 = .ok (.if_icmp .ge 35, 3) := by decide +kernel
theorem dX6_choose_22 : decode cX6_choose 22 = .ok (.aload_n 0, 1) := by decide +kernel
theorem dX6_choose_23 : decode cX6_choose 23 = .ok (.iload 5, 2) := by decide +kernel
theorem dX6_choose_25 : decode cX6_choose 25 = .ok (.iload 4, 2) := by decide +kernel
theorem dX6_choose_27 : decode cX6_choose 27 = .ok (.iload 6, 2) := by decide +kernel
theorem dX6_choose_29 : decode cX6_choose 29 = .ok (.invokevirtual 23, 3) := by decide +kernel
theorem dX6_choose_32 : decode cX6_choose 32 = .ok (.aload_n 0, 1) := by decide +kernel
theorem dX6_choose_33 : decode cX6_choose 33 = .ok (.getfield 15, 3) := by decide +kernel
theorem dX6_choose_36 : decode cX6_choose 36 = .ok (.iload 5, 2) := by decide +kernel
theorem dX6_choose_38 : decode cX6_choose 38 = .ok (.bipush 10, 2) := by decide +kernel
theorem dX6_choose_40 : decode cX6_choose 40 = .ok (.imul, 1) := by decide +kernel
theorem dX6_choose_41 : decode cX6_choose 41 = .ok (.iload 4, 2) := by decide +kernel
theorem dX6_choose_43 : decode cX6_choose 43 = .ok (.iadd, 1) := by decide +kernel
theorem dX6_choose_44 : decode cX6_choose 44 = .ok (.iaload, 1) := by decide +kernel
theorem dX6_choose_45 : decode cX6_choose 45 = .ok (.if_icmp .eq 9, 3) := by decide +kernel
theorem dX6_choose_48 : decode cX6_choose 48 = .ok (.iinc 6 1, 3) := by decide +kernel
theorem dX6_choose_51 : decode cX6_choose 51 = .ok (.goto (-36), 3) := by decide +kernel
theorem dX6_choose_54 : decode cX6_choose 54 = .ok (.aload_n 3, 1) := by decide +kernel
theorem dX6_choose_55 : decode cX6_choose 55 = .ok (.iload 5, 2) := by decide +kernel
theorem dX6_choose_57 : decode cX6_choose 57 = .ok (.iload 6, 2) := by decide +kernel
theorem dX6_choose_59 : decode cX6_choose 59 = .ok (.iastore, 1) := by decide +kernel
theorem dX6_choose_60 : decode cX6_choose 60 = .ok (.iload 4, 2) := by decide +kernel
theorem dX6_choose_62 : decode cX6_choose 62 = .ok (.iload 6, 2) := by decide +kernel
theorem dX6_choose_64 : decode cX6_choose 64 = .ok (.isub, 1) := by decide +kernel
theorem dX6_choose_65 : decode cX6_choose 65 = .ok (.istore 4, 2) := by decide +kernel
theorem dX6_choose_67 : decode cX6_choose 67 = .ok (.iinc 5 1, 3) := by decide +kernel
theorem dX6_choose_70 : decode cX6_choose 70 = .ok (.goto (-64), 3) := by decide +kernel
theorem dX6_choose_73 : decode cX6_choose 73 = .ok (.return_, 1) := by decide +kernel
theorem dX7_init_0 : decode cX7_init 0 = .ok (.aload_n 0, 1) := by decide +kernel
theorem dX7_init_1 : decode cX7_init 1 = .ok (.invokespecial 3, 3) := by decide +kernel
theorem dX7_init_4 : decode cX7_init 4 = .ok (.aload_n 0, 1) := by decide +kernel
theorem dX7_init_5 : decode cX7_init 5 = .ok (.bipush 60, 2) := by decide +kernel
theorem dX7_init_7 : decode cX7_init 7 = .ok (.newarray .long, 2) := by decide +kernel
theorem dX7_init_9 : decode cX7_init 9 = .ok (.putfield 11, 3) := by decide +kernel
theorem dX7_init_12 : decode cX7_init 12 = .ok (.return_, 1) := by decide +kernel
theorem dX7_holdBody_0 : decode cX7_holdBody 0 = .ok (.aload_n 0, 1) := by decide +kernel
theorem dX7_holdBody_1 : decode cX7_holdBody 1 = .ok (.iload_n 1, 1) := by decide +kernel
theorem dX7_holdBody_2 : decode cX7_holdBody 2 = .ok (.ifCond .ge 7, 3) := by decide +kernel
theorem dX7_holdBody_5 : decode cX7_holdBody 5 = .ok (.iconst 0, 1) := by decide +kernel
theorem dX7_holdBody_6 : decode cX7_holdBody 6 = .ok (.goto 4, 3) := by decide +kernel
theorem dX7_holdBody_9 : decode cX7_holdBody 9 = .ok (.iconst 1, 1) := by decide +kernel
theorem dX7_holdBody_10 : decode cX7_holdBody 10 = .ok (.putfield 15, 3) := by decide +kernel
theorem dX7_holdBody_13 : decode cX7_holdBody 13 = .ok (.aload_n 0, 1) := by decide +kernel
theorem dX7_holdBody_14 : decode cX7_holdBody 14 = .ok (.iload_n 1, 1) := by decide +kernel
theorem dX7_holdBody_15 : decode cX7_holdBody 15 = .ok (.putfield 19, 3) := by decide +kernel
theorem dX7_holdBody_18 : decode cX7_holdBody 18 = .ok (.return_, 1) := by decide +kernel
theorem dX7_holdRow_0 : decode cX7_holdRow 0 = .ok (.aload_n 0, 1) := by decide +kernel
theorem dX7_holdRow_1 : decode cX7_holdRow 1 = .ok (.iconst 2, 1) := by decide +kernel
theorem dX7_holdRow_2 : decode cX7_holdRow 2 = .ok (.putfield 15, 3) := by decide +kernel
theorem dX7_holdRow_5 : decode cX7_holdRow 5 = .ok (.aload_n 0, 1) := by decide +kernel
theorem dX7_holdRow_6 : decode cX7_holdRow 6 = .ok (.iload_n 1, 1) := by decide +kernel
theorem dX7_holdRow_7 : decode cX7_holdRow 7 = .ok (.putfield 22, 3) := by decide +kernel
theorem dX7_holdRow_10 : decode cX7_holdRow 10 = .ok (.aload_n 0, 1) := by decide +kernel
theorem dX7_holdRow_11 : decode cX7_holdRow 11 = .ok (.iload_n 2, 1) := by decide +kernel
theorem dX7_holdRow_12 : decode cX7_holdRow 12 = .ok (.putfield 25, 3) := by decide +kernel
theorem dX7_holdRow_15 : decode cX7_holdRow 15 = .ok (.aload_n 0, 1) := by decide +kernel
theorem dX7_holdRow_16 : decode cX7_holdRow 16 = .ok (.getfield 11, 3) := by decide +kernel
theorem dX7_holdRow_19 : decode cX7_holdRow 19 = .ok (.lconst 0, 1) := by decide +kernel
theorem dX7_holdRow_20 : decode cX7_holdRow 20 = .ok (.invokestatic 28, 3) := by decide +kernel
theorem dX7_holdRow_23 : decode cX7_holdRow 23 = .ok (.return_, 1) := by decide +kernel
theorem dX7_refusal_0 : decode cX7_refusal 0 = .ok (.aload_n 0, 1) := by decide +kernel
theorem dX7_refusal_1 : decode cX7_refusal 1 = .ok (.getfield 15, 3) := by decide +kernel
theorem dX7_refusal_4 : decode cX7_refusal 4 = .ok (.ifCond .ne 6, 3) := by decide +kernel
theorem dX7_refusal_7 : decode cX7_refusal 7 = .ok (.bipush (-11), 2) := by decide +kernel
theorem dX7_refusal_9 : decode cX7_refusal 9 = .ok (.ireturn, 1) := by decide +kernel
theorem dX7_refusal_10 : decode cX7_refusal 10 = .ok (.aload_n 0, 1) := by decide +kernel
theorem dX7_refusal_11 : decode cX7_refusal 11 = .ok (.getfield 15, 3) := by decide +kernel
theorem dX7_refusal_14 : decode cX7_refusal 14 = .ok (.iconst 2, 1) := by decide +kernel
theorem dX7_refusal_15 : decode cX7_refusal 15 = .ok (.if_icmp .eq 6, 3) := by decide +kernel
theorem dX7_refusal_18 : decode cX7_refusal 18 = .ok (.bipush (-12), 2) := by decide +kernel
theorem dX7_refusal_20 : decode cX7_refusal 20 = .ok (.ireturn, 1) := by decide +kernel
theorem dX7_refusal_21 : decode cX7_refusal 21 = .ok (.iload_n 1, 1) := by decide +kernel
theorem dX7_refusal_22 : decode cX7_refusal 22 = .ok (.ifCond .lt 11, 3) := by decide +kernel
theorem dX7_refusal_25 : decode cX7_refusal 25 = .ok (.iload_n 1, 1) := by decide +kernel
theorem dX7_refusal_26 : decode cX7_refusal 26 = .ok (.aload_n 0, 1) := by decide +kernel
theorem dX7_refusal_27 : decode cX7_refusal 27 = .ok (.getfield 25, 3) := by decide +kernel
theorem dX7_refusal_30 : decode cX7_refusal 30 = .ok (.if_icmp .lt 8, 3) := by decide +kernel
theorem dX7_refusal_33 : decode cX7_refusal 33 = .ok (.bipush (-13), 2) := by decide +kernel
theorem dX7_refusal_35 : decode cX7_refusal 35 = .ok (.goto 4, 3) := by decide +kernel
theorem dX7_refusal_38 : decode cX7_refusal 38 = .ok (.iconst 0, 1) := by decide +kernel
theorem dX7_refusal_39 : decode cX7_refusal 39 = .ok (.ireturn, 1) := by decide +kernel
theorem dX7_hasRun_0 : decode cX7_hasRun 0 = .ok (.iload_n 1, 1) := by decide +kernel
theorem dX7_hasRun_1 : decode cX7_hasRun 1 = .ok (.ifCond .lt 29, 3) := by decide +kernel
theorem dX7_hasRun_4 : decode cX7_hasRun 4 = .ok (.iload_n 2, 1) := by decide +kernel
theorem dX7_hasRun_5 : decode cX7_hasRun 5 = .ok (.ifCond .lt 25, 3) := by decide +kernel
theorem dX7_hasRun_8 : decode cX7_hasRun 8 = .ok (.iload_n 1, 1) := by decide +kernel
theorem dX7_hasRun_9 : decode cX7_hasRun 9 = .ok (.aload_n 0, 1) := by decide +kernel
theorem dX7_hasRun_10 : decode cX7_hasRun 10 = .ok (.getfield 25, 3) := by decide +kernel
theorem dX7_hasRun_13 : decode cX7_hasRun 13 = .ok (.if_icmp .gt 17, 3) := by decide +kernel
theorem dX7_hasRun_16 : decode cX7_hasRun 16 = .ok (.iload_n 2, 1) := by decide +kernel
theorem dX7_hasRun_17 : decode cX7_hasRun 17 = .ok (.aload_n 0, 1) := by decide +kernel
theorem dX7_hasRun_18 : decode cX7_hasRun 18 = .ok (.getfield 25, 3) := by decide +kernel
theorem dX7_hasRun_21 : decode cX7_hasRun 21 = .ok (.iload_n 1, 1) := by decide +kernel
theorem dX7_hasRun_22 : decode cX7_hasRun 22 = .ok (.isub, 1) := by decide +kernel
theorem dX7_hasRun_23 : decode cX7_hasRun 23 = .ok (.if_icmp .gt 7, 3) := by decide +kernel
theorem dX7_hasRun_26 : decode cX7_hasRun 26 = .ok (.iconst 1, 1) := by decide +kernel
theorem dX7_hasRun_27 : decode cX7_hasRun 27 = .ok (.goto 4, 3) := by decide +kernel
theorem dX7_hasRun_30 : decode cX7_hasRun 30 = .ok (.iconst 0, 1) := by decide +kernel
theorem dX7_hasRun_31 : decode cX7_hasRun 31 = .ok (.ireturn, 1) := by decide +kernel
theorem dX7_lowest_0 : decode cX7_lowest 0 = .ok (.iload_n 0, 1) := by decide +kernel
theorem dX7_lowest_1 : decode cX7_lowest 1 = .ok (.tableswitch 47 0 3 #[31, 36, 41, 45], 31) := by decide +kernel
theorem dX7_lowest_32 : decode cX7_lowest 32 = .ok (.lload_n 1, 1) := by decide +kernel
theorem dX7_lowest_33 : decode cX7_lowest 33 = .ok (.l2i, 1) := by decide +kernel
theorem dX7_lowest_34 : decode cX7_lowest 34 = .ok (.i2b, 1) := by decide +kernel
theorem dX7_lowest_35 : decode cX7_lowest 35 = .ok (.i2l, 1) := by decide +kernel
theorem dX7_lowest_36 : decode cX7_lowest 36 = .ok (.lreturn, 1) := by decide +kernel
theorem dX7_lowest_37 : decode cX7_lowest 37 = .ok (.lload_n 1, 1) := by decide +kernel
theorem dX7_lowest_38 : decode cX7_lowest 38 = .ok (.l2i, 1) := by decide +kernel
theorem dX7_lowest_39 : decode cX7_lowest 39 = .ok (.i2s, 1) := by decide +kernel
theorem dX7_lowest_40 : decode cX7_lowest 40 = .ok (.i2l, 1) := by decide +kernel
theorem dX7_lowest_41 : decode cX7_lowest 41 = .ok (.lreturn, 1) := by decide +kernel
theorem dX7_lowest_42 : decode cX7_lowest 42 = .ok (.lload_n 1, 1) := by decide +kernel
theorem dX7_lowest_43 : decode cX7_lowest 43 = .ok (.l2i, 1) := by decide +kernel
theorem dX7_lowest_44 : decode cX7_lowest 44 = .ok (.i2l, 1) := by decide +kernel
theorem dX7_lowest_45 : decode cX7_lowest 45 = .ok (.lreturn, 1) := by decide +kernel
theorem dX7_lowest_46 : decode cX7_lowest 46 = .ok (.lload_n 1, 1) := by decide +kernel
theorem dX7_lowest_47 : decode cX7_lowest 47 = .ok (.lreturn, 1) := by decide +kernel
theorem dX7_lowest_48 : decode cX7_lowest 48 = .ok (.lload_n 1, 1) := by decide +kernel
theorem dX7_lowest_49 : decode cX7_lowest 49 = .ok (.lconst 0, 1) := by decide +kernel
theorem dX7_lowest_50 : decode cX7_lowest 50 = .ok (.lcmp, 1) := by decide +kernel
theorem dX7_lowest_51 : decode cX7_lowest 51 = .ok (.ifCond .eq 7, 3) := by decide +kernel
theorem dX7_lowest_54 : decode cX7_lowest 54 = .ok (.lconst 1, 1) := by decide +kernel
theorem dX7_lowest_55 : decode cX7_lowest 55 = .ok (.goto 4, 3) := by decide +kernel
theorem dX7_lowest_58 : decode cX7_lowest 58 = .ok (.lconst 0, 1) := by decide +kernel
theorem dX7_lowest_59 : decode cX7_lowest 59 = .ok (.lreturn, 1) := by decide +kernel
theorem dX8_init_0 : decode cX8_init 0 = .ok (.aload_n 0, 1) := by decide +kernel
theorem dX8_init_1 : decode cX8_init 1 = .ok (.invokespecial 3, 3) := by decide +kernel
theorem dX8_init_4 : decode cX8_init 4 = .ok (.aload_n 0, 1) := by decide +kernel
theorem dX8_init_5 : decode cX8_init 5 = .ok (.iconst 5, 1) := by decide +kernel
theorem dX8_init_6 : decode cX8_init 6 = .ok (.newarray .int, 2) := by decide +kernel
theorem dX8_init_8 : decode cX8_init 8 = .ok (.putfield 11, 3) := by decide +kernel
theorem dX8_init_11 : decode cX8_init 11 = .ok (.aload_n 0, 1) := by decide +kernel
theorem dX8_init_12 : decode cX8_init 12 = .ok (.iconst 5, 1) := by decide +kernel
theorem dX8_init_13 : decode cX8_init 13 = .ok (.newarray .int, 2) := by decide +kernel
theorem dX8_init_15 : decode cX8_init 15 = .ok (.putfield 15, 3) := by decide +kernel
theorem dX8_init_18 : decode cX8_init 18 = .ok (.aload_n 0, 1) := by decide +kernel
theorem dX8_init_19 : decode cX8_init 19 = .ok (.iconst 5, 1) := by decide +kernel
theorem dX8_init_20 : decode cX8_init 20 = .ok (.newarray .int, 2) := by decide +kernel
theorem dX8_init_22 : decode cX8_init 22 = .ok (.putfield 18, 3) := by decide +kernel
theorem dX8_init_25 : decode cX8_init 25 = .ok (.aload_n 0, 1) := by decide +kernel
theorem dX8_init_26 : decode cX8_init 26 = .ok (.iconst 2, 1) := by decide +kernel
theorem dX8_init_27 : decode cX8_init 27 = .ok (.newarray .int, 2) := by decide +kernel
theorem dX8_init_29 : decode cX8_init 29 = .ok (.dup, 1) := by decide +kernel
theorem dX8_init_30 : decode cX8_init 30 = .ok (.iconst 0, 1) := by decide +kernel
theorem dX8_init_31 : decode cX8_init 31 = .ok (.bipush 6, 2) := by decide +kernel
theorem dX8_init_33 : decode cX8_init 33 = .ok (.iastore, 1) := by decide +kernel
theorem dX8_init_34 : decode cX8_init 34 = .ok (.dup, 1) := by decide +kernel
theorem dX8_init_35 : decode cX8_init 35 = .ok (.iconst 1, 1) := by decide +kernel
theorem dX8_init_36 : decode cX8_init 36 = .ok (.bipush 6, 2) := by decide +kernel
theorem dX8_init_38 : decode cX8_init 38 = .ok (.iastore, 1) := by decide +kernel
theorem dX8_init_39 : decode cX8_init 39 = .ok (.putfield 21, 3) := by decide +kernel
theorem dX8_init_42 : decode cX8_init 42 = .ok (.aload_n 0, 1) := by decide +kernel
theorem dX8_init_43 : decode cX8_init 43 = .ok (.sipush 500, 3) := by decide +kernel
theorem dX8_init_46 : decode cX8_init 46 = .ok (.newarray .int, 2) := by decide +kernel
theorem dX8_init_48 : decode cX8_init 48 = .ok (.putfield 24, 3) := by decide +kernel
theorem dX8_init_51 : decode cX8_init 51 = .ok (.aload_n 0, 1) := by decide +kernel
theorem dX8_init_52 : decode cX8_init 52 = .ok (.iconst 5, 1) := by decide +kernel
theorem dX8_init_53 : decode cX8_init 53 = .ok (.newarray .boolean, 2) := by decide +kernel
theorem dX8_init_55 : decode cX8_init 55 = .ok (.putfield 27, 3) := by decide +kernel
theorem dX8_init_58 : decode cX8_init 58 = .ok (.aload_n 0, 1) := by decide +kernel
theorem dX8_init_59 : decode cX8_init 59 = .ok (.aload_n 1, 1) := by decide +kernel
theorem dX8_init_60 : decode cX8_init 60 = .ok (.putfield 31, 3) := by decide +kernel
theorem dX8_init_63 : decode cX8_init 63 = .ok (.return_, 1) := by decide +kernel
theorem dX8_found_0 : decode cX8_found 0 = .ok (.aload_n 0, 1) := by decide +kernel
theorem dX8_found_1 : decode cX8_found 1 = .ok (.getfield 35, 3) := by decide +kernel
theorem dX8_found_4 : decode cX8_found 4 = .ok (.iconst 5, 1) := by decide +kernel
theorem dX8_found_5 : decode cX8_found 5 = .ok (.if_icmp .lt 6, 3) := by decide +kernel
theorem dX8_found_8 : decode cX8_found 8 = .ok (.bipush (-3), 2) := by decide +kernel
theorem dX8_found_10 : decode cX8_found 10 = .ok (.ireturn, 1) := by decide +kernel
theorem dX8_found_11 : decode cX8_found 11 = .ok (.aload_n 0, 1) := by decide +kernel
theorem dX8_found_12 : decode cX8_found 12 = .ok (.getfield 11, 3) := by decide +kernel
theorem dX8_found_15 : decode cX8_found 15 = .ok (.aload_n 0, 1) := by decide +kernel
theorem dX8_found_16 : decode cX8_found 16 = .ok (.getfield 35, 3) := by decide +kernel
theorem dX8_found_19 : decode cX8_found 19 = .ok (.iload_n 1, 1) := by decide +kernel
theorem dX8_found_20 : decode cX8_found 20 = .ok (.iastore, 1) := by decide +kernel
theorem dX8_found_21 : decode cX8_found 21 = .ok (.aload_n 0, 1) := by decide +kernel
theorem dX8_found_22 : decode cX8_found 22 = .ok (.getfield 15, 3) := by decide +kernel
theorem dX8_found_25 : decode cX8_found 25 = .ok (.aload_n 0, 1) := by decide +kernel
theorem dX8_found_26 : decode cX8_found 26 = .ok (.getfield 35, 3) := by decide +kernel
theorem dX8_found_29 : decode cX8_found 29 = .ok (.iload_n 2, 1) := by decide +kernel
theorem dX8_found_30 : decode cX8_found 30 = .ok (.iastore, 1) := by decide +kernel
theorem dX8_found_31 : decode cX8_found 31 = .ok (.aload_n 0, 1) := by decide +kernel
theorem dX8_found_32 : decode cX8_found 32 = .ok (.getfield 18, 3) := by decide +kernel
theorem dX8_found_35 : decode cX8_found 35 = .ok (.aload_n 0, 1) := by decide +kernel
theorem dX8_found_36 : decode cX8_found 36 = .ok (.getfield 35, 3) := by decide +kernel
theorem dX8_found_39 : decode cX8_found 39 = .ok (.iload_n 3, 1) := by decide +kernel
theorem dX8_found_40 : decode cX8_found 40 = .ok (.iastore, 1) := by decide +kernel
theorem dX8_found_41 : decode cX8_found 41 = .ok (.aload_n 0, 1) := by decide +kernel
theorem dX8_found_42 : decode cX8_found 42 = .ok (.dup, 1) := by decide +kernel
theorem dX8_found_43 : decode cX8_found 43 = .ok (.getfield 35, 3) := by decide +kernel
theorem dX8_found_46 : decode cX8_found 46 = .ok (.iconst 1, 1) := by decide +kernel
theorem dX8_found_47 : decode cX8_found 47 = .ok (.iadd, 1) := by decide +kernel
theorem dX8_found_48 : decode cX8_found 48 = .ok (.putfield 35, 3) := by decide +kernel
theorem dX8_found_51 : decode cX8_found 51 = .ok (.aload_n 0, 1) := by decide +kernel
theorem dX8_found_52 : decode cX8_found 52 = .ok (.getfield 35, 3) := by decide +kernel
theorem dX8_found_55 : decode cX8_found 55 = .ok (.iconst 1, 1) := by decide +kernel
theorem dX8_found_56 : decode cX8_found 56 = .ok (.isub, 1) := by decide +kernel
theorem dX8_found_57 : decode cX8_found 57 = .ok (.ireturn, 1) := by decide +kernel
theorem dX8_isVillage_0 : decode cX8_isVillage 0 = .ok (.iload_n 1, 1) := by decide +kernel
theorem dX8_isVillage_1 : decode cX8_isVillage 1 = .ok (.ifCond .lt 15, 3) := by decide +kernel
theorem dX8_isVillage_4 : decode cX8_isVillage 4 = .ok (.iload_n 1, 1) := by decide +kernel
theorem dX8_isVillage_5 : decode cX8_isVillage 5 = .ok (.aload_n 0, 1) := by decide +kernel
theorem dX8_isVillage_6 : decode cX8_isVillage 6 = .ok (.getfield 35, 3) := by decide +kernel
theorem dX8_isVillage_9 : decode cX8_isVillage 9 = .ok (.if_icmp .ge 7, 3) := by decide +kernel
theorem dX8_isVillage_12 : decode cX8_isVillage 12 = .ok (.iconst 1, 1) := by decide +kernel
theorem dX8_isVillage_13 : decode cX8_isVillage 13 = .ok (.goto 4, 3) := by decide +kernel
theorem dX8_isVillage_16 : decode cX8_isVillage 16 = .ok (.iconst 0, 1) := by decide +kernel
theorem dX8_isVillage_17 : decode cX8_isVillage 17 = .ok (.ireturn, 1) := by decide +kernel
theorem dX8_mayBecome_0 : decode cX8_mayBecome 0 = .ok (.iload_n 3, 1) := by decide +kernel
theorem dX8_mayBecome_1 : decode cX8_mayBecome 1 = .ok (.ifCond .lt 9, 3) := by decide +kernel
theorem dX8_mayBecome_4 : decode cX8_mayBecome 4 = .ok (.iload_n 3, 1) := by decide +kernel
theorem dX8_mayBecome_5 : decode cX8_mayBecome 5 = .ok (.bipush 9, 2) := by decide +kernel
theorem dX8_mayBecome_7 : decode cX8_mayBecome 7 = .ok (.if_icmp .le 5, 3) := by decide +kernel
theorem dX8_mayBecome_10 : decode cX8_mayBecome 10 = .ok (.iconst 0, 1) := by decide +kernel
theorem dX8_mayBecome_11 : decode cX8_mayBecome 11 = .ok (.ireturn, 1) := by decide +kernel
theorem dX8_mayBecome_12 : decode cX8_mayBecome 12 = .ok (.iload_n 2, 1) := by decide +kernel
theorem dX8_mayBecome_13 : decode cX8_mayBecome 13 = .ok (.tableswitch 57 0 2 #[27, 32, 51], 27) := by decide +kernel
theorem dX8_mayBecome_40 : decode cX8_mayBecome 40 = .ok (.iload_n 1, 1) := by decide +kernel
theorem dX8_mayBecome_41 : decode cX8_mayBecome 41 = .ok (.invokestatic 39, 3) := by decide +kernel
theorem dX8_mayBecome_44 : decode cX8_mayBecome 44 = .ok (.ireturn, 1) := by decide +kernel
theorem dX8_mayBecome_45 : decode cX8_mayBecome 45 = .ok (.aload_n 0, 1) := by decide +kernel
theorem dX8_mayBecome_46 : decode cX8_mayBecome 46 = .ok (.iload_n 1, 1) := by decide +kernel
theorem dX8_mayBecome_47 : decode cX8_mayBecome 47 = .ok (.invokevirtual 43, 3) := by decide +kernel
theorem dX8_mayBecome_50 : decode cX8_mayBecome 50 = .ok (.ifCond .eq 12, 3) := by decide +kernel
theorem dX8_mayBecome_53 : decode cX8_mayBecome 53 = .ok (.iload_n 3, 1) := by decide +kernel
theorem dX8_mayBecome_54 : decode cX8_mayBecome 54 = .ok (.iconst 1, 1) := by decide +kernel
theorem dX8_mayBecome_55 : decode cX8_mayBecome 55 = .ok (.if_icmp .lt 7, 3) := by decide +kernel
theorem dX8_mayBecome_58 : decode cX8_mayBecome 58 = .ok (.iconst 1, 1) := by decide +kernel
theorem dX8_mayBecome_59 : decode cX8_mayBecome 59 = .ok (.goto 4, 3) := by decide +kernel
theorem dX8_mayBecome_62 : decode cX8_mayBecome 62 = .ok (.iconst 0, 1) := by decide +kernel
theorem dX8_mayBecome_63 : decode cX8_mayBecome 63 = .ok (.ireturn, 1) := by decide +kernel
theorem dX8_mayBecome_64 : decode cX8_mayBecome 64 = .ok (.aload_n 0, 1) := by decide +kernel
theorem dX8_mayBecome_65 : decode cX8_mayBecome 65 = .ok (.iload_n 1, 1) := by decide +kernel
theorem dX8_mayBecome_66 : decode cX8_mayBecome 66 = .ok (.invokevirtual 43, 3) := by decide +kernel
theorem dX8_mayBecome_69 : decode cX8_mayBecome 69 = .ok (.ireturn, 1) := by decide +kernel
theorem dX8_mayBecome_70 : decode cX8_mayBecome 70 = .ok (.iconst 0, 1) := by decide +kernel
theorem dX8_mayBecome_71 : decode cX8_mayBecome 71 = .ok (.ireturn, 1) := by decide +kernel
theorem dX8_valueOf_0 : decode cX8_valueOf 0 = .ok (.iload_n 2, 1) := by decide +kernel
theorem dX8_valueOf_1 : decode cX8_valueOf 1 = .ok (.ifCond .ne 12, 3) := by decide +kernel
theorem dX8_valueOf_4 : decode cX8_valueOf 4 = .ok (.aload_n 0, 1) := by decide +kernel
theorem dX8_valueOf_5 : decode cX8_valueOf 5 = .ok (.getfield 21, 3) := by decide +kernel
theorem dX8_valueOf_8 : decode cX8_valueOf 8 = .ok (.iload_n 1, 1) := by decide +kernel
theorem dX8_valueOf_9 : decode cX8_valueOf 9 = .ok (.iaload, 1) := by decide +kernel
theorem dX8_valueOf_10 : decode cX8_valueOf 10 = .ok (.goto 23, 3) := by decide +kernel
theorem dX8_valueOf_13 : decode cX8_valueOf 13 = .ok (.iload_n 2, 1) := by decide +kernel
theorem dX8_valueOf_14 : decode cX8_valueOf 14 = .ok (.iconst 1, 1) := by decide +kernel
theorem dX8_valueOf_15 : decode cX8_valueOf 15 = .ok (.if_icmp .ne 12, 3) := by decide +kernel
theorem dX8_valueOf_18 : decode cX8_valueOf 18 = .ok (.aload_n 0, 1) := by decide +kernel
theorem dX8_valueOf_19 : decode cX8_valueOf 19 = .ok (.getfield 11, 3) := by decide +kernel
theorem dX8_valueOf_22 : decode cX8_valueOf 22 = .ok (.iload_n 1, 1) := by decide +kernel
theorem dX8_valueOf_23 : decode cX8_valueOf 23 = .ok (.iaload, 1) := by decide +kernel
theorem dX8_valueOf_24 : decode cX8_valueOf 24 = .ok (.goto 9, 3) := by decide +kernel
theorem dX8_valueOf_27 : decode cX8_valueOf 27 = .ok (.aload_n 0, 1) := by decide +kernel
theorem dX8_valueOf_28 : decode cX8_valueOf 28 = .ok (.getfield 15, 3) := by decide +kernel
theorem dX8_valueOf_31 : decode cX8_valueOf 31 = .ok (.iload_n 1, 1) := by decide +kernel
theorem dX8_valueOf_32 : decode cX8_valueOf 32 = .ok (.iaload, 1) := by decide +kernel
theorem dX8_valueOf_33 : decode cX8_valueOf 33 = .ok (.ireturn, 1) := by decide +kernel
theorem dX8_become_0 : decode cX8_become 0 = .ok (.aload_n 0, 1) := by decide +kernel
theorem dX8_become_1 : decode cX8_become 1 = .ok (.iload_n 1, 1) := by decide +kernel
theorem dX8_become_2 : decode cX8_become 2 = .ok (.iload_n 2, 1) := by decide +kernel
theorem dX8_become_3 : decode cX8_become 3 = .ok (.iload_n 3, 1) := by decide +kernel
theorem dX8_become_4 : decode cX8_become 4 = .ok (.invokevirtual 46, 3) := by decide +kernel
theorem dX8_become_7 : decode cX8_become 7 = .ok (.ifCond .ne 4, 3) := by decide +kernel
theorem dX8_become_10 : decode cX8_become 10 = .ok (.return_, 1) := by decide +kernel
theorem dX8_become_11 : decode cX8_become 11 = .ok (.iload_n 2, 1) := by decide +kernel
theorem dX8_become_12 : decode cX8_become 12 = .ok (.ifCond .ne 11, 3) := by decide +kernel
theorem dX8_become_15 : decode cX8_become 15 = .ok (.aload_n 0, 1) := by decide +kernel
theorem dX8_become_16 : decode cX8_become 16 = .ok (.getfield 21, 3) := by decide +kernel
theorem dX8_become_19 : decode cX8_become 19 = .ok (.iload_n 1, 1) := by decide +kernel
theorem dX8_become_20 : decode cX8_become 20 = .ok (.iload_n 3, 1) := by decide +kernel
theorem dX8_become_21 : decode cX8_become 21 = .ok (.iastore, 1) := by decide +kernel
theorem dX8_become_22 : decode cX8_become 22 = .ok (.return_, 1) := by decide +kernel
theorem dX8_become_23 : decode cX8_become 23 = .ok (.iload_n 2, 1) := by decide +kernel
theorem dX8_become_24 : decode cX8_become 24 = .ok (.iconst 1, 1) := by decide +kernel
theorem dX8_become_25 : decode cX8_become 25 = .ok (.if_icmp .ne 13, 3) := by decide +kernel
theorem dX8_become_28 : decode cX8_become 28 = .ok (.aload_n 0, 1) := by decide +kernel
theorem dX8_become_29 : decode cX8_become 29 = .ok (.getfield 11, 3) := by decide +kernel
theorem dX8_become_32 : decode cX8_become 32 = .ok (.iload_n 1, 1) := by decide +kernel
theorem dX8_become_33 : decode cX8_become 33 = .ok (.iload_n 3, 1) := by decide +kernel
theorem dX8_become_34 : decode cX8_become 34 = .ok (.iastore, 1) := by decide +kernel
theorem dX8_become_35 : decode cX8_become 35 = .ok (.goto 10, 3) := by decide +kernel
theorem dX8_become_38 : decode cX8_become 38 = .ok (.aload_n 0, 1) := by decide +kernel
theorem dX8_become_39 : decode cX8_become 39 = .ok (.getfield 15, 3) := by decide +kernel
theorem dX8_become_42 : decode cX8_become 42 = .ok (.iload_n 1, 1) := by decide +kernel
theorem dX8_become_43 : decode cX8_become 43 = .ok (.iload_n 3, 1) := by decide +kernel
theorem dX8_become_44 : decode cX8_become 44 = .ok (.iastore, 1) := by decide +kernel
theorem dX8_become_45 : decode cX8_become 45 = .ok (.aload_n 0, 1) := by decide +kernel
theorem dX8_become_46 : decode cX8_become 46 = .ok (.getfield 27, 3) := by decide +kernel
theorem dX8_become_49 : decode cX8_become 49 = .ok (.iload_n 1, 1) := by decide +kernel
theorem dX8_become_50 : decode cX8_become 50 = .ok (.iconst 0, 1) := by decide +kernel
theorem dX8_become_51 : decode cX8_become 51 = .ok (.bastore, 1) := by decide +kernel
theorem dX8_become_52 : decode cX8_become 52 = .ok (.return_, 1) := by decide +kernel
theorem dX8_forget_0 : decode cX8_forget 0 = .ok (.iconst 0, 1) := by decide +kernel
theorem dX8_forget_1 : decode cX8_forget 1 = .ok (.istore_n 1, 1) := by decide +kernel
theorem dX8_forget_2 : decode cX8_forget 2 = .ok (.iload_n 1, 1) := by decide +kernel
theorem dX8_forget_3 : decode cX8_forget 3 = .ok (.iconst 5, 1) := by decide +kernel
theorem dX8_forget_4 : decode cX8_forget 4 = .ok (.if_icmp .ge 16, 3) := by decide +kernel
theorem dX8_forget_7 : decode cX8_forget 7 = .ok (.aload_n 0, 1) := by decide +kernel
theorem dX8_forget_8 : decode cX8_forget 8 = .ok (.getfield 27, 3) := by decide +kernel
theorem dX8_forget_11 : decode cX8_forget 11 = .ok (.iload_n 1, 1) := by decide +kernel
theorem dX8_forget_12 : decode cX8_forget 12 = .ok (.iconst 0, 1) := by decide +kernel
theorem dX8_forget_13 : decode cX8_forget 13 = .ok (.bastore, 1) := by decide +kernel
theorem dX8_forget_14 : decode cX8_forget 14 = .ok (.iinc 1 1, 3) := by decide +kernel
theorem dX8_forget_17 : decode cX8_forget 17 = .ok (.goto (-15), 3) := by decide +kernel
theorem dX8_forget_20 : decode cX8_forget 20 = .ok (.return_, 1) := by decide +kernel
theorem dX8_settle_0 : decode cX8_settle 0 = .ok (.iconst 0, 1) := by decide +kernel
theorem dX8_settle_1 : decode cX8_settle 1 = .ok (.istore_n 1, 1) := by decide +kernel
theorem dX8_settle_2 : decode cX8_settle 2 = .ok (.iload_n 1, 1) := by decide +kernel
theorem dX8_settle_3 : decode cX8_settle 3 = .ok (.aload_n 0, 1) := by decide +kernel
theorem dX8_settle_4 : decode cX8_settle 4 = .ok (.getfield 35, 3) := by decide +kernel
theorem dX8_settle_7 : decode cX8_settle 7 = .ok (.if_icmp .ge 66, 3) := by decide +kernel
theorem dX8_settle_10 : decode cX8_settle 10 = .ok (.aload_n 0, 1) := by decide +kernel
theorem dX8_settle_11 : decode cX8_settle 11 = .ok (.getfield 27, 3) := by decide +kernel
theorem dX8_settle_14 : decode cX8_settle 14 = .ok (.iload_n 1, 1) := by decide +kernel
theorem dX8_settle_15 : decode cX8_settle 15 = .ok (.baload, 1) := by decide +kernel
theorem dX8_settle_16 : decode cX8_settle 16 = .ok (.ifCond .eq 6, 3) := by decide +kernel
theorem dX8_settle_19 : decode cX8_settle 19 = .ok (.goto 48, 3) := by decide +kernel
theorem dX8_settle_22 : decode cX8_settle 22 = .ok (.iconst 0, 1) := by decide +kernel
theorem dX8_settle_23 : decode cX8_settle 23 = .ok (.istore_n 2, 1) := by decide +kernel
theorem dX8_settle_24 : decode cX8_settle 24 = .ok (.iload_n 2, 1) := by decide +kernel
theorem dX8_settle_25 : decode cX8_settle 25 = .ok (.bipush 100, 2) := by decide +kernel
theorem dX8_settle_27 : decode cX8_settle 27 = .ok (.if_icmp .ge 33, 3) := by decide +kernel
theorem dX8_settle_30 : decode cX8_settle 30 = .ok (.aload_n 0, 1) := by decide +kernel
theorem dX8_settle_31 : decode cX8_settle 31 = .ok (.getfield 24, 3) := by decide +kernel
theorem dX8_settle_34 : decode cX8_settle 34 = .ok (.iload_n 1, 1) := by decide +kernel
theorem dX8_settle_35 : decode cX8_settle 35 = .ok (.bipush 100, 2) := by decide +kernel
theorem dX8_settle_37 : decode cX8_settle 37 = .ok (.imul, 1) := by decide +kernel
theorem dX8_settle_38 : decode cX8_settle 38 = .ok (.iload_n 2, 1) := by decide +kernel
theorem dX8_settle_39 : decode cX8_settle 39 = .ok (.iadd, 1) := by decide +kernel
theorem dX8_settle_40 : decode cX8_settle 40 = .ok (.aload_n 0, 1) := by decide +kernel
theorem dX8_settle_41 : decode cX8_settle 41 = .ok (.iload_n 1, 1) := by decide +kernel
theorem dX8_settle_42 : decode cX8_settle 42 = .ok (.iload_n 2, 1) := by decide +kernel
theorem dX8_settle_43 : decode cX8_settle 43 = .ok (.bipush 10, 2) := by decide +kernel
theorem dX8_settle_45 : decode cX8_settle 45 = .ok (.idiv, 1) := by decide +kernel
theorem dX8_settle_46 : decode cX8_settle 46 = .ok (.iload_n 2, 1) := by decide +kernel
theorem dX8_settle_47 : decode cX8_settle 47 = .ok (.bipush 10, 2) := by decide +kernel
theorem dX8_settle_49 : decode cX8_settle 49 = .ok (.irem, 1) := by decide +kernel
theorem dX8_settle_50 : decode cX8_settle 50 = .ok (.invokevirtual 50, 3) := by decide +kernel
theorem dX8_settle_53 : decode cX8_settle 53 = .ok (.iastore, 1) := by decide +kernel
theorem dX8_settle_54 : decode cX8_settle 54 = .ok (.iinc 2 1, 3) := by decide +kernel
theorem dX8_settle_57 : decode cX8_settle 57 = .ok (.goto (-33), 3) := by decide +kernel
theorem dX8_settle_60 : decode cX8_settle 60 = .ok (.aload_n 0, 1) := by decide +kernel
theorem dX8_settle_61 : decode cX8_settle 61 = .ok (.getfield 27, 3) := by decide +kernel
theorem dX8_settle_64 : decode cX8_settle 64 = .ok (.iload_n 1, 1) := by decide +kernel
theorem dX8_settle_65 : decode cX8_settle 65 = .ok (.iconst 1, 1) := by decide +kernel
theorem dX8_settle_66 : decode cX8_settle 66 = .ok (.bastore, 1) := by decide +kernel
theorem dX8_settle_67 : decode cX8_settle 67 = .ok (.iinc 1 1, 3) := by decide +kernel
theorem dX8_settle_70 : decode cX8_settle 70 = .ok (.goto (-68), 3) := by decide +kernel
theorem dX8_settle_73 : decode cX8_settle 73 = .ok (.return_, 1) := by decide +kernel
theorem dX8_judged_0 : decode cX8_judged 0 = .ok (.aload_n 0, 1) := by decide +kernel
theorem dX8_judged_1 : decode cX8_judged 1 = .ok (.getfield 31, 3) := by decide +kernel
theorem dX8_judged_4 : decode cX8_judged 4 = .ok (.invokevirtual 54, 3) := by decide +kernel
theorem dX8_judged_7 : decode cX8_judged 7 = .ok (.ifCond .eq 28, 3) := by decide +kernel
theorem dX8_judged_10 : decode cX8_judged 10 = .ok (.aload_n 0, 1) := by decide +kernel
theorem dX8_judged_11 : decode cX8_judged 11 = .ok (.getfield 31, 3) := by decide +kernel
theorem dX8_judged_14 : decode cX8_judged 14 = .ok (.iload_n 2, 1) := by decide +kernel
theorem dX8_judged_15 : decode cX8_judged 15 = .ok (.iload_n 3, 1) := by decide +kernel
theorem dX8_judged_16 : decode cX8_judged 16 = .ok (.aload_n 0, 1) := by decide +kernel
theorem dX8_judged_17 : decode cX8_judged 17 = .ok (.getfield 11, 3) := by decide +kernel
theorem dX8_judged_20 : decode cX8_judged 20 = .ok (.iload_n 1, 1) := by decide +kernel
theorem dX8_judged_21 : decode cX8_judged 21 = .ok (.iaload, 1) := by decide +kernel
theorem dX8_judged_22 : decode cX8_judged 22 = .ok (.aload_n 0, 1) := by decide +kernel
theorem dX8_judged_23 : decode cX8_judged 23 = .ok (.getfield 15, 3) := by decide +kernel
theorem dX8_judged_26 : decode cX8_judged 26 = .ok (.iload_n 1, 1) := by decide +kernel
theorem dX8_judged_27 : decode cX8_judged 27 = .ok (.iaload, 1) := by decide +kernel
theorem dX8_judged_28 : decode cX8_judged 28 = .ok (.iload_n 1, 1) := by decide +kernel
theorem dX8_judged_29 : decode cX8_judged 29 = .ok (.invokevirtual 60, 3) := by decide +kernel
theorem dX8_judged_32 : decode cX8_judged 32 = .ok (.goto 10, 3) := by decide +kernel
theorem dX8_judged_35 : decode cX8_judged 35 = .ok (.aload_n 0, 1) := by decide +kernel
theorem dX8_judged_36 : decode cX8_judged 36 = .ok (.iload_n 1, 1) := by decide +kernel
theorem dX8_judged_37 : decode cX8_judged 37 = .ok (.iload_n 2, 1) := by decide +kernel
theorem dX8_judged_38 : decode cX8_judged 38 = .ok (.iload_n 3, 1) := by decide +kernel
theorem dX8_judged_39 : decode cX8_judged 39 = .ok (.invokevirtual 64, 3) := by decide +kernel
theorem dX8_judged_42 : decode cX8_judged 42 = .ok (.istore 4, 2) := by decide +kernel
theorem dX8_judged_44 : decode cX8_judged 44 = .ok (.iload 4, 2) := by decide +kernel
theorem dX8_judged_46 : decode cX8_judged 46 = .ok (.ifCond .le 12, 3) := by decide +kernel
theorem dX8_judged_49 : decode cX8_judged 49 = .ok (.aload_n 0, 1) := by decide +kernel
theorem dX8_judged_50 : decode cX8_judged 50 = .ok (.getfield 11, 3) := by decide +kernel
theorem dX8_judged_53 : decode cX8_judged 53 = .ok (.iload_n 1, 1) := by decide +kernel
theorem dX8_judged_54 : decode cX8_judged 54 = .ok (.iaload, 1) := by decide +kernel
theorem dX8_judged_55 : decode cX8_judged 55 = .ok (.goto 19, 3) := by decide +kernel
theorem dX8_judged_58 : decode cX8_judged 58 = .ok (.iload 4, 2) := by decide +kernel
theorem dX8_judged_60 : decode cX8_judged 60 = .ok (.ifCond .ge 13, 3) := by decide +kernel
theorem dX8_judged_63 : decode cX8_judged 63 = .ok (.aload_n 0, 1) := by decide +kernel
theorem dX8_judged_64 : decode cX8_judged 64 = .ok (.getfield 11, 3) := by decide +kernel
theorem dX8_judged_67 : decode cX8_judged 67 = .ok (.iload_n 1, 1) := by decide +kernel
theorem dX8_judged_68 : decode cX8_judged 68 = .ok (.iaload, 1) := by decide +kernel
theorem dX8_judged_69 : decode cX8_judged 69 = .ok (.ineg, 1) := by decide +kernel
theorem dX8_judged_70 : decode cX8_judged 70 = .ok (.goto 4, 3) := by decide +kernel
theorem dX8_judged_73 : decode cX8_judged 73 = .ok (.iconst 0, 1) := by decide +kernel
theorem dX8_judged_74 : decode cX8_judged 74 = .ok (.ireturn, 1) := by decide +kernel
theorem dX8_custom_0 : decode cX8_custom 0 = .ok (.iload_n 2, 1) := by decide +kernel
theorem dX8_custom_1 : decode cX8_custom 1 = .ok (.iload_n 3, 1) := by decide +kernel
theorem dX8_custom_2 : decode cX8_custom 2 = .ok (.invokestatic 67, 3) := by decide +kernel
theorem dX8_custom_5 : decode cX8_custom 5 = .ok (.aload_n 0, 1) := by decide +kernel
theorem dX8_custom_6 : decode cX8_custom 6 = .ok (.getfield 15, 3) := by decide +kernel
theorem dX8_custom_9 : decode cX8_custom 9 = .ok (.iload_n 1, 1) := by decide +kernel
theorem dX8_custom_10 : decode cX8_custom 10 = .ok (.iaload, 1) := by decide +kernel
theorem dX8_custom_11 : decode cX8_custom 11 = .ok (.if_icmp .ge 5, 3) := by decide +kernel
theorem dX8_custom_14 : decode cX8_custom 14 = .ok (.iconst 0, 1) := by decide +kernel
theorem dX8_custom_15 : decode cX8_custom 15 = .ok (.ireturn, 1) := by decide +kernel
theorem dX8_custom_16 : decode cX8_custom 16 = .ok (.iload_n 2, 1) := by decide +kernel
theorem dX8_custom_17 : decode cX8_custom 17 = .ok (.iload_n 3, 1) := by decide +kernel
theorem dX8_custom_18 : decode cX8_custom 18 = .ok (.if_icmp .eq 14, 3) := by decide +kernel
theorem dX8_custom_21 : decode cX8_custom 21 = .ok (.iload_n 2, 1) := by decide +kernel
theorem dX8_custom_22 : decode cX8_custom 22 = .ok (.iload_n 3, 1) := by decide +kernel
theorem dX8_custom_23 : decode cX8_custom 23 = .ok (.if_icmp .le 7, 3) := by decide +kernel
theorem dX8_custom_26 : decode cX8_custom 26 = .ok (.iconst 1, 1) := by decide +kernel
theorem dX8_custom_27 : decode cX8_custom 27 = .ok (.goto 4, 3) := by decide +kernel
theorem dX8_custom_30 : decode cX8_custom 30 = .ok (.iconst (-1), 1) := by decide +kernel
theorem dX8_custom_31 : decode cX8_custom 31 = .ok (.ireturn, 1) := by decide +kernel
theorem dX8_custom_32 : decode cX8_custom 32 = .ok (.aload_n 0, 1) := by decide +kernel
theorem dX8_custom_33 : decode cX8_custom 33 = .ok (.getfield 18, 3) := by decide +kernel
theorem dX8_custom_36 : decode cX8_custom 36 = .ok (.iload_n 1, 1) := by decide +kernel
theorem dX8_custom_37 : decode cX8_custom 37 = .ok (.iaload, 1) := by decide +kernel
theorem dX8_custom_38 : decode cX8_custom 38 = .ok (.ifCond .ne 7, 3) := by decide +kernel
theorem dX8_custom_41 : decode cX8_custom 41 = .ok (.iconst 1, 1) := by decide +kernel
theorem dX8_custom_42 : decode cX8_custom 42 = .ok (.goto 18, 3) := by decide +kernel
theorem dX8_custom_45 : decode cX8_custom 45 = .ok (.aload_n 0, 1) := by decide +kernel
theorem dX8_custom_46 : decode cX8_custom 46 = .ok (.getfield 18, 3) := by decide +kernel
theorem dX8_custom_49 : decode cX8_custom 49 = .ok (.iload_n 1, 1) := by decide +kernel
theorem dX8_custom_50 : decode cX8_custom 50 = .ok (.iaload, 1) := by decide +kernel
theorem dX8_custom_51 : decode cX8_custom 51 = .ok (.iconst 1, 1) := by decide +kernel
theorem dX8_custom_52 : decode cX8_custom 52 = .ok (.if_icmp .ne 7, 3) := by decide +kernel
theorem dX8_custom_55 : decode cX8_custom 55 = .ok (.iconst (-1), 1) := by decide +kernel
theorem dX8_custom_56 : decode cX8_custom 56 = .ok (.goto 4, 3) := by decide +kernel
theorem dX8_custom_59 : decode cX8_custom 59 = .ok (.iconst 0, 1) := by decide +kernel
theorem dX8_custom_60 : decode cX8_custom 60 = .ok (.ireturn, 1) := by decide +kernel
theorem dX8_read_0 : decode cX8_read 0 = .ok (.iload_n 1, 1) := by decide +kernel
theorem dX8_read_1 : decode cX8_read 1 = .ok (.ifCond .ge 5, 3) := by decide +kernel
theorem dX8_read_4 : decode cX8_read 4 = .ok (.iconst 0, 1) := by decide +kernel
theorem dX8_read_5 : decode cX8_read 5 = .ok (.ireturn, 1) := by decide +kernel
theorem dX8_read_6 : decode cX8_read 6 = .ok (.aload_n 3, 1) := by decide +kernel
theorem dX8_read_7 : decode cX8_read 7 = .ok (.iconst 0, 1) := by decide +kernel
theorem dX8_read_8 : decode cX8_read 8 = .ok (.invokestatic 73, 3) := by decide +kernel
theorem dX8_read_11 : decode cX8_read 11 = .ok (.iload_n 1, 1) := by decide +kernel
theorem dX8_read_12 : decode cX8_read 12 = .ok (.istore 4, 2) := by decide +kernel
theorem dX8_read_14 : decode cX8_read 14 = .ok (.iconst 0, 1) := by decide +kernel
theorem dX8_read_15 : decode cX8_read 15 = .ok (.istore 5, 2) := by decide +kernel
theorem dX8_read_17 : decode cX8_read 17 = .ok (.aload_n 0, 1) := by decide +kernel
theorem dX8_read_18 : decode cX8_read 18 = .ok (.getfield 35, 3) := by decide +kernel
theorem dX8_read_21 : decode cX8_read 21 = .ok (.iconst 1, 1) := by decide +kernel
theorem dX8_read_22 : decode cX8_read 22 = .ok (.isub, 1) := by decide +kernel
theorem dX8_read_23 : decode cX8_read 23 = .ok (.istore 6, 2) := by decide +kernel
theorem dX8_read_25 : decode cX8_read 25 = .ok (.iload 6, 2) := by decide +kernel
theorem dX8_read_27 : decode cX8_read 27 = .ok (.ifCond .lt 34, 3) := by decide +kernel
theorem dX8_read_30 : decode cX8_read 30 = .ok (.aload_n 3, 1) := by decide +kernel
theorem dX8_read_31 : decode cX8_read 31 = .ok (.iload 6, 2) := by decide +kernel
theorem dX8_read_33 : decode cX8_read 33 = .ok (.iload 4, 2) := by decide +kernel
theorem dX8_read_35 : decode cX8_read 35 = .ok (.bipush 10, 2) := by decide +kernel
theorem dX8_read_37 : decode cX8_read 37 = .ok (.irem, 1) := by decide +kernel
theorem dX8_read_38 : decode cX8_read 38 = .ok (.iastore, 1) := by decide +kernel
theorem dX8_read_39 : decode cX8_read 39 = .ok (.iload 5, 2) := by decide +kernel
theorem dX8_read_41 : decode cX8_read 41 = .ok (.aload_n 3, 1) := by decide +kernel
theorem dX8_read_42 : decode cX8_read 42 = .ok (.iload 6, 2) := by decide +kernel
theorem dX8_read_44 : decode cX8_read 44 = .ok (.iaload, 1) := by decide +kernel
theorem dX8_read_45 : decode cX8_read 45 = .ok (.iadd, 1) := by decide +kernel
theorem dX8_read_46 : decode cX8_read 46 = .ok (.istore 5, 2) := by decide +kernel
theorem dX8_read_48 : decode cX8_read 48 = .ok (.iload 4, 2) := by decide +kernel
theorem dX8_read_50 : decode cX8_read 50 = .ok (.bipush 10, 2) := by decide +kernel
theorem dX8_read_52 : decode cX8_read 52 = .ok (.idiv, 1) := by decide +kernel
theorem dX8_read_53 : decode cX8_read 53 = .ok (.istore 4, 2) := by decide +kernel
theorem dX8_read_55 : decode cX8_read 55 = .ok (.iinc 6 (-1), 3) := by decide +kernel
theorem dX8_read_58 : decode cX8_read 58 = .ok (.goto (-33), 3) := by decide +kernel
theorem dX8_read_61 : decode cX8_read 61 = .ok (.iload 4, 2) := by decide +kernel
theorem dX8_read_63 : decode cX8_read 63 = .ok (.ifCond .ne 18, 3) := by decide +kernel
theorem dX8_read_66 : decode cX8_read 66 = .ok (.iload 5, 2) := by decide +kernel
theorem dX8_read_68 : decode cX8_read 68 = .ok (.aload_n 0, 1) := by decide +kernel
theorem dX8_read_69 : decode cX8_read 69 = .ok (.getfield 21, 3) := by decide +kernel
theorem dX8_read_72 : decode cX8_read 72 = .ok (.iload_n 2, 1) := by decide +kernel
theorem dX8_read_73 : decode cX8_read 73 = .ok (.iaload, 1) := by decide +kernel
theorem dX8_read_74 : decode cX8_read 74 = .ok (.if_icmp .gt 7, 3) := by decide +kernel
theorem dX8_read_77 : decode cX8_read 77 = .ok (.iconst 1, 1) := by decide +kernel
theorem dX8_read_78 : decode cX8_read 78 = .ok (.goto 4, 3) := by decide +kernel
theorem dX8_read_81 : decode cX8_read 81 = .ok (.iconst 0, 1) := by decide +kernel
theorem dX8_read_82 : decode cX8_read 82 = .ok (.ireturn, 1) := by decide +kernel
theorem dX8_numberOf_0 : decode cX8_numberOf 0 = .ok (.iconst 0, 1) := by decide +kernel
theorem dX8_numberOf_1 : decode cX8_numberOf 1 = .ok (.istore_n 3, 1) := by decide +kernel
theorem dX8_numberOf_2 : decode cX8_numberOf 2 = .ok (.iconst 0, 1) := by decide +kernel
theorem dX8_numberOf_3 : decode cX8_numberOf 3 = .ok (.istore 4, 2) := by decide +kernel
theorem dX8_numberOf_5 : decode cX8_numberOf 5 = .ok (.iload 4, 2) := by decide +kernel
theorem dX8_numberOf_7 : decode cX8_numberOf 7 = .ok (.aload_n 0, 1) := by decide +kernel
theorem dX8_numberOf_8 : decode cX8_numberOf 8 = .ok (.getfield 35, 3) := by decide +kernel
theorem dX8_numberOf_11 : decode cX8_numberOf 11 = .ok (.if_icmp .ge 21, 3) := by decide +kernel
theorem dX8_numberOf_14 : decode cX8_numberOf 14 = .ok (.iload_n 3, 1) := by decide +kernel
theorem dX8_numberOf_15 : decode cX8_numberOf 15 = .ok (.bipush 10, 2) := by decide +kernel
theorem dX8_numberOf_17 : decode cX8_numberOf 17 = .ok (.imul, 1) := by decide +kernel
theorem dX8_numberOf_18 : decode cX8_numberOf 18 = .ok (.aload_n 1, 1) := by decide +kernel
theorem dX8_numberOf_19 : decode cX8_numberOf 19 = .ok (.iload_n 2, 1) := by decide +kernel
theorem dX8_numberOf_20 : decode cX8_numberOf 20 = .ok (.iload 4, 2) := by decide +kernel
theorem dX8_numberOf_22 : decode cX8_numberOf 22 = .ok (.iadd, 1) := by decide +kernel
theorem dX8_numberOf_23 : decode cX8_numberOf 23 = .ok (.iaload, 1) := by decide +kernel
theorem dX8_numberOf_24 : decode cX8_numberOf 24 = .ok (.iadd, 1) := by decide +kernel
theorem dX8_numberOf_25 : decode cX8_numberOf 25 = .ok (.istore_n 3, 1) := by decide +kernel
theorem dX8_numberOf_26 : decode cX8_numberOf 26 = .ok (.iinc 4 1, 3) := by decide +kernel
theorem dX8_numberOf_29 : decode cX8_numberOf 29 = .ok (.goto (-24), 3) := by decide +kernel
theorem dX8_numberOf_32 : decode cX8_numberOf 32 = .ok (.iload_n 3, 1) := by decide +kernel
theorem dX8_numberOf_33 : decode cX8_numberOf 33 = .ok (.ireturn, 1) := by decide +kernel
theorem dX8_scoreOf_0 : decode cX8_scoreOf 0 = .ok (.iconst 0, 1) := by decide +kernel
theorem dX8_scoreOf_1 : decode cX8_scoreOf 1 = .ok (.istore_n 3, 1) := by decide +kernel
theorem dX8_scoreOf_2 : decode cX8_scoreOf 2 = .ok (.iconst 0, 1) := by decide +kernel
theorem dX8_scoreOf_3 : decode cX8_scoreOf 3 = .ok (.istore 4, 2) := by decide +kernel
theorem dX8_scoreOf_5 : decode cX8_scoreOf 5 = .ok (.iload 4, 2) := by decide +kernel
theorem dX8_scoreOf_7 : decode cX8_scoreOf 7 = .ok (.aload_n 0, 1) := by decide +kernel
theorem dX8_scoreOf_8 : decode cX8_scoreOf 8 = .ok (.getfield 35, 3) := by decide +kernel
theorem dX8_scoreOf_11 : decode cX8_scoreOf 11 = .ok (.if_icmp .ge 35, 3) := by decide +kernel
theorem dX8_scoreOf_14 : decode cX8_scoreOf 14 = .ok (.iload_n 3, 1) := by decide +kernel
theorem dX8_scoreOf_15 : decode cX8_scoreOf 15 = .ok (.aload_n 0, 1) := by decide +kernel
theorem dX8_scoreOf_16 : decode cX8_scoreOf 16 = .ok (.getfield 24, 3) := by decide +kernel
theorem dX8_scoreOf_19 : decode cX8_scoreOf 19 = .ok (.iload 4, 2) := by decide +kernel
theorem dX8_scoreOf_21 : decode cX8_scoreOf 21 = .ok (.bipush 100, 2) := by decide +kernel
theorem dX8_scoreOf_23 : decode cX8_scoreOf 23 = .ok (.imul, 1) := by decide +kernel
theorem dX8_scoreOf_24 : decode cX8_scoreOf 24 = .ok (.aload_n 1, 1) := by decide +kernel
theorem dX8_scoreOf_25 : decode cX8_scoreOf 25 = .ok (.iload 4, 2) := by decide +kernel
theorem dX8_scoreOf_27 : decode cX8_scoreOf 27 = .ok (.iaload, 1) := by decide +kernel
theorem dX8_scoreOf_28 : decode cX8_scoreOf 28 = .ok (.bipush 10, 2) := by decide +kernel
theorem dX8_scoreOf_30 : decode cX8_scoreOf 30 = .ok (.imul, 1) := by decide +kernel
theorem dX8_scoreOf_31 : decode cX8_scoreOf 31 = .ok (.iadd, 1) := by decide +kernel
theorem dX8_scoreOf_32 : decode cX8_scoreOf 32 = .ok (.aload_n 2, 1) := by decide +kernel
theorem dX8_scoreOf_33 : decode cX8_scoreOf 33 = .ok (.iload 4, 2) := by decide +kernel
theorem dX8_scoreOf_35 : decode cX8_scoreOf 35 = .ok (.iaload, 1) := by decide +kernel
theorem dX8_scoreOf_36 : decode cX8_scoreOf 36 = .ok (.iadd, 1) := by decide +kernel
theorem dX8_scoreOf_37 : decode cX8_scoreOf 37 = .ok (.iaload, 1) := by decide +kernel
theorem dX8_scoreOf_38 : decode cX8_scoreOf 38 = .ok (.iadd, 1) := by decide +kernel
theorem dX8_scoreOf_39 : decode cX8_scoreOf 39 = .ok (.istore_n 3, 1) := by decide +kernel
theorem dX8_scoreOf_40 : decode cX8_scoreOf 40 = .ok (.iinc 4 1, 3) := by decide +kernel
theorem dX8_scoreOf_43 : decode cX8_scoreOf 43 = .ok (.goto (-38), 3) := by decide +kernel
theorem dX8_scoreOf_46 : decode cX8_scoreOf 46 = .ok (.iload_n 3, 1) := by decide +kernel
theorem dX8_scoreOf_47 : decode cX8_scoreOf 47 = .ok (.ireturn, 1) := by decide +kernel
theorem dX8_fullPartings_0 : decode cX8_fullPartings 0 = .ok (.aload_n 0, 1) := by decide +kernel
theorem dX8_fullPartings_1 : decode cX8_fullPartings 1 = .ok (.getfield 35, 3) := by decide +kernel
theorem dX8_fullPartings_4 : decode cX8_fullPartings 4 = .ok (.ifCond .ne 18, 3) := by decide +kernel
theorem dX8_fullPartings_7 : decode cX8_fullPartings 7 = .ok (.aload_n 0, 1) := by decide +kernel
theorem dX8_fullPartings_8 : decode cX8_fullPartings 8 = .ok (.getfield 21, 3) := by decide +kernel
theorem dX8_fullPartings_11 : decode cX8_fullPartings 11 = .ok (.iload_n 1, 1) := by decide +kernel
theorem dX8_fullPartings_12 : decode cX8_fullPartings 12 = .ok (.iaload, 1) := by decide +kernel
theorem dX8_fullPartings_13 : decode cX8_fullPartings 13 = .ok (.ifCond .ne 7, 3) := by decide +kernel
theorem dX8_fullPartings_16 : decode cX8_fullPartings 16 = .ok (.iconst 1, 1) := by decide +kernel
theorem dX8_fullPartings_17 : decode cX8_fullPartings 17 = .ok (.goto 4, 3) := by decide +kernel
theorem dX8_fullPartings_20 : decode cX8_fullPartings 20 = .ok (.iconst 0, 1) := by decide +kernel
theorem dX8_fullPartings_21 : decode cX8_fullPartings 21 = .ok (.ireturn, 1) := by decide +kernel
theorem dX8_fullPartings_22 : decode cX8_fullPartings 22 = .ok (.iconst 1, 1) := by decide +kernel
theorem dX8_fullPartings_23 : decode cX8_fullPartings 23 = .ok (.istore_n 2, 1) := by decide +kernel
theorem dX8_fullPartings_24 : decode cX8_fullPartings 24 = .ok (.iconst 1, 1) := by decide +kernel
theorem dX8_fullPartings_25 : decode cX8_fullPartings 25 = .ok (.istore_n 3, 1) := by decide +kernel
theorem dX8_fullPartings_26 : decode cX8_fullPartings 26 = .ok (.iload_n 3, 1) := by decide +kernel
theorem dX8_fullPartings_27 : decode cX8_fullPartings 27 = .ok (.aload_n 0, 1) := by decide +kernel
theorem dX8_fullPartings_28 : decode cX8_fullPartings 28 = .ok (.getfield 35, 3) := by decide +kernel
theorem dX8_fullPartings_31 : decode cX8_fullPartings 31 = .ok (.if_icmp .ge 22, 3) := by decide +kernel
theorem dX8_fullPartings_34 : decode cX8_fullPartings 34 = .ok (.iload_n 2, 1) := by decide +kernel
theorem dX8_fullPartings_35 : decode cX8_fullPartings 35 = .ok (.aload_n 0, 1) := by decide +kernel
theorem dX8_fullPartings_36 : decode cX8_fullPartings 36 = .ok (.getfield 21, 3) := by decide +kernel
theorem dX8_fullPartings_39 : decode cX8_fullPartings 39 = .ok (.iload_n 1, 1) := by decide +kernel
theorem dX8_fullPartings_40 : decode cX8_fullPartings 40 = .ok (.iaload, 1) := by decide +kernel
theorem dX8_fullPartings_41 : decode cX8_fullPartings 41 = .ok (.iload_n 3, 1) := by decide +kernel
theorem dX8_fullPartings_42 : decode cX8_fullPartings 42 = .ok (.iadd, 1) := by decide +kernel
theorem dX8_fullPartings_43 : decode cX8_fullPartings 43 = .ok (.imul, 1) := by decide +kernel
theorem dX8_fullPartings_44 : decode cX8_fullPartings 44 = .ok (.iload_n 3, 1) := by decide +kernel
theorem dX8_fullPartings_45 : decode cX8_fullPartings 45 = .ok (.idiv, 1) := by decide +kernel
theorem dX8_fullPartings_46 : decode cX8_fullPartings 46 = .ok (.istore_n 2, 1) := by decide +kernel
theorem dX8_fullPartings_47 : decode cX8_fullPartings 47 = .ok (.iinc 3 1, 3) := by decide +kernel
theorem dX8_fullPartings_50 : decode cX8_fullPartings 50 = .ok (.goto (-24), 3) := by decide +kernel
theorem dX8_fullPartings_53 : decode cX8_fullPartings 53 = .ok (.iload_n 2, 1) := by decide +kernel
theorem dX8_fullPartings_54 : decode cX8_fullPartings 54 = .ok (.ireturn, 1) := by decide +kernel
theorem dX9_init_0 : decode cX9_init 0 = .ok (.aload_n 0, 1) := by decide +kernel
theorem dX9_init_1 : decode cX9_init 1 = .ok (.invokespecial 3, 3) := by decide +kernel
theorem dX9_init_4 : decode cX9_init 4 = .ok (.aload_n 0, 1) := by decide +kernel
theorem dX9_init_5 : decode cX9_init 5 = .ok (.aload_n 1, 1) := by decide +kernel
theorem dX9_init_6 : decode cX9_init 6 = .ok (.putfield 9, 3) := by decide +kernel
theorem dX9_init_9 : decode cX9_init 9 = .ok (.aload_n 0, 1) := by decide +kernel
theorem dX9_init_10 : decode cX9_init 10 = .ok (.aload_n 2, 1) := by decide +kernel
theorem dX9_init_11 : decode cX9_init 11 = .ok (.putfield 15, 3) := by decide +kernel
theorem dX9_init_14 : decode cX9_init 14 = .ok (.aload_n 0, 1) := by decide +kernel
theorem dX9_init_15 : decode cX9_init 15 = .ok (.new 19, 3) := by decide +kernel
theorem dX9_init_18 : decode cX9_init 18 = .ok (.dup, 1) := by decide +kernel
theorem dX9_init_19 : decode cX9_init 19 = .ok (.invokespecial 21, 3) := by decide +kernel
theorem dX9_init_22 : decode cX9_init 22 = .ok (.putfield 22, 3) := by decide +kernel
theorem dX9_init_25 : decode cX9_init 25 = .ok (.aload_n 0, 1) := by decide +kernel
theorem dX9_init_26 : decode cX9_init 26 = .ok (.iconst 5, 1) := by decide +kernel
theorem dX9_init_27 : decode cX9_init 27 = .ok (.newarray .int, 2) := by decide +kernel
theorem dX9_init_29 : decode cX9_init 29 = .ok (.putfield 28, 3) := by decide +kernel
theorem dX9_init_32 : decode cX9_init 32 = .ok (.return_, 1) := by decide +kernel
theorem dX9_bestOf_0 : decode cX9_bestOf 0 = .ok (.aload_n 0, 1) := by decide +kernel
theorem dX9_bestOf_1 : decode cX9_bestOf 1 = .ok (.getfield 9, 3) := by decide +kernel
theorem dX9_bestOf_4 : decode cX9_bestOf 4 = .ok (.getfield 32, 3) := by decide +kernel
theorem dX9_bestOf_7 : decode cX9_bestOf 7 = .ok (.iload_n 1, 1) := by decide +kernel
theorem dX9_bestOf_8 : decode cX9_bestOf 8 = .ok (.iaload, 1) := by decide +kernel
theorem dX9_bestOf_9 : decode cX9_bestOf 9 = .ok (.istore_n 2, 1) := by decide +kernel
theorem dX9_bestOf_10 : decode cX9_bestOf 10 = .ok (.aload_n 0, 1) := by decide +kernel
theorem dX9_bestOf_11 : decode cX9_bestOf 11 = .ok (.iload_n 1, 1) := by decide +kernel
theorem dX9_bestOf_12 : decode cX9_bestOf 12 = .ok (.iload_n 2, 1) := by decide +kernel
theorem dX9_bestOf_13 : decode cX9_bestOf 13 = .ok (.invokevirtual 35, 3) := by decide +kernel
theorem dX9_bestOf_16 : decode cX9_bestOf 16 = .ok (.pop, 1) := by decide +kernel
theorem dX9_bestOf_17 : decode cX9_bestOf 17 = .ok (.aload_n 0, 1) := by decide +kernel
theorem dX9_bestOf_18 : decode cX9_bestOf 18 = .ok (.getfield 22, 3) := by decide +kernel
theorem dX9_bestOf_21 : decode cX9_bestOf 21 = .ok (.aload_n 0, 1) := by decide +kernel
theorem dX9_bestOf_22 : decode cX9_bestOf 22 = .ok (.getfield 9, 3) := by decide +kernel
theorem dX9_bestOf_25 : decode cX9_bestOf 25 = .ok (.getfield 39, 3) := by decide +kernel
theorem dX9_bestOf_28 : decode cX9_bestOf 28 = .ok (.iload_n 2, 1) := by decide +kernel
theorem dX9_bestOf_29 : decode cX9_bestOf 29 = .ok (.aload_n 0, 1) := by decide +kernel
theorem dX9_bestOf_30 : decode cX9_bestOf 30 = .ok (.getfield 28, 3) := by decide +kernel
theorem dX9_bestOf_33 : decode cX9_bestOf 33 = .ok (.invokevirtual 43, 3) := by decide +kernel
theorem dX9_bestOf_36 : decode cX9_bestOf 36 = .ok (.aload_n 0, 1) := by decide +kernel
theorem dX9_bestOf_37 : decode cX9_bestOf 37 = .ok (.getfield 9, 3) := by decide +kernel
theorem dX9_bestOf_40 : decode cX9_bestOf 40 = .ok (.aload_n 0, 1) := by decide +kernel
theorem dX9_bestOf_41 : decode cX9_bestOf 41 = .ok (.getfield 28, 3) := by decide +kernel
theorem dX9_bestOf_44 : decode cX9_bestOf 44 = .ok (.iconst 0, 1) := by decide +kernel
theorem dX9_bestOf_45 : decode cX9_bestOf 45 = .ok (.invokevirtual 47, 3) := by decide +kernel
theorem dX9_bestOf_48 : decode cX9_bestOf 48 = .ok (.ireturn, 1) := by decide +kernel
theorem dX9_earned_0 : decode cX9_earned 0 = .ok (.aload_n 0, 1) := by decide +kernel
theorem dX9_earned_1 : decode cX9_earned 1 = .ok (.getfield 9, 3) := by decide +kernel
theorem dX9_earned_4 : decode cX9_earned 4 = .ok (.invokevirtual 51, 3) := by decide +kernel
theorem dX9_earned_7 : decode cX9_earned 7 = .ok (.aload_n 0, 1) := by decide +kernel
theorem dX9_earned_8 : decode cX9_earned 8 = .ok (.getfield 15, 3) := by decide +kernel
theorem dX9_earned_11 : decode cX9_earned 11 = .ok (.iconst 1, 1) := by decide +kernel
theorem dX9_earned_12 : decode cX9_earned 12 = .ok (.iload_n 1, 1) := by decide +kernel
theorem dX9_earned_13 : decode cX9_earned 13 = .ok (.isub, 1) := by decide +kernel
theorem dX9_earned_14 : decode cX9_earned 14 = .ok (.aaload, 1) := by decide +kernel
theorem dX9_earned_15 : decode cX9_earned 15 = .ok (.astore_n 3, 1) := by decide +kernel
theorem dX9_earned_16 : decode cX9_earned 16 = .ok (.aload_n 0, 1) := by decide +kernel
theorem dX9_earned_17 : decode cX9_earned 17 = .ok (.getfield 22, 3) := by decide +kernel
theorem dX9_earned_20 : decode cX9_earned 20 = .ok (.getfield 54, 3) := by decide +kernel
theorem dX9_earned_23 : decode cX9_earned 23 = .ok (.iconst 0, 1) := by decide +kernel
theorem dX9_earned_24 : decode cX9_earned 24 = .ok (.invokestatic 57, 3) := by decide +kernel
theorem dX9_earned_27 : decode cX9_earned 27 = .ok (.iconst 0, 1) := by decide +kernel
theorem dX9_earned_28 : decode cX9_earned 28 = .ok (.istore 4, 2) := by decide +kernel
theorem dX9_earned_30 : decode cX9_earned 30 = .ok (.iload 4, 2) := by decide +kernel
theorem dX9_earned_32 : decode cX9_earned 32 = .ok (.aload_n 3, 1) := by decide +kernel
theorem dX9_earned_33 : decode cX9_earned 33 = .ok (.invokevirtual 63, 3) := by decide +kernel
theorem dX9_earned_36 : decode cX9_earned 36 = .ok (.if_icmp .ge 17, 3) := by decide +kernel
theorem dX9_earned_39 : decode cX9_earned 39 = .ok (.aload_n 0, 1) := by decide +kernel
theorem dX9_earned_40 : decode cX9_earned 40 = .ok (.iload_n 1, 1) := by decide +kernel
theorem dX9_earned_41 : decode cX9_earned 41 = .ok (.aload_n 3, 1) := by decide +kernel
theorem dX9_earned_42 : decode cX9_earned 42 = .ok (.iload 4, 2) := by decide +kernel
theorem dX9_earned_44 : decode cX9_earned 44 = .ok (.invokevirtual 69, 3) := by decide +kernel
theorem dX9_earned_47 : decode cX9_earned 47 = .ok (.iinc 4 1, 3) := by decide +kernel
theorem dX9_earned_50 : decode cX9_earned 50 = .ok (.goto (-20), 3) := by decide +kernel
theorem dX9_earned_53 : decode cX9_earned 53 = .ok (.aload_n 0, 1) := by decide +kernel
theorem dX9_earned_54 : decode cX9_earned 54 = .ok (.getfield 22, 3) := by decide +kernel
theorem dX9_earned_57 : decode cX9_earned 57 = .ok (.aload_n 0, 1) := by decide +kernel
theorem dX9_earned_58 : decode cX9_earned 58 = .ok (.getfield 9, 3) := by decide +kernel
theorem dX9_earned_61 : decode cX9_earned 61 = .ok (.getfield 39, 3) := by decide +kernel
theorem dX9_earned_64 : decode cX9_earned 64 = .ok (.iload_n 2, 1) := by decide +kernel
theorem dX9_earned_65 : decode cX9_earned 65 = .ok (.iconst 0, 1) := by decide +kernel
theorem dX9_earned_66 : decode cX9_earned 66 = .ok (.invokevirtual 73, 3) := by decide +kernel
theorem dX9_earned_69 : decode cX9_earned 69 = .ok (.ireturn, 1) := by decide +kernel
theorem dX9_addGains_0 : decode cX9_addGains 0 = .ok (.iconst 0, 1) := by decide +kernel
theorem dX9_addGains_1 : decode cX9_addGains 1 = .ok (.istore 4, 2) := by decide +kernel
theorem dX9_addGains_3 : decode cX9_addGains 3 = .ok (.iload 4, 2) := by decide +kernel
theorem dX9_addGains_5 : decode cX9_addGains 5 = .ok (.aload_n 0, 1) := by decide +kernel
theorem dX9_addGains_6 : decode cX9_addGains 6 = .ok (.getfield 9, 3) := by decide +kernel
theorem dX9_addGains_9 : decode cX9_addGains 9 = .ok (.getfield 39, 3) := by decide +kernel
theorem dX9_addGains_12 : decode cX9_addGains 12 = .ok (.if_icmp .ge 115, 3) := by decide +kernel
theorem dX9_addGains_15 : decode cX9_addGains 15 = .ok (.aload_n 2, 1) := by decide +kernel
theorem dX9_addGains_16 : decode cX9_addGains 16 = .ok (.iload_n 3, 1) := by decide +kernel
theorem dX9_addGains_17 : decode cX9_addGains 17 = .ok (.iload 4, 2) := by decide +kernel
theorem dX9_addGains_19 : decode cX9_addGains 19 = .ok (.invokevirtual 77, 3) := by decide +kernel
theorem dX9_addGains_22 : decode cX9_addGains 22 = .ok (.istore 5, 2) := by decide +kernel
theorem dX9_addGains_24 : decode cX9_addGains 24 = .ok (.iconst 0, 1) := by decide +kernel
theorem dX9_addGains_25 : decode cX9_addGains 25 = .ok (.istore 6, 2) := by decide +kernel
theorem dX9_addGains_27 : decode cX9_addGains 27 = .ok (.iload 6, 2) := by decide +kernel
theorem dX9_addGains_29 : decode cX9_addGains 29 = .ok (.bipush 9, 2) := by decide +kernel
theorem dX9_addGains_31 : decode cX9_addGains 31 = .ok (.if_icmp .gt 90, 3) := by decide +kernel
theorem dX9_addGains_34 : decode cX9_addGains 34 = .ok (.iload_n 1, 1) := by decide +kernel
theorem dX9_addGains_35 : decode cX9_addGains 35 = .ok (.ifCond .ne 28, 3) := by decide +kernel
theorem dX9_addGains_38 : decode cX9_addGains 38 = .ok (.aload_n 0, 1) := by decide +kernel
theorem dX9_addGains_39 : decode cX9_addGains 39 = .ok (.getfield 9, 3) := by decide +kernel
theorem dX9_addGains_42 : decode cX9_addGains 42 = .ok (.getfield 80, 3) := by decide +kernel
theorem dX9_addGains_45 : decode cX9_addGains 45 = .ok (.iload 4, 2) := by decide +kernel
theorem dX9_addGains_47 : decode cX9_addGains 47 = .ok (.bipush 100, 2) := by decide +kernel
theorem dX9_addGains_49 : decode cX9_addGains 49 = .ok (.imul, 1) := by decide +kernel
theorem dX9_addGains_50 : decode cX9_addGains 50 = .ok (.iload 6, 2) := by decide +kernel
theorem dX9_addGains_52 : decode cX9_addGains 52 = .ok (.bipush 10, 2) := by decide +kernel
theorem dX9_addGains_54 : decode cX9_addGains 54 = .ok (.imul, 1) := by decide +kernel
theorem dX9_addGains_55 : decode cX9_addGains 55 = .ok (.iadd, 1) := by decide +kernel
theorem dX9_addGains_56 : decode cX9_addGains 56 = .ok (.iload 5, 2) := by decide +kernel
theorem dX9_addGains_58 : decode cX9_addGains 58 = .ok (.iadd, 1) := by decide +kernel
theorem dX9_addGains_59 : decode cX9_addGains 59 = .ok (.iaload, 1) := by decide +kernel
theorem dX9_addGains_60 : decode cX9_addGains 60 = .ok (.goto 26, 3) := by decide +kernel
theorem dX9_addGains_63 : decode cX9_addGains 63 = .ok (.aload_n 0, 1) := by decide +kernel
theorem dX9_addGains_64 : decode cX9_addGains 64 = .ok (.getfield 9, 3) := by decide +kernel
theorem dX9_addGains_67 : decode cX9_addGains 67 = .ok (.getfield 80, 3) := by decide +kernel
theorem dX9_addGains_70 : decode cX9_addGains 70 = .ok (.iload 4, 2) := by decide +kernel
theorem dX9_addGains_72 : decode cX9_addGains 72 = .ok (.bipush 100, 2) := by decide +kernel
theorem dX9_addGains_74 : decode cX9_addGains 74 = .ok (.imul, 1) := by decide +kernel
theorem dX9_addGains_75 : decode cX9_addGains 75 = .ok (.iload 5, 2) := by decide +kernel
theorem dX9_addGains_77 : decode cX9_addGains 77 = .ok (.bipush 10, 2) := by decide +kernel
theorem dX9_addGains_79 : decode cX9_addGains 79 = .ok (.imul, 1) := by decide +kernel
theorem dX9_addGains_80 : decode cX9_addGains 80 = .ok (.iadd, 1) := by decide +kernel
theorem dX9_addGains_81 : decode cX9_addGains 81 = .ok (.iload 6, 2) := by decide +kernel
theorem dX9_addGains_83 : decode cX9_addGains 83 = .ok (.iadd, 1) := by decide +kernel
theorem dX9_addGains_84 : decode cX9_addGains 84 = .ok (.iaload, 1) := by decide +kernel
theorem dX9_addGains_85 : decode cX9_addGains 85 = .ok (.ineg, 1) := by decide +kernel
theorem dX9_addGains_86 : decode cX9_addGains 86 = .ok (.istore 7, 2) := by decide +kernel
theorem dX9_addGains_88 : decode cX9_addGains 88 = .ok (.aload_n 0, 1) := by decide +kernel
theorem dX9_addGains_89 : decode cX9_addGains 89 = .ok (.getfield 22, 3) := by decide +kernel
theorem dX9_addGains_92 : decode cX9_addGains 92 = .ok (.getfield 54, 3) := by decide +kernel
theorem dX9_addGains_95 : decode cX9_addGains 95 = .ok (.iload 4, 2) := by decide +kernel
theorem dX9_addGains_97 : decode cX9_addGains 97 = .ok (.bipush 10, 2) := by decide +kernel
theorem dX9_addGains_99 : decode cX9_addGains 99 = .ok (.imul, 1) := by decide +kernel
theorem dX9_addGains_100 : decode cX9_addGains 100 = .ok (.iload 6, 2) := by decide +kernel
theorem dX9_addGains_102 : decode cX9_addGains 102 = .ok (.iadd, 1) := by decide +kernel
theorem dX9_addGains_103 : decode cX9_addGains 103 = .ok (.dup2, 1) := by decide +kernel
theorem dX9_addGains_104 : decode cX9_addGains 104 = .ok (.iaload, 1) := by decide +kernel
theorem dX9_addGains_105 : decode cX9_addGains 105 = .ok (.aload_n 2, 1) := by decide +kernel
theorem dX9_addGains_106 : decode cX9_addGains 106 = .ok (.iload_n 3, 1) := by decide +kernel
theorem dX9_addGains_107 : decode cX9_addGains 107 = .ok (.invokevirtual 83, 3) := by decide +kernel
theorem dX9_addGains_110 : decode cX9_addGains 110 = .ok (.iload 7, 2) := by decide +kernel
theorem dX9_addGains_112 : decode cX9_addGains 112 = .ok (.imul, 1) := by decide +kernel
theorem dX9_addGains_113 : decode cX9_addGains 113 = .ok (.iadd, 1) := by decide +kernel
theorem dX9_addGains_114 : decode cX9_addGains 114 = .ok (.iastore, 1) := by decide +kernel
theorem dX9_addGains_115 : decode cX9_addGains 115 = .ok (.iinc 6 1, 3) := by decide +kernel
theorem dX9_addGains_118 : decode cX9_addGains 118 = .ok (.goto (-91), 3) := by decide +kernel
theorem dX9_addGains_121 : decode cX9_addGains 121 = .ok (.iinc 4 1, 3) := by decide +kernel
theorem dX9_addGains_124 : decode cX9_addGains 124 = .ok (.goto (-121), 3) := by decide +kernel
theorem dX9_addGains_127 : decode cX9_addGains 127 = .ok (.return_, 1) := by decide +kernel
theorem dX9_heard_0 : decode cX9_heard 0 = .ok (.aload_n 0, 1) := by decide +kernel
theorem dX9_heard_1 : decode cX9_heard 1 = .ok (.iconst 0, 1) := by decide +kernel
theorem dX9_heard_2 : decode cX9_heard 2 = .ok (.aload_n 0, 1) := by decide +kernel
theorem dX9_heard_3 : decode cX9_heard 3 = .ok (.getfield 9, 3) := by decide +kernel
theorem dX9_heard_6 : decode cX9_heard 6 = .ok (.getfield 32, 3) := by decide +kernel
theorem dX9_heard_9 : decode cX9_heard 9 = .ok (.iconst 0, 1) := by decide +kernel
theorem dX9_heard_10 : decode cX9_heard 10 = .ok (.iaload, 1) := by decide +kernel
theorem dX9_heard_11 : decode cX9_heard 11 = .ok (.invokevirtual 35, 3) := by decide +kernel
theorem dX9_heard_14 : decode cX9_heard 14 = .ok (.istore_n 2, 1) := by decide +kernel
theorem dX9_heard_15 : decode cX9_heard 15 = .ok (.aload_n 0, 1) := by decide +kernel
theorem dX9_heard_16 : decode cX9_heard 16 = .ok (.getfield 15, 3) := by decide +kernel
theorem dX9_heard_19 : decode cX9_heard 19 = .ok (.iconst 1, 1) := by decide +kernel
theorem dX9_heard_20 : decode cX9_heard 20 = .ok (.aaload, 1) := by decide +kernel
theorem dX9_heard_21 : decode cX9_heard 21 = .ok (.astore_n 3, 1) := by decide +kernel
theorem dX9_heard_22 : decode cX9_heard 22 = .ok (.iconst 0, 1) := by decide +kernel
theorem dX9_heard_23 : decode cX9_heard 23 = .ok (.istore 4, 2) := by decide +kernel
theorem dX9_heard_25 : decode cX9_heard 25 = .ok (.iconst 0, 1) := by decide +kernel
theorem dX9_heard_26 : decode cX9_heard 26 = .ok (.istore 5, 2) := by decide +kernel
theorem dX9_heard_28 : decode cX9_heard 28 = .ok (.iload 5, 2) := by decide +kernel
theorem dX9_heard_30 : decode cX9_heard 30 = .ok (.bipush 9, 2) := by decide +kernel
theorem dX9_heard_32 : decode cX9_heard 32 = .ok (.if_icmp .gt 87, 3) := by decide +kernel
theorem dX9_heard_35 : decode cX9_heard 35 = .ok (.aload_n 0, 1) := by decide +kernel
theorem dX9_heard_36 : decode cX9_heard 36 = .ok (.getfield 22, 3) := by decide +kernel
theorem dX9_heard_39 : decode cX9_heard 39 = .ok (.getfield 54, 3) := by decide +kernel
theorem dX9_heard_42 : decode cX9_heard 42 = .ok (.iconst 0, 1) := by decide +kernel
theorem dX9_heard_43 : decode cX9_heard 43 = .ok (.invokestatic 57, 3) := by decide +kernel
theorem dX9_heard_46 : decode cX9_heard 46 = .ok (.iconst 0, 1) := by decide +kernel
theorem dX9_heard_47 : decode cX9_heard 47 = .ok (.istore 6, 2) := by decide +kernel
theorem dX9_heard_49 : decode cX9_heard 49 = .ok (.iload 6, 2) := by decide +kernel
theorem dX9_heard_51 : decode cX9_heard 51 = .ok (.aload_n 3, 1) := by decide +kernel
theorem dX9_heard_52 : decode cX9_heard 52 = .ok (.invokevirtual 63, 3) := by decide +kernel
theorem dX9_heard_55 : decode cX9_heard 55 = .ok (.if_icmp .ge 29, 3) := by decide +kernel
theorem dX9_heard_58 : decode cX9_heard 58 = .ok (.aload_n 3, 1) := by decide +kernel
theorem dX9_heard_59 : decode cX9_heard 59 = .ok (.iload 6, 2) := by decide +kernel
theorem dX9_heard_61 : decode cX9_heard 61 = .ok (.iload_n 1, 1) := by decide +kernel
theorem dX9_heard_62 : decode cX9_heard 62 = .ok (.invokevirtual 77, 3) := by decide +kernel
theorem dX9_heard_65 : decode cX9_heard 65 = .ok (.iload 5, 2) := by decide +kernel
theorem dX9_heard_67 : decode cX9_heard 67 = .ok (.if_icmp .ne 11, 3) := by decide +kernel
theorem dX9_heard_70 : decode cX9_heard 70 = .ok (.aload_n 0, 1) := by decide +kernel
theorem dX9_heard_71 : decode cX9_heard 71 = .ok (.iconst 0, 1) := by decide +kernel
theorem dX9_heard_72 : decode cX9_heard 72 = .ok (.aload_n 3, 1) := by decide +kernel
theorem dX9_heard_73 : decode cX9_heard 73 = .ok (.iload 6, 2) := by decide +kernel
theorem dX9_heard_75 : decode cX9_heard 75 = .ok (.invokevirtual 69, 3) := by decide +kernel
theorem dX9_heard_78 : decode cX9_heard 78 = .ok (.iinc 6 1, 3) := by decide +kernel
theorem dX9_heard_81 : decode cX9_heard 81 = .ok (.goto (-32), 3) := by decide +kernel
theorem dX9_heard_84 : decode cX9_heard 84 = .ok (.iload 4, 2) := by decide +kernel
theorem dX9_heard_86 : decode cX9_heard 86 = .ok (.aload_n 0, 1) := by decide +kernel
theorem dX9_heard_87 : decode cX9_heard 87 = .ok (.getfield 22, 3) := by decide +kernel
theorem dX9_heard_90 : decode cX9_heard 90 = .ok (.aload_n 0, 1) := by decide +kernel
theorem dX9_heard_91 : decode cX9_heard 91 = .ok (.getfield 9, 3) := by decide +kernel
theorem dX9_heard_94 : decode cX9_heard 94 = .ok (.getfield 39, 3) := by decide +kernel
theorem dX9_heard_97 : decode cX9_heard 97 = .ok (.aload_n 0, 1) := by decide +kernel
theorem dX9_heard_98 : decode cX9_heard 98 = .ok (.getfield 9, 3) := by decide +kernel
theorem dX9_heard_101 : decode cX9_heard 101 = .ok (.getfield 32, 3) := by decide +kernel
theorem dX9_heard_104 : decode cX9_heard 104 = .ok (.iconst 0, 1) := by decide +kernel
theorem dX9_heard_105 : decode cX9_heard 105 = .ok (.iaload, 1) := by decide +kernel
theorem dX9_heard_106 : decode cX9_heard 106 = .ok (.iconst 0, 1) := by decide +kernel
theorem dX9_heard_107 : decode cX9_heard 107 = .ok (.invokevirtual 73, 3) := by decide +kernel
theorem dX9_heard_110 : decode cX9_heard 110 = .ok (.iadd, 1) := by decide +kernel
theorem dX9_heard_111 : decode cX9_heard 111 = .ok (.istore 4, 2) := by decide +kernel
theorem dX9_heard_113 : decode cX9_heard 113 = .ok (.iinc 5 1, 3) := by decide +kernel
theorem dX9_heard_116 : decode cX9_heard 116 = .ok (.goto (-88), 3) := by decide +kernel
theorem dX9_heard_119 : decode cX9_heard 119 = .ok (.iload 4, 2) := by decide +kernel
theorem dX9_heard_121 : decode cX9_heard 121 = .ok (.iload_n 2, 1) := by decide +kernel
theorem dX9_heard_122 : decode cX9_heard 122 = .ok (.isub, 1) := by decide +kernel
theorem dX9_heard_123 : decode cX9_heard 123 = .ok (.ireturn, 1) := by decide +kernel
theorem dX9_weighted_0 : decode cX9_weighted 0 = .ok (.aload_n 0, 1) := by decide +kernel
theorem dX9_weighted_1 : decode cX9_weighted 1 = .ok (.getfield 9, 3) := by decide +kernel
theorem dX9_weighted_4 : decode cX9_weighted 4 = .ok (.invokevirtual 51, 3) := by decide +kernel
theorem dX9_weighted_7 : decode cX9_weighted 7 = .ok (.lconst 0, 1) := by decide +kernel
theorem dX9_weighted_8 : decode cX9_weighted 8 = .ok (.lstore_n 2, 1) := by decide +kernel
theorem dX9_weighted_9 : decode cX9_weighted 9 = .ok (.iconst 0, 1) := by decide +kernel
theorem dX9_weighted_10 : decode cX9_weighted 10 = .ok (.istore 4, 2) := by decide +kernel
theorem dX9_weighted_12 : decode cX9_weighted 12 = .ok (.iload 4, 2) := by decide +kernel
theorem dX9_weighted_14 : decode cX9_weighted 14 = .ok (.aload_n 0, 1) := by decide +kernel
theorem dX9_weighted_15 : decode cX9_weighted 15 = .ok (.getfield 15, 3) := by decide +kernel
theorem dX9_weighted_18 : decode cX9_weighted 18 = .ok (.iconst 0, 1) := by decide +kernel
theorem dX9_weighted_19 : decode cX9_weighted 19 = .ok (.aaload, 1) := by decide +kernel
theorem dX9_weighted_20 : decode cX9_weighted 20 = .ok (.invokevirtual 63, 3) := by decide +kernel
theorem dX9_weighted_23 : decode cX9_weighted 23 = .ok (.if_icmp .ge 71, 3) := by decide +kernel
theorem dX9_weighted_26 : decode cX9_weighted 26 = .ok (.iconst 0, 1) := by decide +kernel
theorem dX9_weighted_27 : decode cX9_weighted 27 = .ok (.istore 5, 2) := by decide +kernel
theorem dX9_weighted_29 : decode cX9_weighted 29 = .ok (.iload 5, 2) := by decide +kernel
theorem dX9_weighted_31 : decode cX9_weighted 31 = .ok (.aload_n 0, 1) := by decide +kernel
theorem dX9_weighted_32 : decode cX9_weighted 32 = .ok (.getfield 15, 3) := by decide +kernel
theorem dX9_weighted_35 : decode cX9_weighted 35 = .ok (.iconst 1, 1) := by decide +kernel
theorem dX9_weighted_36 : decode cX9_weighted 36 = .ok (.aaload, 1) := by decide +kernel
theorem dX9_weighted_37 : decode cX9_weighted 37 = .ok (.invokevirtual 63, 3) := by decide +kernel
theorem dX9_weighted_40 : decode cX9_weighted 40 = .ok (.if_icmp .ge 48, 3) := by decide +kernel
theorem dX9_weighted_43 : decode cX9_weighted 43 = .ok (.lload_n 2, 1) := by decide +kernel
theorem dX9_weighted_44 : decode cX9_weighted 44 = .ok (.aload_n 0, 1) := by decide +kernel
theorem dX9_weighted_45 : decode cX9_weighted 45 = .ok (.getfield 15, 3) := by decide +kernel
theorem dX9_weighted_48 : decode cX9_weighted 48 = .ok (.iconst 0, 1) := by decide +kernel
theorem dX9_weighted_49 : decode cX9_weighted 49 = .ok (.aaload, 1) := by decide +kernel
theorem dX9_weighted_50 : decode cX9_weighted 50 = .ok (.iload 4, 2) := by decide +kernel
theorem dX9_weighted_52 : decode cX9_weighted 52 = .ok (.invokevirtual 83, 3) := by decide +kernel
theorem dX9_weighted_55 : decode cX9_weighted 55 = .ok (.i2l, 1) := by decide +kernel
theorem dX9_weighted_56 : decode cX9_weighted 56 = .ok (.aload_n 0, 1) := by decide +kernel
theorem dX9_weighted_57 : decode cX9_weighted 57 = .ok (.getfield 15, 3) := by decide +kernel
theorem dX9_weighted_60 : decode cX9_weighted 60 = .ok (.iconst 1, 1) := by decide +kernel
theorem dX9_weighted_61 : decode cX9_weighted 61 = .ok (.aaload, 1) := by decide +kernel
theorem dX9_weighted_62 : decode cX9_weighted 62 = .ok (.iload 5, 2) := by decide +kernel
theorem dX9_weighted_64 : decode cX9_weighted 64 = .ok (.invokevirtual 83, 3) := by decide +kernel
theorem dX9_weighted_67 : decode cX9_weighted 67 = .ok (.i2l, 1) := by decide +kernel
theorem dX9_weighted_68 : decode cX9_weighted 68 = .ok (.lmul, 1) := by decide +kernel
theorem dX9_weighted_69 : decode cX9_weighted 69 = .ok (.aload_n 0, 1) := by decide +kernel
theorem dX9_weighted_70 : decode cX9_weighted 70 = .ok (.iload 4, 2) := by decide +kernel
theorem dX9_weighted_72 : decode cX9_weighted 72 = .ok (.iload 5, 2) := by decide +kernel
theorem dX9_weighted_74 : decode cX9_weighted 74 = .ok (.iload_n 1, 1) := by decide +kernel
theorem dX9_weighted_75 : decode cX9_weighted 75 = .ok (.invokevirtual 87, 3) := by decide +kernel
theorem dX9_weighted_78 : decode cX9_weighted 78 = .ok (.i2l, 1) := by decide +kernel
theorem dX9_weighted_79 : decode cX9_weighted 79 = .ok (.lmul, 1) := by decide +kernel
theorem dX9_weighted_80 : decode cX9_weighted 80 = .ok (.ladd, 1) := by decide +kernel
theorem dX9_weighted_81 : decode cX9_weighted 81 = .ok (.lstore_n 2, 1) := by decide +kernel
theorem dX9_weighted_82 : decode cX9_weighted 82 = .ok (.iinc 5 1, 3) := by decide +kernel
theorem dX9_weighted_85 : decode cX9_weighted 85 = .ok (.goto (-56), 3) := by decide +kernel
theorem dX9_weighted_88 : decode cX9_weighted 88 = .ok (.iinc 4 1, 3) := by decide +kernel
theorem dX9_weighted_91 : decode cX9_weighted 91 = .ok (.goto (-79), 3) := by decide +kernel
theorem dX9_weighted_94 : decode cX9_weighted 94 = .ok (.lload_n 2, 1) := by decide +kernel
theorem dX9_weighted_95 : decode cX9_weighted 95 = .ok (.lreturn, 1) := by decide +kernel
theorem dX9_twelveDays_0 : decode cX9_twelveDays 0 = .ok (.iconst 0, 1) := by decide +kernel
theorem dX9_twelveDays_1 : decode cX9_twelveDays 1 = .ok (.istore 4, 2) := by decide +kernel
theorem dX9_twelveDays_3 : decode cX9_twelveDays 3 = .ok (.iconst 0, 1) := by decide +kernel
theorem dX9_twelveDays_4 : decode cX9_twelveDays 4 = .ok (.istore 5, 2) := by decide +kernel
theorem dX9_twelveDays_6 : decode cX9_twelveDays 6 = .ok (.iload 5, 2) := by decide +kernel
theorem dX9_twelveDays_8 : decode cX9_twelveDays 8 = .ok (.aload_n 0, 1) := by decide +kernel
theorem dX9_twelveDays_9 : decode cX9_twelveDays 9 = .ok (.getfield 9, 3) := by decide +kernel
theorem dX9_twelveDays_12 : decode cX9_twelveDays 12 = .ok (.getfield 39, 3) := by decide +kernel
theorem dX9_twelveDays_15 : decode cX9_twelveDays 15 = .ok (.if_icmp .ge 82, 3) := by decide +kernel
theorem dX9_twelveDays_18 : decode cX9_twelveDays 18 = .ok (.iload 5, 2) := by decide +kernel
theorem dX9_twelveDays_20 : decode cX9_twelveDays 20 = .ok (.bipush 100, 2) := by decide +kernel
theorem dX9_twelveDays_22 : decode cX9_twelveDays 22 = .ok (.imul, 1) := by decide +kernel
theorem dX9_twelveDays_23 : decode cX9_twelveDays 23 = .ok (.aload_n 0, 1) := by decide +kernel
theorem dX9_twelveDays_24 : decode cX9_twelveDays 24 = .ok (.getfield 15, 3) := by decide +kernel
theorem dX9_twelveDays_27 : decode cX9_twelveDays 27 = .ok (.iconst 1, 1) := by decide +kernel
theorem dX9_twelveDays_28 : decode cX9_twelveDays 28 = .ok (.aaload, 1) := by decide +kernel
theorem dX9_twelveDays_29 : decode cX9_twelveDays 29 = .ok (.iload_n 2, 1) := by decide +kernel
theorem dX9_twelveDays_30 : decode cX9_twelveDays 30 = .ok (.iload 5, 2) := by decide +kernel
theorem dX9_twelveDays_32 : decode cX9_twelveDays 32 = .ok (.invokevirtual 77, 3) := by decide +kernel
theorem dX9_twelveDays_35 : decode cX9_twelveDays 35 = .ok (.iadd, 1) := by decide +kernel
theorem dX9_twelveDays_36 : decode cX9_twelveDays 36 = .ok (.istore 6, 2) := by decide +kernel
theorem dX9_twelveDays_38 : decode cX9_twelveDays 38 = .ok (.iload 4, 2) := by decide +kernel
theorem dX9_twelveDays_40 : decode cX9_twelveDays 40 = .ok (.bipush 12, 2) := by decide +kernel
theorem dX9_twelveDays_42 : decode cX9_twelveDays 42 = .ok (.iload_n 3, 1) := by decide +kernel
theorem dX9_twelveDays_43 : decode cX9_twelveDays 43 = .ok (.isub, 1) := by decide +kernel
theorem dX9_twelveDays_44 : decode cX9_twelveDays 44 = .ok (.aload_n 0, 1) := by decide +kernel
theorem dX9_twelveDays_45 : decode cX9_twelveDays 45 = .ok (.getfield 9, 3) := by decide +kernel
theorem dX9_twelveDays_48 : decode cX9_twelveDays 48 = .ok (.getfield 80, 3) := by decide +kernel
theorem dX9_twelveDays_51 : decode cX9_twelveDays 51 = .ok (.iload 6, 2) := by decide +kernel
theorem dX9_twelveDays_53 : decode cX9_twelveDays 53 = .ok (.bipush 10, 2) := by decide +kernel
theorem dX9_twelveDays_55 : decode cX9_twelveDays 55 = .ok (.aload_n 0, 1) := by decide +kernel
theorem dX9_twelveDays_56 : decode cX9_twelveDays 56 = .ok (.getfield 15, 3) := by decide +kernel
theorem dX9_twelveDays_59 : decode cX9_twelveDays 59 = .ok (.iconst 0, 1) := by decide +kernel
theorem dX9_twelveDays_60 : decode cX9_twelveDays 60 = .ok (.aaload, 1) := by decide +kernel
theorem dX9_twelveDays_61 : decode cX9_twelveDays 61 = .ok (.iload_n 1, 1) := by decide +kernel
theorem dX9_twelveDays_62 : decode cX9_twelveDays 62 = .ok (.iload 5, 2) := by decide +kernel
theorem dX9_twelveDays_64 : decode cX9_twelveDays 64 = .ok (.invokevirtual 77, 3) := by decide +kernel
theorem dX9_twelveDays_67 : decode cX9_twelveDays 67 = .ok (.imul, 1) := by decide +kernel
theorem dX9_twelveDays_68 : decode cX9_twelveDays 68 = .ok (.iadd, 1) := by decide +kernel
theorem dX9_twelveDays_69 : decode cX9_twelveDays 69 = .ok (.iaload, 1) := by decide +kernel
theorem dX9_twelveDays_70 : decode cX9_twelveDays 70 = .ok (.imul, 1) := by decide +kernel
theorem dX9_twelveDays_71 : decode cX9_twelveDays 71 = .ok (.iadd, 1) := by decide +kernel
theorem dX9_twelveDays_72 : decode cX9_twelveDays 72 = .ok (.istore 4, 2) := by decide +kernel
theorem dX9_twelveDays_74 : decode cX9_twelveDays 74 = .ok (.iload 4, 2) := by decide +kernel
theorem dX9_twelveDays_76 : decode cX9_twelveDays 76 = .ok (.iload_n 3, 1) := by decide +kernel
theorem dX9_twelveDays_77 : decode cX9_twelveDays 77 = .ok (.aload_n 0, 1) := by decide +kernel
theorem dX9_twelveDays_78 : decode cX9_twelveDays 78 = .ok (.getfield 9, 3) := by decide +kernel
theorem dX9_twelveDays_81 : decode cX9_twelveDays 81 = .ok (.getfield 80, 3) := by decide +kernel
theorem dX9_twelveDays_84 : decode cX9_twelveDays 84 = .ok (.iload 6, 2) := by decide +kernel
theorem dX9_twelveDays_86 : decode cX9_twelveDays 86 = .ok (.iaload, 1) := by decide +kernel
theorem dX9_twelveDays_87 : decode cX9_twelveDays 87 = .ok (.imul, 1) := by decide +kernel
theorem dX9_twelveDays_88 : decode cX9_twelveDays 88 = .ok (.iadd, 1) := by decide +kernel
theorem dX9_twelveDays_89 : decode cX9_twelveDays 89 = .ok (.istore 4, 2) := by decide +kernel
theorem dX9_twelveDays_91 : decode cX9_twelveDays 91 = .ok (.iinc 5 1, 3) := by decide +kernel
theorem dX9_twelveDays_94 : decode cX9_twelveDays 94 = .ok (.goto (-88), 3) := by decide +kernel
theorem dX9_twelveDays_97 : decode cX9_twelveDays 97 = .ok (.iload 4, 2) := by decide +kernel
theorem dX9_twelveDays_99 : decode cX9_twelveDays 99 = .ok (.ireturn, 1) := by decide +kernel
theorem dX10_init_0 : decode cX10_init 0 = .ok (.aload_n 0, 1) := by decide +kernel
theorem dX10_init_1 : decode cX10_init 1 = .ok (.invokespecial 1, 3) := by decide +kernel
theorem dX10_init_4 : decode cX10_init 4 = .ok (.aload_n 0, 1) := by decide +kernel
theorem dX10_init_5 : decode cX10_init 5 = .ok (.iconst 5, 1) := by decide +kernel
theorem dX10_init_6 : decode cX10_init 6 = .ok (.newarray .int, 2) := by decide +kernel
theorem dX10_init_8 : decode cX10_init 8 = .ok (.putfield 9, 3) := by decide +kernel
theorem dX10_init_11 : decode cX10_init 11 = .ok (.return_, 1) := by decide +kernel
theorem dX10_start_0 : decode cX10_start 0 = .ok (.aload_n 0, 1) := by decide +kernel
theorem dX10_start_1 : decode cX10_start 1 = .ok (.iload_n 1, 1) := by decide +kernel
theorem dX10_start_2 : decode cX10_start 2 = .ok (.putfield 15, 3) := by decide +kernel
theorem dX10_start_5 : decode cX10_start 5 = .ok (.aload_n 0, 1) := by decide +kernel
theorem dX10_start_6 : decode cX10_start 6 = .ok (.getfield 9, 3) := by decide +kernel
theorem dX10_start_9 : decode cX10_start 9 = .ok (.iconst 0, 1) := by decide +kernel
theorem dX10_start_10 : decode cX10_start 10 = .ok (.invokestatic 19, 3) := by decide +kernel
theorem dX10_start_13 : decode cX10_start 13 = .ok (.aload_n 0, 1) := by decide +kernel
theorem dX10_start_14 : decode cX10_start 14 = .ok (.getfield 15, 3) := by decide +kernel
theorem dX10_start_17 : decode cX10_start 17 = .ok (.ifCond .ne 13, 3) := by decide +kernel
theorem dX10_start_20 : decode cX10_start 20 = .ok (.iload_n 2, 1) := by decide +kernel
theorem dX10_start_21 : decode cX10_start 21 = .ok (.ifCond .ne 7, 3) := by decide +kernel
theorem dX10_start_24 : decode cX10_start 24 = .ok (.iconst 1, 1) := by decide +kernel
theorem dX10_start_25 : decode cX10_start 25 = .ok (.goto 4, 3) := by decide +kernel
theorem dX10_start_28 : decode cX10_start 28 = .ok (.iconst 0, 1) := by decide +kernel
theorem dX10_start_29 : decode cX10_start 29 = .ok (.ireturn, 1) := by decide +kernel
theorem dX10_start_30 : decode cX10_start 30 = .ok (.aload_n 0, 1) := by decide +kernel
theorem dX10_start_31 : decode cX10_start 31 = .ok (.getfield 9, 3) := by decide +kernel
theorem dX10_start_34 : decode cX10_start 34 = .ok (.aload_n 0, 1) := by decide +kernel
theorem dX10_start_35 : decode cX10_start 35 = .ok (.getfield 15, 3) := by decide +kernel
theorem dX10_start_38 : decode cX10_start 38 = .ok (.iconst 1, 1) := by decide +kernel
theorem dX10_start_39 : decode cX10_start 39 = .ok (.isub, 1) := by decide +kernel
theorem dX10_start_40 : decode cX10_start 40 = .ok (.iload_n 2, 1) := by decide +kernel
theorem dX10_start_41 : decode cX10_start 41 = .ok (.iastore, 1) := by decide +kernel
theorem dX10_start_42 : decode cX10_start 42 = .ok (.iconst 1, 1) := by decide +kernel
theorem dX10_start_43 : decode cX10_start 43 = .ok (.ireturn, 1) := by decide +kernel
theorem dX10_step_0 : decode cX10_step 0 = .ok (.aload_n 0, 1) := by decide +kernel
theorem dX10_step_1 : decode cX10_step 1 = .ok (.getfield 15, 3) := by decide +kernel
theorem dX10_step_4 : decode cX10_step 4 = .ok (.iconst 1, 1) := by decide +kernel
theorem dX10_step_5 : decode cX10_step 5 = .ok (.isub, 1) := by decide +kernel
theorem dX10_step_6 : decode cX10_step 6 = .ok (.istore_n 1, 1) := by decide +kernel
theorem dX10_step_7 : decode cX10_step 7 = .ok (.iload_n 1, 1) := by decide +kernel
theorem dX10_step_8 : decode cX10_step 8 = .ok (.ifCond .le 18, 3) := by decide +kernel
theorem dX10_step_11 : decode cX10_step 11 = .ok (.aload_n 0, 1) := by decide +kernel
theorem dX10_step_12 : decode cX10_step 12 = .ok (.getfield 9, 3) := by decide +kernel
theorem dX10_step_15 : decode cX10_step 15 = .ok (.iload_n 1, 1) := by decide +kernel
theorem dX10_step_16 : decode cX10_step 16 = .ok (.iaload, 1) := by decide +kernel
theorem dX10_step_17 : decode cX10_step 17 = .ok (.ifCond .ne 9, 3) := by decide +kernel
theorem dX10_step_20 : decode cX10_step 20 = .ok (.iinc 1 (-1), 3) := by decide +kernel
theorem dX10_step_23 : decode cX10_step 23 = .ok (.goto (-16), 3) := by decide +kernel
theorem dX10_step_26 : decode cX10_step 26 = .ok (.iload_n 1, 1) := by decide +kernel
theorem dX10_step_27 : decode cX10_step 27 = .ok (.ifCond .gt 5, 3) := by decide +kernel
theorem dX10_step_30 : decode cX10_step 30 = .ok (.iconst 0, 1) := by decide +kernel
theorem dX10_step_31 : decode cX10_step 31 = .ok (.ireturn, 1) := by decide +kernel
theorem dX10_step_32 : decode cX10_step 32 = .ok (.aload_n 0, 1) := by decide +kernel
theorem dX10_step_33 : decode cX10_step 33 = .ok (.getfield 9, 3) := by decide +kernel
theorem dX10_step_36 : decode cX10_step 36 = .ok (.iload_n 1, 1) := by decide +kernel
theorem dX10_step_37 : decode cX10_step 37 = .ok (.iaload, 1) := by decide +kernel
theorem dX10_step_38 : decode cX10_step 38 = .ok (.iconst 1, 1) := by decide +kernel
theorem dX10_step_39 : decode cX10_step 39 = .ok (.isub, 1) := by decide +kernel
theorem dX10_step_40 : decode cX10_step 40 = .ok (.istore_n 2, 1) := by decide +kernel
theorem dX10_step_41 : decode cX10_step 41 = .ok (.aload_n 0, 1) := by decide +kernel
theorem dX10_step_42 : decode cX10_step 42 = .ok (.getfield 9, 3) := by decide +kernel
theorem dX10_step_45 : decode cX10_step 45 = .ok (.iload_n 1, 1) := by decide +kernel
theorem dX10_step_46 : decode cX10_step 46 = .ok (.iconst 0, 1) := by decide +kernel
theorem dX10_step_47 : decode cX10_step 47 = .ok (.iastore, 1) := by decide +kernel
theorem dX10_step_48 : decode cX10_step 48 = .ok (.aload_n 0, 1) := by decide +kernel
theorem dX10_step_49 : decode cX10_step 49 = .ok (.getfield 9, 3) := by decide +kernel
theorem dX10_step_52 : decode cX10_step 52 = .ok (.iload_n 1, 1) := by decide +kernel
theorem dX10_step_53 : decode cX10_step 53 = .ok (.iconst 1, 1) := by decide +kernel
theorem dX10_step_54 : decode cX10_step 54 = .ok (.isub, 1) := by decide +kernel
theorem dX10_step_55 : decode cX10_step 55 = .ok (.dup2, 1) := by decide +kernel
theorem dX10_step_56 : decode cX10_step 56 = .ok (.iaload, 1) := by decide +kernel
theorem dX10_step_57 : decode cX10_step 57 = .ok (.iconst 1, 1) := by decide +kernel
theorem dX10_step_58 : decode cX10_step 58 = .ok (.iadd, 1) := by decide +kernel
theorem dX10_step_59 : decode cX10_step 59 = .ok (.iastore, 1) := by decide +kernel
theorem dX10_step_60 : decode cX10_step 60 = .ok (.aload_n 0, 1) := by decide +kernel
theorem dX10_step_61 : decode cX10_step 61 = .ok (.getfield 9, 3) := by decide +kernel
theorem dX10_step_64 : decode cX10_step 64 = .ok (.aload_n 0, 1) := by decide +kernel
theorem dX10_step_65 : decode cX10_step 65 = .ok (.getfield 15, 3) := by decide +kernel
theorem dX10_step_68 : decode cX10_step 68 = .ok (.iconst 1, 1) := by decide +kernel
theorem dX10_step_69 : decode cX10_step 69 = .ok (.isub, 1) := by decide +kernel
theorem dX10_step_70 : decode cX10_step 70 = .ok (.iload_n 2, 1) := by decide +kernel
theorem dX10_step_71 : decode cX10_step 71 = .ok (.iastore, 1) := by decide +kernel
theorem dX10_step_72 : decode cX10_step 72 = .ok (.iconst 1, 1) := by decide +kernel
theorem dX10_step_73 : decode cX10_step 73 = .ok (.ireturn, 1) := by decide +kernel
theorem dX11_init_0 : decode cX11_init 0 = .ok (.aload_n 0, 1) := by decide +kernel
theorem dX11_init_1 : decode cX11_init 1 = .ok (.invokespecial 1, 3) := by decide +kernel
