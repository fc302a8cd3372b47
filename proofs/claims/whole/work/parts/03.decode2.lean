theorem dX11_init_4 : decode cX11_init 4 = .ok (.aload_n 0, 1) := by decide +kernel
theorem dX11_init_5 : decode cX11_init 5 = .ok (.new 7, 3) := by decide +kernel
theorem dX11_init_8 : decode cX11_init 8 = .ok (.dup, 1) := by decide +kernel
theorem dX11_init_9 : decode cX11_init 9 = .ok (.invokespecial 9, 3) := by decide +kernel
theorem dX11_init_12 : decode cX11_init 12 = .ok (.putfield 10, 3) := by decide +kernel
theorem dX11_init_15 : decode cX11_init 15 = .ok (.aload_n 0, 1) := by decide +kernel
theorem dX11_init_16 : decode cX11_init 16 = .ok (.new 16, 3) := by decide +kernel
theorem dX11_init_19 : decode cX11_init 19 = .ok (.dup, 1) := by decide +kernel
theorem dX11_init_20 : decode cX11_init 20 = .ok (.aload_n 0, 1) := by decide +kernel
theorem dX11_init_21 : decode cX11_init 21 = .ok (.getfield 10, 3) := by decide +kernel
theorem dX11_init_24 : decode cX11_init 24 = .ok (.invokespecial 18, 3) := by decide +kernel
theorem dX11_init_27 : decode cX11_init 27 = .ok (.putfield 21, 3) := by decide +kernel
theorem dX11_init_30 : decode cX11_init 30 = .ok (.aload_n 0, 1) := by decide +kernel
theorem dX11_init_31 : decode cX11_init 31 = .ok (.iconst 2, 1) := by decide +kernel
theorem dX11_init_32 : decode cX11_init 32 = .ok (.anewarray 25, 3) := by decide +kernel
theorem dX11_init_35 : decode cX11_init 35 = .ok (.dup, 1) := by decide +kernel
theorem dX11_init_36 : decode cX11_init 36 = .ok (.iconst 0, 1) := by decide +kernel
theorem dX11_init_37 : decode cX11_init 37 = .ok (.new 25, 3) := by decide +kernel
theorem dX11_init_40 : decode cX11_init 40 = .ok (.dup, 1) := by decide +kernel
theorem dX11_init_41 : decode cX11_init 41 = .ok (.invokespecial 27, 3) := by decide +kernel
theorem dX11_init_44 : decode cX11_init 44 = .ok (.aastore, 1) := by decide +kernel
theorem dX11_init_45 : decode cX11_init 45 = .ok (.dup, 1) := by decide +kernel
theorem dX11_init_46 : decode cX11_init 46 = .ok (.iconst 1, 1) := by decide +kernel
theorem dX11_init_47 : decode cX11_init 47 = .ok (.new 25, 3) := by decide +kernel
theorem dX11_init_50 : decode cX11_init 50 = .ok (.dup, 1) := by decide +kernel
theorem dX11_init_51 : decode cX11_init 51 = .ok (.invokespecial 27, 3) := by decide +kernel
theorem dX11_init_54 : decode cX11_init 54 = .ok (.aastore, 1) := by decide +kernel
theorem dX11_init_55 : decode cX11_init 55 = .ok (.putfield 28, 3) := by decide +kernel
theorem dX11_init_58 : decode cX11_init 58 = .ok (.aload_n 0, 1) := by decide +kernel
theorem dX11_init_59 : decode cX11_init 59 = .ok (.iconst 2, 1) := by decide +kernel
theorem dX11_init_60 : decode cX11_init 60 = .ok (.anewarray 25, 3) := by decide +kernel
theorem dX11_init_63 : decode cX11_init 63 = .ok (.dup, 1) := by decide +kernel
theorem dX11_init_64 : decode cX11_init 64 = .ok (.iconst 0, 1) := by decide +kernel
theorem dX11_init_65 : decode cX11_init 65 = .ok (.new 25, 3) := by decide +kernel
theorem dX11_init_68 : decode cX11_init 68 = .ok (.dup, 1) := by decide +kernel
theorem dX11_init_69 : decode cX11_init 69 = .ok (.invokespecial 27, 3) := by decide +kernel
theorem dX11_init_72 : decode cX11_init 72 = .ok (.aastore, 1) := by decide +kernel
theorem dX11_init_73 : decode cX11_init 73 = .ok (.dup, 1) := by decide +kernel
theorem dX11_init_74 : decode cX11_init 74 = .ok (.iconst 1, 1) := by decide +kernel
theorem dX11_init_75 : decode cX11_init 75 = .ok (.new 25, 3) := by decide +kernel
theorem dX11_init_78 : decode cX11_init 78 = .ok (.dup, 1) := by decide +kernel
theorem dX11_init_79 : decode cX11_init 79 = .ok (.invokespecial 27, 3) := by decide +kernel
theorem dX11_init_82 : decode cX11_init 82 = .ok (.aastore, 1) := by decide +kernel
theorem dX11_init_83 : decode cX11_init 83 = .ok (.putfield 32, 3) := by decide +kernel
theorem dX11_init_86 : decode cX11_init 86 = .ok (.aload_n 0, 1) := by decide +kernel
theorem dX11_init_87 : decode cX11_init 87 = .ok (.new 35, 3) := by decide +kernel
theorem dX11_init_90 : decode cX11_init 90 = .ok (.dup, 1) := by decide +kernel
theorem dX11_init_91 : decode cX11_init 91 = .ok (.aload_n 0, 1) := by decide +kernel
theorem dX11_init_92 : decode cX11_init 92 = .ok (.getfield 21, 3) := by decide +kernel
theorem dX11_init_95 : decode cX11_init 95 = .ok (.aload_n 0, 1) := by decide +kernel
theorem dX11_init_96 : decode cX11_init 96 = .ok (.getfield 28, 3) := by decide +kernel
theorem dX11_init_99 : decode cX11_init 99 = .ok (.invokespecial 37, 3) := by decide +kernel
theorem dX11_init_102 : decode cX11_init 102 = .ok (.putfield 40, 3) := by decide +kernel
theorem dX11_init_105 : decode cX11_init 105 = .ok (.aload_n 0, 1) := by decide +kernel
theorem dX11_init_106 : decode cX11_init 106 = .ok (.new 44, 3) := by decide +kernel
theorem dX11_init_109 : decode cX11_init 109 = .ok (.dup, 1) := by decide +kernel
theorem dX11_init_110 : decode cX11_init 110 = .ok (.aload_n 0, 1) := by decide +kernel
theorem dX11_init_111 : decode cX11_init 111 = .ok (.getfield 21, 3) := by decide +kernel
theorem dX11_init_114 : decode cX11_init 114 = .ok (.invokespecial 46, 3) := by decide +kernel
theorem dX11_init_117 : decode cX11_init 117 = .ok (.putfield 49, 3) := by decide +kernel
theorem dX11_init_120 : decode cX11_init 120 = .ok (.aload_n 0, 1) := by decide +kernel
theorem dX11_init_121 : decode cX11_init 121 = .ok (.new 53, 3) := by decide +kernel
theorem dX11_init_124 : decode cX11_init 124 = .ok (.dup, 1) := by decide +kernel
theorem dX11_init_125 : decode cX11_init 125 = .ok (.aload_n 0, 1) := by decide +kernel
theorem dX11_init_126 : decode cX11_init 126 = .ok (.getfield 21, 3) := by decide +kernel
theorem dX11_init_129 : decode cX11_init 129 = .ok (.aload_n 0, 1) := by decide +kernel
theorem dX11_init_130 : decode cX11_init 130 = .ok (.getfield 28, 3) := by decide +kernel
theorem dX11_init_133 : decode cX11_init 133 = .ok (.invokespecial 55, 3) := by decide +kernel
theorem dX11_init_136 : decode cX11_init 136 = .ok (.putfield 56, 3) := by decide +kernel
theorem dX11_init_139 : decode cX11_init 139 = .ok (.aload_n 0, 1) := by decide +kernel
theorem dX11_init_140 : decode cX11_init 140 = .ok (.new 60, 3) := by decide +kernel
theorem dX11_init_143 : decode cX11_init 143 = .ok (.dup, 1) := by decide +kernel
theorem dX11_init_144 : decode cX11_init 144 = .ok (.invokespecial 62, 3) := by decide +kernel
theorem dX11_init_147 : decode cX11_init 147 = .ok (.putfield 63, 3) := by decide +kernel
theorem dX11_init_150 : decode cX11_init 150 = .ok (.aload_n 0, 1) := by decide +kernel
theorem dX11_init_151 : decode cX11_init 151 = .ok (.new 67, 3) := by decide +kernel
theorem dX11_init_154 : decode cX11_init 154 = .ok (.dup, 1) := by decide +kernel
theorem dX11_init_155 : decode cX11_init 155 = .ok (.invokespecial 69, 3) := by decide +kernel
theorem dX11_init_158 : decode cX11_init 158 = .ok (.putfield 70, 3) := by decide +kernel
theorem dX11_init_161 : decode cX11_init 161 = .ok (.aload_n 0, 1) := by decide +kernel
theorem dX11_init_162 : decode cX11_init 162 = .ok (.bipush 6, 2) := by decide +kernel
theorem dX11_init_164 : decode cX11_init 164 = .ok (.anewarray 74, 3) := by decide +kernel
theorem dX11_init_167 : decode cX11_init 167 = .ok (.putfield 76, 3) := by decide +kernel
theorem dX11_init_170 : decode cX11_init 170 = .ok (.iconst 0, 1) := by decide +kernel
theorem dX11_init_171 : decode cX11_init 171 = .ok (.istore_n 1, 1) := by decide +kernel
theorem dX11_init_172 : decode cX11_init 172 = .ok (.iload_n 1, 1) := by decide +kernel
theorem dX11_init_173 : decode cX11_init 173 = .ok (.bipush 6, 2) := by decide +kernel
theorem dX11_init_175 : decode cX11_init 175 = .ok (.if_icmp .ge 22, 3) := by decide +kernel
theorem dX11_init_178 : decode cX11_init 178 = .ok (.aload_n 0, 1) := by decide +kernel
theorem dX11_init_179 : decode cX11_init 179 = .ok (.getfield 76, 3) := by decide +kernel
theorem dX11_init_182 : decode cX11_init 182 = .ok (.iload_n 1, 1) := by decide +kernel
theorem dX11_init_183 : decode cX11_init 183 = .ok (.new 74, 3) := by decide +kernel
theorem dX11_init_186 : decode cX11_init 186 = .ok (.dup, 1) := by decide +kernel
theorem dX11_init_187 : decode cX11_init 187 = .ok (.invokespecial 80, 3) := by decide +kernel
theorem dX11_init_190 : decode cX11_init 190 = .ok (.aastore, 1) := by decide +kernel
theorem dX11_init_191 : decode cX11_init 191 = .ok (.iinc 1 1, 3) := by decide +kernel
theorem dX11_init_194 : decode cX11_init 194 = .ok (.goto (-22), 3) := by decide +kernel
theorem dX11_init_197 : decode cX11_init 197 = .ok (.aload_n 0, 1) := by decide +kernel
theorem dX11_init_198 : decode cX11_init 198 = .ok (.iconst 5, 1) := by decide +kernel
theorem dX11_init_199 : decode cX11_init 199 = .ok (.newarray .int, 2) := by decide +kernel
theorem dX11_init_201 : decode cX11_init 201 = .ok (.putfield 81, 3) := by decide +kernel
theorem dX11_init_204 : decode cX11_init 204 = .ok (.aload_n 0, 1) := by decide +kernel
theorem dX11_init_205 : decode cX11_init 205 = .ok (.iconst 5, 1) := by decide +kernel
theorem dX11_init_206 : decode cX11_init 206 = .ok (.newarray .int, 2) := by decide +kernel
theorem dX11_init_208 : decode cX11_init 208 = .ok (.putfield 85, 3) := by decide +kernel
theorem dX11_init_211 : decode cX11_init 211 = .ok (.return_, 1) := by decide +kernel
theorem dX11_village_0 : decode cX11_village 0 = .ok (.iload_n 1, 1) := by decide +kernel
theorem dX11_village_1 : decode cX11_village 1 = .ok (.iconst 1, 1) := by decide +kernel
theorem dX11_village_2 : decode cX11_village 2 = .ok (.if_icmp .lt 27, 3) := by decide +kernel
theorem dX11_village_5 : decode cX11_village 5 = .ok (.iload_n 1, 1) := by decide +kernel
theorem dX11_village_6 : decode cX11_village 6 = .ok (.bipush 9, 2) := by decide +kernel
theorem dX11_village_8 : decode cX11_village 8 = .ok (.if_icmp .gt 21, 3) := by decide +kernel
theorem dX11_village_11 : decode cX11_village 11 = .ok (.iload_n 2, 1) := by decide +kernel
theorem dX11_village_12 : decode cX11_village 12 = .ok (.ifCond .lt 17, 3) := by decide +kernel
theorem dX11_village_15 : decode cX11_village 15 = .ok (.iload_n 2, 1) := by decide +kernel
theorem dX11_village_16 : decode cX11_village 16 = .ok (.bipush 99, 2) := by decide +kernel
theorem dX11_village_18 : decode cX11_village 18 = .ok (.if_icmp .gt 11, 3) := by decide +kernel
theorem dX11_village_21 : decode cX11_village 21 = .ok (.iload_n 2, 1) := by decide +kernel
theorem dX11_village_22 : decode cX11_village 22 = .ok (.bipush 10, 2) := by decide +kernel
theorem dX11_village_24 : decode cX11_village 24 = .ok (.irem, 1) := by decide +kernel
theorem dX11_village_25 : decode cX11_village 25 = .ok (.iconst 2, 1) := by decide +kernel
theorem dX11_village_26 : decode cX11_village 26 = .ok (.if_icmp .le 5, 3) := by decide +kernel
theorem dX11_village_29 : decode cX11_village 29 = .ok (.iconst (-1), 1) := by decide +kernel
theorem dX11_village_30 : decode cX11_village 30 = .ok (.ireturn, 1) := by decide +kernel
theorem dX11_village_31 : decode cX11_village 31 = .ok (.aload_n 0, 1) := by decide +kernel
theorem dX11_village_32 : decode cX11_village 32 = .ok (.getfield 21, 3) := by decide +kernel
theorem dX11_village_35 : decode cX11_village 35 = .ok (.getfield 88, 3) := by decide +kernel
theorem dX11_village_38 : decode cX11_village 38 = .ok (.iconst 5, 1) := by decide +kernel
theorem dX11_village_39 : decode cX11_village 39 = .ok (.if_icmp .lt 6, 3) := by decide +kernel
theorem dX11_village_42 : decode cX11_village 42 = .ok (.bipush (-3), 2) := by decide +kernel
theorem dX11_village_44 : decode cX11_village 44 = .ok (.ireturn, 1) := by decide +kernel
theorem dX11_village_45 : decode cX11_village 45 = .ok (.aload_n 0, 1) := by decide +kernel
theorem dX11_village_46 : decode cX11_village 46 = .ok (.getfield 21, 3) := by decide +kernel
theorem dX11_village_49 : decode cX11_village 49 = .ok (.iload_n 1, 1) := by decide +kernel
theorem dX11_village_50 : decode cX11_village 50 = .ok (.iload_n 2, 1) := by decide +kernel
theorem dX11_village_51 : decode cX11_village 51 = .ok (.bipush 10, 2) := by decide +kernel
theorem dX11_village_53 : decode cX11_village 53 = .ok (.idiv, 1) := by decide +kernel
theorem dX11_village_54 : decode cX11_village 54 = .ok (.iload_n 2, 1) := by decide +kernel
theorem dX11_village_55 : decode cX11_village 55 = .ok (.bipush 10, 2) := by decide +kernel
theorem dX11_village_57 : decode cX11_village 57 = .ok (.irem, 1) := by decide +kernel
theorem dX11_village_58 : decode cX11_village 58 = .ok (.invokevirtual 92, 3) := by decide +kernel
theorem dX11_village_61 : decode cX11_village 61 = .ok (.ireturn, 1) := by decide +kernel
theorem dX11_mend_0 : decode cX11_mend 0 = .ok (.aload_n 0, 1) := by decide +kernel
theorem dX11_mend_1 : decode cX11_mend 1 = .ok (.getfield 21, 3) := by decide +kernel
theorem dX11_mend_4 : decode cX11_mend 4 = .ok (.iload_n 1, 1) := by decide +kernel
theorem dX11_mend_5 : decode cX11_mend 5 = .ok (.iload_n 2, 1) := by decide +kernel
theorem dX11_mend_6 : decode cX11_mend 6 = .ok (.iload_n 3, 1) := by decide +kernel
theorem dX11_mend_7 : decode cX11_mend 7 = .ok (.invokevirtual 96, 3) := by decide +kernel
theorem dX11_mend_10 : decode cX11_mend 10 = .ok (.ifCond .ne 5, 3) := by decide +kernel
theorem dX11_mend_13 : decode cX11_mend 13 = .ok (.iconst (-1), 1) := by decide +kernel
theorem dX11_mend_14 : decode cX11_mend 14 = .ok (.ireturn, 1) := by decide +kernel
theorem dX11_mend_15 : decode cX11_mend 15 = .ok (.aload_n 0, 1) := by decide +kernel
theorem dX11_mend_16 : decode cX11_mend 16 = .ok (.getfield 21, 3) := by decide +kernel
theorem dX11_mend_19 : decode cX11_mend 19 = .ok (.iload_n 1, 1) := by decide +kernel
theorem dX11_mend_20 : decode cX11_mend 20 = .ok (.iload_n 2, 1) := by decide +kernel
theorem dX11_mend_21 : decode cX11_mend 21 = .ok (.invokevirtual 100, 3) := by decide +kernel
theorem dX11_mend_24 : decode cX11_mend 24 = .ok (.istore 4, 2) := by decide +kernel
theorem dX11_mend_26 : decode cX11_mend 26 = .ok (.iload_n 3, 1) := by decide +kernel
theorem dX11_mend_27 : decode cX11_mend 27 = .ok (.iload 4, 2) := by decide +kernel
theorem dX11_mend_29 : decode cX11_mend 29 = .ok (.if_icmp .ne 6, 3) := by decide +kernel
theorem dX11_mend_32 : decode cX11_mend 32 = .ok (.iload 4, 2) := by decide +kernel
theorem dX11_mend_34 : decode cX11_mend 34 = .ok (.ireturn, 1) := by decide +kernel
theorem dX11_mend_35 : decode cX11_mend 35 = .ok (.aload_n 0, 1) := by decide +kernel
theorem dX11_mend_36 : decode cX11_mend 36 = .ok (.getfield 63, 3) := by decide +kernel
theorem dX11_mend_39 : decode cX11_mend 39 = .ok (.iload_n 1, 1) := by decide +kernel
theorem dX11_mend_40 : decode cX11_mend 40 = .ok (.iload_n 2, 1) := by decide +kernel
theorem dX11_mend_41 : decode cX11_mend 41 = .ok (.iload 4, 2) := by decide +kernel
theorem dX11_mend_43 : decode cX11_mend 43 = .ok (.iload_n 3, 1) := by decide +kernel
theorem dX11_mend_44 : decode cX11_mend 44 = .ok (.invokevirtual 104, 3) := by decide +kernel
theorem dX11_mend_47 : decode cX11_mend 47 = .ok (.aload_n 0, 1) := by decide +kernel
theorem dX11_mend_48 : decode cX11_mend 48 = .ok (.getfield 21, 3) := by decide +kernel
theorem dX11_mend_51 : decode cX11_mend 51 = .ok (.iload_n 1, 1) := by decide +kernel
theorem dX11_mend_52 : decode cX11_mend 52 = .ok (.iload_n 2, 1) := by decide +kernel
theorem dX11_mend_53 : decode cX11_mend 53 = .ok (.iload_n 3, 1) := by decide +kernel
theorem dX11_mend_54 : decode cX11_mend 54 = .ok (.invokevirtual 108, 3) := by decide +kernel
theorem dX11_mend_57 : decode cX11_mend 57 = .ok (.iload 4, 2) := by decide +kernel
theorem dX11_mend_59 : decode cX11_mend 59 = .ok (.ireturn, 1) := by decide +kernel
theorem dX11_of_0 : decode cX11_of 0 = .ok (.iload_n 2, 1) := by decide +kernel
theorem dX11_of_1 : decode cX11_of 1 = .ok (.ifCond .lt 26, 3) := by decide +kernel
theorem dX11_of_4 : decode cX11_of 4 = .ok (.iload_n 2, 1) := by decide +kernel
theorem dX11_of_5 : decode cX11_of 5 = .ok (.iconst 3, 1) := by decide +kernel
theorem dX11_of_6 : decode cX11_of 6 = .ok (.if_icmp .gt 21, 3) := by decide +kernel
theorem dX11_of_9 : decode cX11_of 9 = .ok (.iload_n 1, 1) := by decide +kernel
theorem dX11_of_10 : decode cX11_of 10 = .ok (.invokestatic 112, 3) := by decide +kernel
theorem dX11_of_13 : decode cX11_of 13 = .ok (.ifCond .eq 12, 3) := by decide +kernel
theorem dX11_of_16 : decode cX11_of 16 = .ok (.aload_n 0, 1) := by decide +kernel
theorem dX11_of_17 : decode cX11_of 17 = .ok (.iload_n 1, 1) := by decide +kernel
theorem dX11_of_18 : decode cX11_of 18 = .ok (.iload_n 2, 1) := by decide +kernel
theorem dX11_of_19 : decode cX11_of 19 = .ok (.invokevirtual 116, 3) := by decide +kernel
theorem dX11_of_22 : decode cX11_of 22 = .ok (.goto 4, 3) := by decide +kernel
theorem dX11_of_25 : decode cX11_of 25 = .ok (.iconst (-1), 1) := by decide +kernel
theorem dX11_of_26 : decode cX11_of 26 = .ok (.ireturn, 1) := by decide +kernel
theorem dX11_of_27 : decode cX11_of 27 = .ok (.aload_n 0, 1) := by decide +kernel
theorem dX11_of_28 : decode cX11_of 28 = .ok (.getfield 21, 3) := by decide +kernel
theorem dX11_of_31 : decode cX11_of 31 = .ok (.iload_n 1, 1) := by decide +kernel
theorem dX11_of_32 : decode cX11_of 32 = .ok (.invokevirtual 119, 3) := by decide +kernel
theorem dX11_of_35 : decode cX11_of 35 = .ok (.ifCond .ne 5, 3) := by decide +kernel
theorem dX11_of_38 : decode cX11_of 38 = .ok (.iconst (-1), 1) := by decide +kernel
theorem dX11_of_39 : decode cX11_of 39 = .ok (.ireturn, 1) := by decide +kernel
theorem dX11_of_40 : decode cX11_of 40 = .ok (.iload_n 2, 1) := by decide +kernel
theorem dX11_of_41 : decode cX11_of 41 = .ok (.tableswitch 57 10 12 #[27, 37, 47], 27) := by decide +kernel
theorem dX11_of_68 : decode cX11_of 68 = .ok (.aload_n 0, 1) := by decide +kernel
theorem dX11_of_69 : decode cX11_of 69 = .ok (.getfield 21, 3) := by decide +kernel
theorem dX11_of_72 : decode cX11_of 72 = .ok (.getfield 122, 3) := by decide +kernel
theorem dX11_of_75 : decode cX11_of 75 = .ok (.iload_n 1, 1) := by decide +kernel
theorem dX11_of_76 : decode cX11_of 76 = .ok (.iaload, 1) := by decide +kernel
theorem dX11_of_77 : decode cX11_of 77 = .ok (.ireturn, 1) := by decide +kernel
theorem dX11_of_78 : decode cX11_of 78 = .ok (.aload_n 0, 1) := by decide +kernel
theorem dX11_of_79 : decode cX11_of 79 = .ok (.getfield 21, 3) := by decide +kernel
theorem dX11_of_82 : decode cX11_of 82 = .ok (.getfield 125, 3) := by decide +kernel
theorem dX11_of_85 : decode cX11_of 85 = .ok (.iload_n 1, 1) := by decide +kernel
theorem dX11_of_86 : decode cX11_of 86 = .ok (.iaload, 1) := by decide +kernel
theorem dX11_of_87 : decode cX11_of 87 = .ok (.ireturn, 1) := by decide +kernel
theorem dX11_of_88 : decode cX11_of 88 = .ok (.aload_n 0, 1) := by decide +kernel
theorem dX11_of_89 : decode cX11_of 89 = .ok (.getfield 21, 3) := by decide +kernel
theorem dX11_of_92 : decode cX11_of 92 = .ok (.getfield 128, 3) := by decide +kernel
theorem dX11_of_95 : decode cX11_of 95 = .ok (.iload_n 1, 1) := by decide +kernel
theorem dX11_of_96 : decode cX11_of 96 = .ok (.iaload, 1) := by decide +kernel
theorem dX11_of_97 : decode cX11_of 97 = .ok (.ireturn, 1) := by decide +kernel
theorem dX11_of_98 : decode cX11_of 98 = .ok (.iconst (-1), 1) := by decide +kernel
theorem dX11_of_99 : decode cX11_of 99 = .ok (.ireturn, 1) := by decide +kernel
theorem dX11_ofBaker_0 : decode cX11_ofBaker 0 = .ok (.iload_n 2, 1) := by decide +kernel
theorem dX11_ofBaker_1 : decode cX11_ofBaker 1 = .ok (.tableswitch 57 0 2 #[27, 37, 47], 27) := by decide +kernel
theorem dX11_ofBaker_28 : decode cX11_ofBaker 28 = .ok (.aload_n 0, 1) := by decide +kernel
theorem dX11_ofBaker_29 : decode cX11_ofBaker 29 = .ok (.getfield 21, 3) := by decide +kernel
theorem dX11_ofBaker_32 : decode cX11_ofBaker 32 = .ok (.getfield 131, 3) := by decide +kernel
theorem dX11_ofBaker_35 : decode cX11_ofBaker 35 = .ok (.iload_n 1, 1) := by decide +kernel
theorem dX11_ofBaker_36 : decode cX11_ofBaker 36 = .ok (.iaload, 1) := by decide +kernel
theorem dX11_ofBaker_37 : decode cX11_ofBaker 37 = .ok (.ireturn, 1) := by decide +kernel
theorem dX11_ofBaker_38 : decode cX11_ofBaker 38 = .ok (.aload_n 0, 1) := by decide +kernel
theorem dX11_ofBaker_39 : decode cX11_ofBaker 39 = .ok (.getfield 28, 3) := by decide +kernel
theorem dX11_ofBaker_42 : decode cX11_ofBaker 42 = .ok (.iload_n 1, 1) := by decide +kernel
theorem dX11_ofBaker_43 : decode cX11_ofBaker 43 = .ok (.aaload, 1) := by decide +kernel
theorem dX11_ofBaker_44 : decode cX11_ofBaker 44 = .ok (.getfield 134, 3) := by decide +kernel
theorem dX11_ofBaker_47 : decode cX11_ofBaker 47 = .ok (.ireturn, 1) := by decide +kernel
theorem dX11_ofBaker_48 : decode cX11_ofBaker 48 = .ok (.aload_n 0, 1) := by decide +kernel
theorem dX11_ofBaker_49 : decode cX11_ofBaker 49 = .ok (.getfield 28, 3) := by decide +kernel
theorem dX11_ofBaker_52 : decode cX11_ofBaker 52 = .ok (.iload_n 1, 1) := by decide +kernel
theorem dX11_ofBaker_53 : decode cX11_ofBaker 53 = .ok (.aaload, 1) := by decide +kernel
theorem dX11_ofBaker_54 : decode cX11_ofBaker 54 = .ok (.invokevirtual 137, 3) := by decide +kernel
theorem dX11_ofBaker_57 : decode cX11_ofBaker 57 = .ok (.ireturn, 1) := by decide +kernel
theorem dX11_ofBaker_58 : decode cX11_ofBaker 58 = .ok (.aload_n 0, 1) := by decide +kernel
theorem dX11_ofBaker_59 : decode cX11_ofBaker 59 = .ok (.getfield 21, 3) := by decide +kernel
theorem dX11_ofBaker_62 : decode cX11_ofBaker 62 = .ok (.iload_n 1, 1) := by decide +kernel
theorem dX11_ofBaker_63 : decode cX11_ofBaker 63 = .ok (.invokevirtual 141, 3) := by decide +kernel
theorem dX11_ofBaker_66 : decode cX11_ofBaker 66 = .ok (.ireturn, 1) := by decide +kernel
theorem dX11_mix_0 : decode cX11_mix 0 = .ok (.iload_n 1, 1) := by decide +kernel
theorem dX11_mix_1 : decode cX11_mix 1 = .ok (.invokestatic 112, 3) := by decide +kernel
theorem dX11_mix_4 : decode cX11_mix 4 = .ok (.ifCond .eq 13, 3) := by decide +kernel
theorem dX11_mix_7 : decode cX11_mix 7 = .ok (.iload_n 3, 1) := by decide +kernel
theorem dX11_mix_8 : decode cX11_mix 8 = .ok (.ifCond .lt 9, 3) := by decide +kernel
theorem dX11_mix_11 : decode cX11_mix 11 = .ok (.iload_n 3, 1) := by decide +kernel
theorem dX11_mix_12 : decode cX11_mix 12 = .ok (.bipush 9, 2) := by decide +kernel
theorem dX11_mix_14 : decode cX11_mix 14 = .ok (.if_icmp .le 5, 3) := by decide +kernel
theorem dX11_mix_17 : decode cX11_mix 17 = .ok (.iconst (-1), 1) := by decide +kernel
theorem dX11_mix_18 : decode cX11_mix 18 = .ok (.ireturn, 1) := by decide +kernel
theorem dX11_mix_19 : decode cX11_mix 19 = .ok (.aload_n 0, 1) := by decide +kernel
theorem dX11_mix_20 : decode cX11_mix 20 = .ok (.getfield 28, 3) := by decide +kernel
theorem dX11_mix_23 : decode cX11_mix 23 = .ok (.iload_n 1, 1) := by decide +kernel
theorem dX11_mix_24 : decode cX11_mix 24 = .ok (.aaload, 1) := by decide +kernel
theorem dX11_mix_25 : decode cX11_mix 25 = .ok (.astore 4, 2) := by decide +kernel
theorem dX11_mix_27 : decode cX11_mix 27 = .ok (.iload_n 3, 1) := by decide +kernel
theorem dX11_mix_28 : decode cX11_mix 28 = .ok (.ifCond .ne 11, 3) := by decide +kernel
theorem dX11_mix_31 : decode cX11_mix 31 = .ok (.aload 4, 2) := by decide +kernel
theorem dX11_mix_33 : decode cX11_mix 33 = .ok (.iconst 0, 1) := by decide +kernel
theorem dX11_mix_34 : decode cX11_mix 34 = .ok (.putfield 134, 3) := by decide +kernel
theorem dX11_mix_37 : decode cX11_mix 37 = .ok (.iconst 0, 1) := by decide +kernel
theorem dX11_mix_38 : decode cX11_mix 38 = .ok (.ireturn, 1) := by decide +kernel
theorem dX11_mix_39 : decode cX11_mix 39 = .ok (.aload_n 0, 1) := by decide +kernel
theorem dX11_mix_40 : decode cX11_mix 40 = .ok (.getfield 21, 3) := by decide +kernel
theorem dX11_mix_43 : decode cX11_mix 43 = .ok (.iload_n 2, 1) := by decide +kernel
theorem dX11_mix_44 : decode cX11_mix 44 = .ok (.iload_n 1, 1) := by decide +kernel
theorem dX11_mix_45 : decode cX11_mix 45 = .ok (.aload_n 0, 1) := by decide +kernel
theorem dX11_mix_46 : decode cX11_mix 46 = .ok (.getfield 81, 3) := by decide +kernel
theorem dX11_mix_49 : decode cX11_mix 49 = .ok (.invokevirtual 145, 3) := by decide +kernel
theorem dX11_mix_52 : decode cX11_mix 52 = .ok (.ifCond .ne 5, 3) := by decide +kernel
theorem dX11_mix_55 : decode cX11_mix 55 = .ok (.iconst (-1), 1) := by decide +kernel
theorem dX11_mix_56 : decode cX11_mix 56 = .ok (.ireturn, 1) := by decide +kernel
theorem dX11_mix_57 : decode cX11_mix 57 = .ok (.aload 4, 2) := by decide +kernel
theorem dX11_mix_59 : decode cX11_mix 59 = .ok (.aload_n 0, 1) := by decide +kernel
theorem dX11_mix_60 : decode cX11_mix 60 = .ok (.getfield 81, 3) := by decide +kernel
theorem dX11_mix_63 : decode cX11_mix 63 = .ok (.iload_n 3, 1) := by decide +kernel
theorem dX11_mix_64 : decode cX11_mix 64 = .ok (.invokevirtual 149, 3) := by decide +kernel
theorem dX11_mix_67 : decode cX11_mix 67 = .ok (.ifCond .eq 11, 3) := by decide +kernel
theorem dX11_mix_70 : decode cX11_mix 70 = .ok (.aload 4, 2) := by decide +kernel
theorem dX11_mix_72 : decode cX11_mix 72 = .ok (.getfield 134, 3) := by decide +kernel
theorem dX11_mix_75 : decode cX11_mix 75 = .ok (.goto 5, 3) := by decide +kernel
theorem dX11_mix_78 : decode cX11_mix 78 = .ok (.bipush (-3), 2) := by decide +kernel
theorem dX11_mix_80 : decode cX11_mix 80 = .ok (.ireturn, 1) := by decide +kernel
theorem dX11_mixes_0 : decode cX11_mixes 0 = .ok (.iload_n 1, 1) := by decide +kernel
theorem dX11_mixes_1 : decode cX11_mixes 1 = .ok (.invokestatic 153, 3) := by decide +kernel
theorem dX11_mixes_4 : decode cX11_mixes 4 = .ok (.ifCond .eq 35, 3) := by decide +kernel
theorem dX11_mixes_7 : decode cX11_mixes 7 = .ok (.iload_n 3, 1) := by decide +kernel
theorem dX11_mixes_8 : decode cX11_mixes 8 = .ok (.iconst 1, 1) := by decide +kernel
theorem dX11_mixes_9 : decode cX11_mixes 9 = .ok (.if_icmp .lt 30, 3) := by decide +kernel
theorem dX11_mixes_12 : decode cX11_mixes 12 = .ok (.iload_n 3, 1) := by decide +kernel
theorem dX11_mixes_13 : decode cX11_mixes 13 = .ok (.bipush 10, 2) := by decide +kernel
theorem dX11_mixes_15 : decode cX11_mixes 15 = .ok (.idiv, 1) := by decide +kernel
theorem dX11_mixes_16 : decode cX11_mixes 16 = .ok (.invokestatic 112, 3) := by decide +kernel
theorem dX11_mixes_19 : decode cX11_mixes 19 = .ok (.ifCond .eq 20, 3) := by decide +kernel
theorem dX11_mixes_22 : decode cX11_mixes 22 = .ok (.iload_n 3, 1) := by decide +kernel
theorem dX11_mixes_23 : decode cX11_mixes 23 = .ok (.bipush 10, 2) := by decide +kernel
theorem dX11_mixes_25 : decode cX11_mixes 25 = .ok (.irem, 1) := by decide +kernel
theorem dX11_mixes_26 : decode cX11_mixes 26 = .ok (.iconst 1, 1) := by decide +kernel
theorem dX11_mixes_27 : decode cX11_mixes 27 = .ok (.if_icmp .lt 12, 3) := by decide +kernel
theorem dX11_mixes_30 : decode cX11_mixes 30 = .ok (.iload_n 3, 1) := by decide +kernel
theorem dX11_mixes_31 : decode cX11_mixes 31 = .ok (.bipush 10, 2) := by decide +kernel
theorem dX11_mixes_33 : decode cX11_mixes 33 = .ok (.irem, 1) := by decide +kernel
theorem dX11_mixes_34 : decode cX11_mixes 34 = .ok (.bipush 8, 2) := by decide +kernel
theorem dX11_mixes_36 : decode cX11_mixes 36 = .ok (.if_icmp .le 5, 3) := by decide +kernel
theorem dX11_mixes_39 : decode cX11_mixes 39 = .ok (.iconst (-1), 1) := by decide +kernel
theorem dX11_mixes_40 : decode cX11_mixes 40 = .ok (.ireturn, 1) := by decide +kernel
theorem dX11_mixes_41 : decode cX11_mixes 41 = .ok (.aload_n 0, 1) := by decide +kernel
theorem dX11_mixes_42 : decode cX11_mixes 42 = .ok (.getfield 76, 3) := by decide +kernel
theorem dX11_mixes_45 : decode cX11_mixes 45 = .ok (.iload_n 1, 1) := by decide +kernel
theorem dX11_mixes_46 : decode cX11_mixes 46 = .ok (.aaload, 1) := by decide +kernel
theorem dX11_mixes_47 : decode cX11_mixes 47 = .ok (.astore 4, 2) := by decide +kernel
theorem dX11_mixes_49 : decode cX11_mixes 49 = .ok (.aload 4, 2) := by decide +kernel
theorem dX11_mixes_51 : decode cX11_mixes 51 = .ok (.getfield 156, 3) := by decide +kernel
theorem dX11_mixes_54 : decode cX11_mixes 54 = .ok (.ifCond .ne 5, 3) := by decide +kernel
theorem dX11_mixes_57 : decode cX11_mixes 57 = .ok (.iconst 0, 1) := by decide +kernel
theorem dX11_mixes_58 : decode cX11_mixes 58 = .ok (.ireturn, 1) := by decide +kernel
theorem dX11_mixes_59 : decode cX11_mixes 59 = .ok (.aload 4, 2) := by decide +kernel
theorem dX11_mixes_61 : decode cX11_mixes 61 = .ok (.getfield 156, 3) := by decide +kernel
theorem dX11_mixes_64 : decode cX11_mixes 64 = .ok (.iconst 2, 1) := by decide +kernel
theorem dX11_mixes_65 : decode cX11_mixes 65 = .ok (.if_icmp .ne 12, 3) := by decide +kernel
theorem dX11_mixes_68 : decode cX11_mixes 68 = .ok (.aload 4, 2) := by decide +kernel
theorem dX11_mixes_70 : decode cX11_mixes 70 = .ok (.getfield 159, 3) := by decide +kernel
theorem dX11_mixes_73 : decode cX11_mixes 73 = .ok (.iconst 2, 1) := by decide +kernel
theorem dX11_mixes_74 : decode cX11_mixes 74 = .ok (.if_icmp .eq 6, 3) := by decide +kernel
theorem dX11_mixes_77 : decode cX11_mixes 77 = .ok (.bipush (-12), 2) := by decide +kernel
theorem dX11_mixes_79 : decode cX11_mixes 79 = .ok (.ireturn, 1) := by decide +kernel
theorem dX11_mixes_80 : decode cX11_mixes 80 = .ok (.iload_n 3, 1) := by decide +kernel
theorem dX11_mixes_81 : decode cX11_mixes 81 = .ok (.bipush 10, 2) := by decide +kernel
theorem dX11_mixes_83 : decode cX11_mixes 83 = .ok (.idiv, 1) := by decide +kernel
theorem dX11_mixes_84 : decode cX11_mixes 84 = .ok (.istore 5, 2) := by decide +kernel
theorem dX11_mixes_86 : decode cX11_mixes 86 = .ok (.iconst 0, 1) := by decide +kernel
theorem dX11_mixes_87 : decode cX11_mixes 87 = .ok (.istore 6, 2) := by decide +kernel
theorem dX11_mixes_89 : decode cX11_mixes 89 = .ok (.iconst 0, 1) := by decide +kernel
theorem dX11_mixes_90 : decode cX11_mixes 90 = .ok (.istore 7, 2) := by decide +kernel
theorem dX11_mixes_92 : decode cX11_mixes 92 = .ok (.iload 7, 2) := by decide +kernel
theorem dX11_mixes_94 : decode cX11_mixes 94 = .ok (.iload_n 3, 1) := by decide +kernel
theorem dX11_mixes_95 : decode cX11_mixes 95 = .ok (.bipush 10, 2) := by decide +kernel
theorem dX11_mixes_97 : decode cX11_mixes 97 = .ok (.irem, 1) := by decide +kernel
theorem dX11_mixes_98 : decode cX11_mixes 98 = .ok (.if_icmp .ge 26, 3) := by decide +kernel
theorem dX11_mixes_101 : decode cX11_mixes 101 = .ok (.aload_n 0, 1) := by decide +kernel
theorem dX11_mixes_102 : decode cX11_mixes 102 = .ok (.aload 4, 2) := by decide +kernel
theorem dX11_mixes_104 : decode cX11_mixes 104 = .ok (.iload_n 2, 1) := by decide +kernel
theorem dX11_mixes_105 : decode cX11_mixes 105 = .ok (.iload 7, 2) := by decide +kernel
theorem dX11_mixes_107 : decode cX11_mixes 107 = .ok (.iload 5, 2) := by decide +kernel
theorem dX11_mixes_109 : decode cX11_mixes 109 = .ok (.invokevirtual 162, 3) := by decide +kernel
theorem dX11_mixes_112 : decode cX11_mixes 112 = .ok (.ifCond .eq 12, 3) := by decide +kernel
theorem dX11_mixes_115 : decode cX11_mixes 115 = .ok (.iinc 6 1, 3) := by decide +kernel
theorem dX11_mixes_118 : decode cX11_mixes 118 = .ok (.iinc 7 1, 3) := by decide +kernel
theorem dX11_mixes_121 : decode cX11_mixes 121 = .ok (.goto (-29), 3) := by decide +kernel
theorem dX11_mixes_124 : decode cX11_mixes 124 = .ok (.iload 6, 2) := by decide +kernel
theorem dX11_mixes_126 : decode cX11_mixes 126 = .ok (.ireturn, 1) := by decide +kernel
theorem dX11_addFromRow_0 : decode cX11_addFromRow 0 = .ok (.iload_n 2, 1) := by decide +kernel
theorem dX11_addFromRow_1 : decode cX11_addFromRow 1 = .ok (.ifCond .lt 11, 3) := by decide +kernel
theorem dX11_addFromRow_4 : decode cX11_addFromRow 4 = .ok (.iload_n 2, 1) := by decide +kernel
theorem dX11_addFromRow_5 : decode cX11_addFromRow 5 = .ok (.aload_n 1, 1) := by decide +kernel
theorem dX11_addFromRow_6 : decode cX11_addFromRow 6 = .ok (.getfield 166, 3) := by decide +kernel
theorem dX11_addFromRow_9 : decode cX11_addFromRow 9 = .ok (.if_icmp .lt 5, 3) := by decide +kernel
theorem dX11_addFromRow_12 : decode cX11_addFromRow 12 = .ok (.iconst 0, 1) := by decide +kernel
theorem dX11_addFromRow_13 : decode cX11_addFromRow 13 = .ok (.ireturn, 1) := by decide +kernel
theorem dX11_addFromRow_14 : decode cX11_addFromRow 14 = .ok (.iload_n 2, 1) := by decide +kernel
theorem dX11_addFromRow_15 : decode cX11_addFromRow 15 = .ok (.iconst 2, 1) := by decide +kernel
theorem dX11_addFromRow_16 : decode cX11_addFromRow 16 = .ok (.iload_n 3, 1) := by decide +kernel
theorem dX11_addFromRow_17 : decode cX11_addFromRow 17 = .ok (.imul, 1) := by decide +kernel
theorem dX11_addFromRow_18 : decode cX11_addFromRow 18 = .ok (.iadd, 1) := by decide +kernel
theorem dX11_addFromRow_19 : decode cX11_addFromRow 19 = .ok (.istore 5, 2) := by decide +kernel
theorem dX11_addFromRow_21 : decode cX11_addFromRow 21 = .ok (.iload 5, 2) := by decide +kernel
theorem dX11_addFromRow_23 : decode cX11_addFromRow 23 = .ok (.iconst 1, 1) := by decide +kernel
theorem dX11_addFromRow_24 : decode cX11_addFromRow 24 = .ok (.iadd, 1) := by decide +kernel
theorem dX11_addFromRow_25 : decode cX11_addFromRow 25 = .ok (.aload_n 1, 1) := by decide +kernel
theorem dX11_addFromRow_26 : decode cX11_addFromRow 26 = .ok (.getfield 166, 3) := by decide +kernel
theorem dX11_addFromRow_29 : decode cX11_addFromRow 29 = .ok (.if_icmp .lt 5, 3) := by decide +kernel
theorem dX11_addFromRow_32 : decode cX11_addFromRow 32 = .ok (.iconst 0, 1) := by decide +kernel
theorem dX11_addFromRow_33 : decode cX11_addFromRow 33 = .ok (.ireturn, 1) := by decide +kernel
theorem dX11_addFromRow_34 : decode cX11_addFromRow 34 = .ok (.aload_n 1, 1) := by decide +kernel
theorem dX11_addFromRow_35 : decode cX11_addFromRow 35 = .ok (.getfield 169, 3) := by decide +kernel
theorem dX11_addFromRow_38 : decode cX11_addFromRow 38 = .ok (.iload 5, 2) := by decide +kernel
theorem dX11_addFromRow_40 : decode cX11_addFromRow 40 = .ok (.iconst 1, 1) := by decide +kernel
theorem dX11_addFromRow_41 : decode cX11_addFromRow 41 = .ok (.iadd, 1) := by decide +kernel
theorem dX11_addFromRow_42 : decode cX11_addFromRow 42 = .ok (.laload, 1) := by decide +kernel
theorem dX11_addFromRow_43 : decode cX11_addFromRow 43 = .ok (.lstore 6, 2) := by decide +kernel
theorem dX11_addFromRow_45 : decode cX11_addFromRow 45 = .ok (.lload 6, 2) := by decide +kernel
theorem dX11_addFromRow_47 : decode cX11_addFromRow 47 = .ok (.lconst 1, 1) := by decide +kernel
theorem dX11_addFromRow_48 : decode cX11_addFromRow 48 = .ok (.lcmp, 1) := by decide +kernel
theorem dX11_addFromRow_49 : decode cX11_addFromRow 49 = .ok (.ifCond .lt 12, 3) := by decide +kernel
theorem dX11_addFromRow_52 : decode cX11_addFromRow 52 = .ok (.lload 6, 2) := by decide +kernel
theorem dX11_addFromRow_54 : decode cX11_addFromRow 54 = .ok (.ldc2_w 173, 3) := by decide +kernel
theorem dX11_addFromRow_57 : decode cX11_addFromRow 57 = .ok (.lcmp, 1) := by decide +kernel
theorem dX11_addFromRow_58 : decode cX11_addFromRow 58 = .ok (.ifCond .le 5, 3) := by decide +kernel
theorem dX11_addFromRow_61 : decode cX11_addFromRow 61 = .ok (.iconst 0, 1) := by decide +kernel
theorem dX11_addFromRow_62 : decode cX11_addFromRow 62 = .ok (.ireturn, 1) := by decide +kernel
theorem dX11_addFromRow_63 : decode cX11_addFromRow 63 = .ok (.aload_n 0, 1) := by decide +kernel
theorem dX11_addFromRow_64 : decode cX11_addFromRow 64 = .ok (.getfield 21, 3) := by decide +kernel
theorem dX11_addFromRow_67 : decode cX11_addFromRow 67 = .ok (.aload_n 1, 1) := by decide +kernel
theorem dX11_addFromRow_68 : decode cX11_addFromRow 68 = .ok (.getfield 169, 3) := by decide +kernel
theorem dX11_addFromRow_71 : decode cX11_addFromRow 71 = .ok (.iload 5, 2) := by decide +kernel
theorem dX11_addFromRow_73 : decode cX11_addFromRow 73 = .ok (.laload, 1) := by decide +kernel
theorem dX11_addFromRow_74 : decode cX11_addFromRow 74 = .ok (.l2i, 1) := by decide +kernel
theorem dX11_addFromRow_75 : decode cX11_addFromRow 75 = .ok (.iload 4, 2) := by decide +kernel
theorem dX11_addFromRow_77 : decode cX11_addFromRow 77 = .ok (.aload_n 0, 1) := by decide +kernel
theorem dX11_addFromRow_78 : decode cX11_addFromRow 78 = .ok (.getfield 81, 3) := by decide +kernel
theorem dX11_addFromRow_81 : decode cX11_addFromRow 81 = .ok (.invokevirtual 145, 3) := by decide +kernel
theorem dX11_addFromRow_84 : decode cX11_addFromRow 84 = .ok (.ifCond .eq 27, 3) := by decide +kernel
theorem dX11_addFromRow_87 : decode cX11_addFromRow 87 = .ok (.aload_n 0, 1) := by decide +kernel
theorem dX11_addFromRow_88 : decode cX11_addFromRow 88 = .ok (.getfield 28, 3) := by decide +kernel
theorem dX11_addFromRow_91 : decode cX11_addFromRow 91 = .ok (.iload 4, 2) := by decide +kernel
theorem dX11_addFromRow_93 : decode cX11_addFromRow 93 = .ok (.aaload, 1) := by decide +kernel
theorem dX11_addFromRow_94 : decode cX11_addFromRow 94 = .ok (.aload_n 0, 1) := by decide +kernel
theorem dX11_addFromRow_95 : decode cX11_addFromRow 95 = .ok (.getfield 81, 3) := by decide +kernel
theorem dX11_addFromRow_98 : decode cX11_addFromRow 98 = .ok (.lload 6, 2) := by decide +kernel
theorem dX11_addFromRow_100 : decode cX11_addFromRow 100 = .ok (.l2i, 1) := by decide +kernel
theorem dX11_addFromRow_101 : decode cX11_addFromRow 101 = .ok (.invokevirtual 149, 3) := by decide +kernel
theorem dX11_addFromRow_104 : decode cX11_addFromRow 104 = .ok (.ifCond .eq 7, 3) := by decide +kernel
theorem dX11_addFromRow_107 : decode cX11_addFromRow 107 = .ok (.iconst 1, 1) := by decide +kernel
theorem dX11_addFromRow_108 : decode cX11_addFromRow 108 = .ok (.goto 4, 3) := by decide +kernel
theorem dX11_addFromRow_111 : decode cX11_addFromRow 111 = .ok (.iconst 0, 1) := by decide +kernel
theorem dX11_addFromRow_112 : decode cX11_addFromRow 112 = .ok (.ireturn, 1) := by decide +kernel
theorem dX11_feed_0 : decode cX11_feed 0 = .ok (.iload_n 1, 1) := by decide +kernel
theorem dX11_feed_1 : decode cX11_feed 1 = .ok (.ifCond .lt 10, 3) := by decide +kernel
theorem dX11_feed_4 : decode cX11_feed 4 = .ok (.iload_n 1, 1) := by decide +kernel
theorem dX11_feed_5 : decode cX11_feed 5 = .ok (.sipush 255, 3) := by decide +kernel
theorem dX11_feed_8 : decode cX11_feed 8 = .ok (.if_icmp .le 5, 3) := by decide +kernel
theorem dX11_feed_11 : decode cX11_feed 11 = .ok (.iconst (-1), 1) := by decide +kernel
theorem dX11_feed_12 : decode cX11_feed 12 = .ok (.ireturn, 1) := by decide +kernel
theorem dX11_feed_13 : decode cX11_feed 13 = .ok (.aload_n 0, 1) := by decide +kernel
theorem dX11_feed_14 : decode cX11_feed 14 = .ok (.getfield 10, 3) := by decide +kernel
theorem dX11_feed_17 : decode cX11_feed 17 = .ok (.iload_n 1, 1) := by decide +kernel
theorem dX11_feed_18 : decode cX11_feed 18 = .ok (.invokevirtual 175, 3) := by decide +kernel
theorem dX11_feed_21 : decode cX11_feed 21 = .ok (.ifCond .eq 13, 3) := by decide +kernel
theorem dX11_feed_24 : decode cX11_feed 24 = .ok (.aload_n 0, 1) := by decide +kernel
theorem dX11_feed_25 : decode cX11_feed 25 = .ok (.getfield 10, 3) := by decide +kernel
theorem dX11_feed_28 : decode cX11_feed 28 = .ok (.getfield 178, 3) := by decide +kernel
theorem dX11_feed_31 : decode cX11_feed 31 = .ok (.goto 5, 3) := by decide +kernel
theorem dX11_feed_34 : decode cX11_feed 34 = .ok (.bipush (-3), 2) := by decide +kernel
theorem dX11_feed_36 : decode cX11_feed 36 = .ok (.ireturn, 1) := by decide +kernel
theorem dX11_law_0 : decode cX11_law 0 = .ok (.aload_n 0, 1) := by decide +kernel
theorem dX11_law_1 : decode cX11_law 1 = .ok (.getfield 10, 3) := by decide +kernel
theorem dX11_law_4 : decode cX11_law 4 = .ok (.invokevirtual 179, 3) := by decide +kernel
theorem dX11_law_7 : decode cX11_law 7 = .ok (.istore_n 1, 1) := by decide +kernel
theorem dX11_law_8 : decode cX11_law 8 = .ok (.iload_n 1, 1) := by decide +kernel
theorem dX11_law_9 : decode cX11_law 9 = .ok (.ifCond .lt 8, 3) := by decide +kernel
theorem dX11_law_12 : decode cX11_law 12 = .ok (.bipush (-100), 2) := by decide +kernel
theorem dX11_law_14 : decode cX11_law 14 = .ok (.iload_n 1, 1) := by decide +kernel
theorem dX11_law_15 : decode cX11_law 15 = .ok (.isub, 1) := by decide +kernel
theorem dX11_law_16 : decode cX11_law 16 = .ok (.ireturn, 1) := by decide +kernel
theorem dX11_law_17 : decode cX11_law 17 = .ok (.aload_n 0, 1) := by decide +kernel
theorem dX11_law_18 : decode cX11_law 18 = .ok (.getfield 21, 3) := by decide +kernel
theorem dX11_law_21 : decode cX11_law 21 = .ok (.invokevirtual 181, 3) := by decide +kernel
theorem dX11_law_24 : decode cX11_law 24 = .ok (.iconst 1, 1) := by decide +kernel
theorem dX11_law_25 : decode cX11_law 25 = .ok (.ireturn, 1) := by decide +kernel
theorem dX11_won_0 : decode cX11_won 0 = .ok (.aload_n 0, 1) := by decide +kernel
theorem dX11_won_1 : decode cX11_won 1 = .ok (.getfield 21, 3) := by decide +kernel
theorem dX11_won_4 : decode cX11_won 4 = .ok (.iload_n 1, 1) := by decide +kernel
theorem dX11_won_5 : decode cX11_won 5 = .ok (.invokevirtual 119, 3) := by decide +kernel
theorem dX11_won_8 : decode cX11_won 8 = .ok (.ifCond .eq 13, 3) := by decide +kernel
theorem dX11_won_11 : decode cX11_won 11 = .ok (.iload_n 2, 1) := by decide +kernel
theorem dX11_won_12 : decode cX11_won 12 = .ok (.ifCond .lt 9, 3) := by decide +kernel
theorem dX11_won_15 : decode cX11_won 15 = .ok (.iload_n 2, 1) := by decide +kernel
theorem dX11_won_16 : decode cX11_won 16 = .ok (.bipush 99, 2) := by decide +kernel
theorem dX11_won_18 : decode cX11_won 18 = .ok (.if_icmp .le 5, 3) := by decide +kernel
theorem dX11_won_21 : decode cX11_won 21 = .ok (.iconst (-1), 1) := by decide +kernel
theorem dX11_won_22 : decode cX11_won 22 = .ok (.ireturn, 1) := by decide +kernel
theorem dX11_won_23 : decode cX11_won 23 = .ok (.aload_n 0, 1) := by decide +kernel
theorem dX11_won_24 : decode cX11_won 24 = .ok (.getfield 21, 3) := by decide +kernel
theorem dX11_won_27 : decode cX11_won 27 = .ok (.iload_n 1, 1) := by decide +kernel
theorem dX11_won_28 : decode cX11_won 28 = .ok (.iload_n 2, 1) := by decide +kernel
theorem dX11_won_29 : decode cX11_won 29 = .ok (.bipush 10, 2) := by decide +kernel
theorem dX11_won_31 : decode cX11_won 31 = .ok (.idiv, 1) := by decide +kernel
theorem dX11_won_32 : decode cX11_won 32 = .ok (.iload_n 2, 1) := by decide +kernel
theorem dX11_won_33 : decode cX11_won 33 = .ok (.bipush 10, 2) := by decide +kernel
theorem dX11_won_35 : decode cX11_won 35 = .ok (.irem, 1) := by decide +kernel
theorem dX11_won_36 : decode cX11_won 36 = .ok (.invokevirtual 184, 3) := by decide +kernel
theorem dX11_won_39 : decode cX11_won 39 = .ok (.istore_n 3, 1) := by decide +kernel
theorem dX11_won_40 : decode cX11_won 40 = .ok (.iload_n 3, 1) := by decide +kernel
theorem dX11_won_41 : decode cX11_won 41 = .ok (.ifCond .le 7, 3) := by decide +kernel
theorem dX11_won_44 : decode cX11_won 44 = .ok (.iconst 1, 1) := by decide +kernel
theorem dX11_won_45 : decode cX11_won 45 = .ok (.goto 12, 3) := by decide +kernel
theorem dX11_won_48 : decode cX11_won 48 = .ok (.iload_n 3, 1) := by decide +kernel
theorem dX11_won_49 : decode cX11_won 49 = .ok (.ifCond .ge 7, 3) := by decide +kernel
theorem dX11_won_52 : decode cX11_won 52 = .ok (.iconst 2, 1) := by decide +kernel
theorem dX11_won_53 : decode cX11_won 53 = .ok (.goto 4, 3) := by decide +kernel
theorem dX11_won_56 : decode cX11_won 56 = .ok (.iconst 0, 1) := by decide +kernel
theorem dX11_won_57 : decode cX11_won 57 = .ok (.ireturn, 1) := by decide +kernel
theorem dX11_score_0 : decode cX11_score 0 = .ok (.aload_n 0, 1) := by decide +kernel
theorem dX11_score_1 : decode cX11_score 1 = .ok (.getfield 21, 3) := by decide +kernel
theorem dX11_score_4 : decode cX11_score 4 = .ok (.iload_n 1, 1) := by decide +kernel
theorem dX11_score_5 : decode cX11_score 5 = .ok (.iconst 0, 1) := by decide +kernel
theorem dX11_score_6 : decode cX11_score 6 = .ok (.aload_n 0, 1) := by decide +kernel
theorem dX11_score_7 : decode cX11_score 7 = .ok (.getfield 81, 3) := by decide +kernel
theorem dX11_score_10 : decode cX11_score 10 = .ok (.invokevirtual 145, 3) := by decide +kernel
theorem dX11_score_13 : decode cX11_score 13 = .ok (.ifCond .eq 19, 3) := by decide +kernel
theorem dX11_score_16 : decode cX11_score 16 = .ok (.aload_n 0, 1) := by decide +kernel
theorem dX11_score_17 : decode cX11_score 17 = .ok (.getfield 21, 3) := by decide +kernel
theorem dX11_score_20 : decode cX11_score 20 = .ok (.iload_n 2, 1) := by decide +kernel
theorem dX11_score_21 : decode cX11_score 21 = .ok (.iconst 1, 1) := by decide +kernel
theorem dX11_score_22 : decode cX11_score 22 = .ok (.aload_n 0, 1) := by decide +kernel
theorem dX11_score_23 : decode cX11_score 23 = .ok (.getfield 85, 3) := by decide +kernel
theorem dX11_score_26 : decode cX11_score 26 = .ok (.invokevirtual 145, 3) := by decide +kernel
theorem dX11_score_29 : decode cX11_score 29 = .ok (.ifCond .ne 6, 3) := by decide +kernel
theorem dX11_score_32 : decode cX11_score 32 = .ok (.ldc 187, 2) := by decide +kernel
theorem dX11_score_34 : decode cX11_score 34 = .ok (.ireturn, 1) := by decide +kernel
theorem dX11_score_35 : decode cX11_score 35 = .ok (.aload_n 0, 1) := by decide +kernel
theorem dX11_score_36 : decode cX11_score 36 = .ok (.getfield 21, 3) := by decide +kernel
theorem dX11_score_39 : decode cX11_score 39 = .ok (.invokevirtual 188, 3) := by decide +kernel
theorem dX11_score_42 : decode cX11_score 42 = .ok (.aload_n 0, 1) := by decide +kernel
theorem dX11_score_43 : decode cX11_score 43 = .ok (.getfield 21, 3) := by decide +kernel
theorem dX11_score_46 : decode cX11_score 46 = .ok (.aload_n 0, 1) := by decide +kernel
theorem dX11_score_47 : decode cX11_score 47 = .ok (.getfield 81, 3) := by decide +kernel
theorem dX11_score_50 : decode cX11_score 50 = .ok (.aload_n 0, 1) := by decide +kernel
theorem dX11_score_51 : decode cX11_score 51 = .ok (.getfield 85, 3) := by decide +kernel
theorem dX11_score_54 : decode cX11_score 54 = .ok (.invokevirtual 191, 3) := by decide +kernel
theorem dX11_score_57 : decode cX11_score 57 = .ok (.ireturn, 1) := by decide +kernel
theorem dX11_mean_0 : decode cX11_mean 0 = .ok (.aload_n 0, 1) := by decide +kernel
theorem dX11_mean_1 : decode cX11_mean 1 = .ok (.iconst 0, 1) := by decide +kernel
theorem dX11_mean_2 : decode cX11_mean 2 = .ok (.iload_n 1, 1) := by decide +kernel
theorem dX11_mean_3 : decode cX11_mean 3 = .ok (.invokevirtual 195, 3) := by decide +kernel
theorem dX11_mean_6 : decode cX11_mean 6 = .ok (.lreturn, 1) := by decide +kernel
theorem dX11_best_0 : decode cX11_best 0 = .ok (.iload_n 1, 1) := by decide +kernel
theorem dX11_best_1 : decode cX11_best 1 = .ok (.invokestatic 112, 3) := by decide +kernel
theorem dX11_best_4 : decode cX11_best 4 = .ok (.ifCond .eq 14, 3) := by decide +kernel
theorem dX11_best_7 : decode cX11_best 7 = .ok (.aload_n 0, 1) := by decide +kernel
theorem dX11_best_8 : decode cX11_best 8 = .ok (.getfield 40, 3) := by decide +kernel
theorem dX11_best_11 : decode cX11_best 11 = .ok (.iload_n 1, 1) := by decide +kernel
theorem dX11_best_12 : decode cX11_best 12 = .ok (.invokevirtual 199, 3) := by decide +kernel
theorem dX11_best_15 : decode cX11_best 15 = .ok (.goto 4, 3) := by decide +kernel
theorem dX11_best_18 : decode cX11_best 18 = .ok (.iconst (-1), 1) := by decide +kernel
theorem dX11_best_19 : decode cX11_best 19 = .ok (.ireturn, 1) := by decide +kernel
theorem dX11_line_0 : decode cX11_line 0 = .ok (.iload_n 1, 1) := by decide +kernel
theorem dX11_line_1 : decode cX11_line 1 = .ok (.invokestatic 112, 3) := by decide +kernel
theorem dX11_line_4 : decode cX11_line 4 = .ok (.ifCond .eq 21, 3) := by decide +kernel
theorem dX11_line_7 : decode cX11_line 7 = .ok (.iload_n 2, 1) := by decide +kernel
theorem dX11_line_8 : decode cX11_line 8 = .ok (.iconst (-1), 1) := by decide +kernel
theorem dX11_line_9 : decode cX11_line 9 = .ok (.if_icmp .lt 16, 3) := by decide +kernel
theorem dX11_line_12 : decode cX11_line 12 = .ok (.iload_n 2, 1) := by decide +kernel
theorem dX11_line_13 : decode cX11_line 13 = .ok (.bipush 9, 2) := by decide +kernel
theorem dX11_line_15 : decode cX11_line 15 = .ok (.if_icmp .gt 10, 3) := by decide +kernel
theorem dX11_line_18 : decode cX11_line 18 = .ok (.iload_n 3, 1) := by decide +kernel
theorem dX11_line_19 : decode cX11_line 19 = .ok (.invokestatic 202, 3) := by decide +kernel
theorem dX11_line_22 : decode cX11_line 22 = .ok (.ifCond .ne 7, 3) := by decide +kernel
theorem dX11_line_25 : decode cX11_line 25 = .ok (.ldc2_w 207, 3) := by decide +kernel
theorem dX11_line_28 : decode cX11_line 28 = .ok (.lreturn, 1) := by decide +kernel
theorem dX11_line_29 : decode cX11_line 29 = .ok (.iload_n 2, 1) := by decide +kernel
theorem dX11_line_30 : decode cX11_line 30 = .ok (.ifCond .ge 15, 3) := by decide +kernel
theorem dX11_line_33 : decode cX11_line 33 = .ok (.aload_n 0, 1) := by decide +kernel
theorem dX11_line_34 : decode cX11_line 34 = .ok (.getfield 21, 3) := by decide +kernel
theorem dX11_line_37 : decode cX11_line 37 = .ok (.getfield 131, 3) := by decide +kernel
theorem dX11_line_40 : decode cX11_line 40 = .ok (.iload_n 1, 1) := by decide +kernel
theorem dX11_line_41 : decode cX11_line 41 = .ok (.iaload, 1) := by decide +kernel
theorem dX11_line_42 : decode cX11_line 42 = .ok (.goto 4, 3) := by decide +kernel
theorem dX11_line_45 : decode cX11_line 45 = .ok (.iload_n 2, 1) := by decide +kernel
theorem dX11_line_46 : decode cX11_line 46 = .ok (.istore 4, 2) := by decide +kernel
theorem dX11_line_48 : decode cX11_line 48 = .ok (.aload_n 0, 1) := by decide +kernel
theorem dX11_line_49 : decode cX11_line 49 = .ok (.getfield 40, 3) := by decide +kernel
theorem dX11_line_52 : decode cX11_line 52 = .ok (.iload_n 1, 1) := by decide +kernel
theorem dX11_line_53 : decode cX11_line 53 = .ok (.iload 4, 2) := by decide +kernel
theorem dX11_line_55 : decode cX11_line 55 = .ok (.invokevirtual 209, 3) := by decide +kernel
theorem dX11_line_58 : decode cX11_line 58 = .ok (.i2l, 1) := by decide +kernel
theorem dX11_line_59 : decode cX11_line 59 = .ok (.aload_n 0, 1) := by decide +kernel
theorem dX11_line_60 : decode cX11_line 60 = .ok (.getfield 28, 3) := by decide +kernel
theorem dX11_line_63 : decode cX11_line 63 = .ok (.iconst 1, 1) := by decide +kernel
theorem dX11_line_64 : decode cX11_line 64 = .ok (.iload_n 1, 1) := by decide +kernel
theorem dX11_line_65 : decode cX11_line 65 = .ok (.isub, 1) := by decide +kernel
theorem dX11_line_66 : decode cX11_line 66 = .ok (.aaload, 1) := by decide +kernel
theorem dX11_line_67 : decode cX11_line 67 = .ok (.invokevirtual 212, 3) := by decide +kernel
theorem dX11_line_70 : decode cX11_line 70 = .ok (.i2l, 1) := by decide +kernel
theorem dX11_line_71 : decode cX11_line 71 = .ok (.iload_n 3, 1) := by decide +kernel
theorem dX11_line_72 : decode cX11_line 72 = .ok (.invokestatic 215, 3) := by decide +kernel
theorem dX11_line_75 : decode cX11_line 75 = .ok (.lreturn, 1) := by decide +kernel
theorem dX11_spy_0 : decode cX11_spy 0 = .ok (.aload_n 0, 1) := by decide +kernel
theorem dX11_spy_1 : decode cX11_spy 1 = .ok (.getfield 21, 3) := by decide +kernel
theorem dX11_spy_4 : decode cX11_spy 4 = .ok (.iload_n 1, 1) := by decide +kernel
theorem dX11_spy_5 : decode cX11_spy 5 = .ok (.invokevirtual 119, 3) := by decide +kernel
theorem dX11_spy_8 : decode cX11_spy 8 = .ok (.ifCond .eq 10, 3) := by decide +kernel
theorem dX11_spy_11 : decode cX11_spy 11 = .ok (.iload_n 2, 1) := by decide +kernel
theorem dX11_spy_12 : decode cX11_spy 12 = .ok (.invokestatic 202, 3) := by decide +kernel
theorem dX11_spy_15 : decode cX11_spy 15 = .ok (.ifCond .ne 7, 3) := by decide +kernel
theorem dX11_spy_18 : decode cX11_spy 18 = .ok (.ldc2_w 207, 3) := by decide +kernel
theorem dX11_spy_21 : decode cX11_spy 21 = .ok (.lreturn, 1) := by decide +kernel
theorem dX11_spy_22 : decode cX11_spy 22 = .ok (.aload_n 0, 1) := by decide +kernel
theorem dX11_spy_23 : decode cX11_spy 23 = .ok (.getfield 40, 3) := by decide +kernel
theorem dX11_spy_26 : decode cX11_spy 26 = .ok (.iload_n 1, 1) := by decide +kernel
theorem dX11_spy_27 : decode cX11_spy 27 = .ok (.invokevirtual 219, 3) := by decide +kernel
theorem dX11_spy_30 : decode cX11_spy 30 = .ok (.i2l, 1) := by decide +kernel
theorem dX11_spy_31 : decode cX11_spy 31 = .ok (.aload_n 0, 1) := by decide +kernel
theorem dX11_spy_32 : decode cX11_spy 32 = .ok (.getfield 28, 3) := by decide +kernel
theorem dX11_spy_35 : decode cX11_spy 35 = .ok (.iconst 1, 1) := by decide +kernel
theorem dX11_spy_36 : decode cX11_spy 36 = .ok (.aaload, 1) := by decide +kernel
theorem dX11_spy_37 : decode cX11_spy 37 = .ok (.invokevirtual 212, 3) := by decide +kernel
theorem dX11_spy_40 : decode cX11_spy 40 = .ok (.i2l, 1) := by decide +kernel
theorem dX11_spy_41 : decode cX11_spy 41 = .ok (.iload_n 2, 1) := by decide +kernel
theorem dX11_spy_42 : decode cX11_spy 42 = .ok (.invokestatic 215, 3) := by decide +kernel
theorem dX11_spy_45 : decode cX11_spy 45 = .ok (.lreturn, 1) := by decide +kernel
theorem dX11_broke_0 : decode cX11_broke 0 = .ok (.iload_n 1, 1) := by decide +kernel
theorem dX11_broke_1 : decode cX11_broke 1 = .ok (.ifCond .lt 16, 3) := by decide +kernel
theorem dX11_broke_4 : decode cX11_broke 4 = .ok (.iload_n 1, 1) := by decide +kernel
theorem dX11_broke_5 : decode cX11_broke 5 = .ok (.bipush 12, 2) := by decide +kernel
theorem dX11_broke_7 : decode cX11_broke 7 = .ok (.if_icmp .gt 10, 3) := by decide +kernel
theorem dX11_broke_10 : decode cX11_broke 10 = .ok (.iload_n 2, 1) := by decide +kernel
theorem dX11_broke_11 : decode cX11_broke 11 = .ok (.invokestatic 202, 3) := by decide +kernel
theorem dX11_broke_14 : decode cX11_broke 14 = .ok (.ifCond .ne 7, 3) := by decide +kernel
theorem dX11_broke_17 : decode cX11_broke 17 = .ok (.ldc2_w 207, 3) := by decide +kernel
theorem dX11_broke_20 : decode cX11_broke 20 = .ok (.lreturn, 1) := by decide +kernel
theorem dX11_broke_21 : decode cX11_broke 21 = .ok (.aload_n 0, 1) := by decide +kernel
theorem dX11_broke_22 : decode cX11_broke 22 = .ok (.getfield 40, 3) := by decide +kernel
theorem dX11_broke_25 : decode cX11_broke 25 = .ok (.iload_n 1, 1) := by decide +kernel
theorem dX11_broke_26 : decode cX11_broke 26 = .ok (.invokevirtual 222, 3) := by decide +kernel
theorem dX11_broke_29 : decode cX11_broke 29 = .ok (.ldc2_w 226, 3) := by decide +kernel
theorem dX11_broke_32 : decode cX11_broke 32 = .ok (.aload_n 0, 1) := by decide +kernel
theorem dX11_broke_33 : decode cX11_broke 33 = .ok (.getfield 28, 3) := by decide +kernel
theorem dX11_broke_36 : decode cX11_broke 36 = .ok (.iconst 0, 1) := by decide +kernel
theorem dX11_broke_37 : decode cX11_broke 37 = .ok (.aaload, 1) := by decide +kernel
theorem dX11_broke_38 : decode cX11_broke 38 = .ok (.invokevirtual 212, 3) := by decide +kernel
theorem dX11_broke_41 : decode cX11_broke 41 = .ok (.i2l, 1) := by decide +kernel
theorem dX11_broke_42 : decode cX11_broke 42 = .ok (.lmul, 1) := by decide +kernel
theorem dX11_broke_43 : decode cX11_broke 43 = .ok (.aload_n 0, 1) := by decide +kernel
theorem dX11_broke_44 : decode cX11_broke 44 = .ok (.getfield 28, 3) := by decide +kernel
theorem dX11_broke_47 : decode cX11_broke 47 = .ok (.iconst 1, 1) := by decide +kernel
theorem dX11_broke_48 : decode cX11_broke 48 = .ok (.aaload, 1) := by decide +kernel
theorem dX11_broke_49 : decode cX11_broke 49 = .ok (.invokevirtual 212, 3) := by decide +kernel
theorem dX11_broke_52 : decode cX11_broke 52 = .ok (.i2l, 1) := by decide +kernel
theorem dX11_broke_53 : decode cX11_broke 53 = .ok (.lmul, 1) := by decide +kernel
theorem dX11_broke_54 : decode cX11_broke 54 = .ok (.iload_n 2, 1) := by decide +kernel
theorem dX11_broke_55 : decode cX11_broke 55 = .ok (.invokestatic 215, 3) := by decide +kernel
theorem dX11_broke_58 : decode cX11_broke 58 = .ok (.lreturn, 1) := by decide +kernel
theorem dX11_isPart_0 : decode cX11_isPart 0 = .ok (.iload_n 0, 1) := by decide +kernel
theorem dX11_isPart_1 : decode cX11_isPart 1 = .ok (.ifCond .eq 8, 3) := by decide +kernel
theorem dX11_isPart_4 : decode cX11_isPart 4 = .ok (.iload_n 0, 1) := by decide +kernel
theorem dX11_isPart_5 : decode cX11_isPart 5 = .ok (.iconst 1, 1) := by decide +kernel
theorem dX11_isPart_6 : decode cX11_isPart 6 = .ok (.if_icmp .ne 7, 3) := by decide +kernel
theorem dX11_isPart_9 : decode cX11_isPart 9 = .ok (.iconst 1, 1) := by decide +kernel
theorem dX11_isPart_10 : decode cX11_isPart 10 = .ok (.goto 4, 3) := by decide +kernel
theorem dX11_isPart_13 : decode cX11_isPart 13 = .ok (.iconst 0, 1) := by decide +kernel
theorem dX11_isPart_14 : decode cX11_isPart 14 = .ok (.ireturn, 1) := by decide +kernel
theorem dX11_inLowest_0 : decode cX11_inLowest 0 = .ok (.lload_n 0, 1) := by decide +kernel
theorem dX11_inLowest_1 : decode cX11_inLowest 1 = .ok (.invokestatic 228, 3) := by decide +kernel
theorem dX11_inLowest_4 : decode cX11_inLowest 4 = .ok (.lstore 5, 2) := by decide +kernel
theorem dX11_inLowest_6 : decode cX11_inLowest 6 = .ok (.lload_n 2, 1) := by decide +kernel
theorem dX11_inLowest_7 : decode cX11_inLowest 7 = .ok (.lstore 7, 2) := by decide +kernel
theorem dX11_inLowest_9 : decode cX11_inLowest 9 = .ok (.iconst 0, 1) := by decide +kernel
theorem dX11_inLowest_10 : decode cX11_inLowest 10 = .ok (.istore 9, 2) := by decide +kernel
theorem dX11_inLowest_12 : decode cX11_inLowest 12 = .ok (.iload 9, 2) := by decide +kernel
theorem dX11_inLowest_14 : decode cX11_inLowest 14 = .ok (.bipush 100, 2) := by decide +kernel
theorem dX11_inLowest_16 : decode cX11_inLowest 16 = .ok (.if_icmp .ge 31, 3) := by decide +kernel
theorem dX11_inLowest_19 : decode cX11_inLowest 19 = .ok (.lload 7, 2) := by decide +kernel
theorem dX11_inLowest_21 : decode cX11_inLowest 21 = .ok (.lconst 0, 1) := by decide +kernel
theorem dX11_inLowest_22 : decode cX11_inLowest 22 = .ok (.lcmp, 1) := by decide +kernel
theorem dX11_inLowest_23 : decode cX11_inLowest 23 = .ok (.ifCond .eq 24, 3) := by decide +kernel
theorem dX11_inLowest_26 : decode cX11_inLowest 26 = .ok (.lload 5, 2) := by decide +kernel
theorem dX11_inLowest_28 : decode cX11_inLowest 28 = .ok (.lload 7, 2) := by decide +kernel
theorem dX11_inLowest_30 : decode cX11_inLowest 30 = .ok (.lrem, 1) := by decide +kernel
theorem dX11_inLowest_31 : decode cX11_inLowest 31 = .ok (.lstore 10, 2) := by decide +kernel
theorem dX11_inLowest_33 : decode cX11_inLowest 33 = .ok (.lload 7, 2) := by decide +kernel
theorem dX11_inLowest_35 : decode cX11_inLowest 35 = .ok (.lstore 5, 2) := by decide +kernel
theorem dX11_inLowest_37 : decode cX11_inLowest 37 = .ok (.lload 10, 2) := by decide +kernel
theorem dX11_inLowest_39 : decode cX11_inLowest 39 = .ok (.lstore 7, 2) := by decide +kernel
theorem dX11_inLowest_41 : decode cX11_inLowest 41 = .ok (.iinc 9 1, 3) := by decide +kernel
theorem dX11_inLowest_44 : decode cX11_inLowest 44 = .ok (.goto (-32), 3) := by decide +kernel
theorem dX11_inLowest_47 : decode cX11_inLowest 47 = .ok (.lload 5, 2) := by decide +kernel
theorem dX11_inLowest_49 : decode cX11_inLowest 49 = .ok (.lconst 0, 1) := by decide +kernel
theorem dX11_inLowest_50 : decode cX11_inLowest 50 = .ok (.lcmp, 1) := by decide +kernel
theorem dX11_inLowest_51 : decode cX11_inLowest 51 = .ok (.ifCond .ne 7, 3) := by decide +kernel
theorem dX11_inLowest_54 : decode cX11_inLowest 54 = .ok (.iload 4, 2) := by decide +kernel
theorem dX11_inLowest_56 : decode cX11_inLowest 56 = .ok (.i2l, 1) := by decide +kernel
theorem dX11_inLowest_57 : decode cX11_inLowest 57 = .ok (.lreturn, 1) := by decide +kernel
theorem dX11_inLowest_58 : decode cX11_inLowest 58 = .ok (.iload 4, 2) := by decide +kernel
theorem dX11_inLowest_60 : decode cX11_inLowest 60 = .ok (.ifCond .ne 7, 3) := by decide +kernel
theorem dX11_inLowest_63 : decode cX11_inLowest 63 = .ok (.lload_n 0, 1) := by decide +kernel
theorem dX11_inLowest_64 : decode cX11_inLowest 64 = .ok (.goto 4, 3) := by decide +kernel
theorem dX11_inLowest_67 : decode cX11_inLowest 67 = .ok (.lload_n 2, 1) := by decide +kernel
theorem dX11_inLowest_68 : decode cX11_inLowest 68 = .ok (.lload 5, 2) := by decide +kernel
theorem dX11_inLowest_70 : decode cX11_inLowest 70 = .ok (.ldiv, 1) := by decide +kernel
theorem dX11_inLowest_71 : decode cX11_inLowest 71 = .ok (.lreturn, 1) := by decide +kernel
theorem dX11_beaten_0 : decode cX11_beaten 0 = .ok (.iload_n 1, 1) := by decide +kernel
theorem dX11_beaten_1 : decode cX11_beaten 1 = .ok (.invokestatic 112, 3) := by decide +kernel
theorem dX11_beaten_4 : decode cX11_beaten 4 = .ok (.ifCond .eq 19, 3) := by decide +kernel
theorem dX11_beaten_7 : decode cX11_beaten 7 = .ok (.aload_n 0, 1) := by decide +kernel
theorem dX11_beaten_8 : decode cX11_beaten 8 = .ok (.getfield 21, 3) := by decide +kernel
theorem dX11_beaten_11 : decode cX11_beaten 11 = .ok (.iload_n 2, 1) := by decide +kernel
theorem dX11_beaten_12 : decode cX11_beaten 12 = .ok (.iload_n 1, 1) := by decide +kernel
theorem dX11_beaten_13 : decode cX11_beaten 13 = .ok (.aload_n 0, 1) := by decide +kernel
theorem dX11_beaten_14 : decode cX11_beaten 14 = .ok (.getfield 81, 3) := by decide +kernel
theorem dX11_beaten_17 : decode cX11_beaten 17 = .ok (.invokevirtual 145, 3) := by decide +kernel
theorem dX11_beaten_20 : decode cX11_beaten 20 = .ok (.ifCond .ne 5, 3) := by decide +kernel
theorem dX11_beaten_23 : decode cX11_beaten 23 = .ok (.iconst (-1), 1) := by decide +kernel
theorem dX11_beaten_24 : decode cX11_beaten 24 = .ok (.ireturn, 1) := by decide +kernel
theorem dX11_beaten_25 : decode cX11_beaten 25 = .ok (.aload_n 0, 1) := by decide +kernel
theorem dX11_beaten_26 : decode cX11_beaten 26 = .ok (.getfield 49, 3) := by decide +kernel
theorem dX11_beaten_29 : decode cX11_beaten 29 = .ok (.invokevirtual 234, 3) := by decide +kernel
theorem dX11_beaten_32 : decode cX11_beaten 32 = .ok (.ifCond .eq 22, 3) := by decide +kernel
theorem dX11_beaten_35 : decode cX11_beaten 35 = .ok (.aload_n 0, 1) := by decide +kernel
theorem dX11_beaten_36 : decode cX11_beaten 36 = .ok (.getfield 49, 3) := by decide +kernel
theorem dX11_beaten_39 : decode cX11_beaten 39 = .ok (.iload_n 1, 1) := by decide +kernel
theorem dX11_beaten_40 : decode cX11_beaten 40 = .ok (.aload_n 0, 1) := by decide +kernel
theorem dX11_beaten_41 : decode cX11_beaten 41 = .ok (.getfield 81, 3) := by decide +kernel
theorem dX11_beaten_44 : decode cX11_beaten 44 = .ok (.iconst 0, 1) := by decide +kernel
theorem dX11_beaten_45 : decode cX11_beaten 45 = .ok (.sipush 301, 3) := by decide +kernel
theorem dX11_beaten_48 : decode cX11_beaten 48 = .ok (.invokevirtual 238, 3) := by decide +kernel
theorem dX11_beaten_51 : decode cX11_beaten 51 = .ok (.goto 5, 3) := by decide +kernel
theorem dX11_beaten_54 : decode cX11_beaten 54 = .ok (.bipush (-5), 2) := by decide +kernel
theorem dX11_beaten_56 : decode cX11_beaten 56 = .ok (.ireturn, 1) := by decide +kernel
theorem dX11_safest_0 : decode cX11_safest 0 = .ok (.iload_n 1, 1) := by decide +kernel
theorem dX11_safest_1 : decode cX11_safest 1 = .ok (.invokestatic 112, 3) := by decide +kernel
theorem dX11_safest_4 : decode cX11_safest 4 = .ok (.ifCond .eq 12, 3) := by decide +kernel
theorem dX11_safest_7 : decode cX11_safest 7 = .ok (.iload_n 2, 1) := by decide +kernel
theorem dX11_safest_8 : decode cX11_safest 8 = .ok (.ifCond .lt 8, 3) := by decide +kernel
theorem dX11_safest_11 : decode cX11_safest 11 = .ok (.iload_n 2, 1) := by decide +kernel
theorem dX11_safest_12 : decode cX11_safest 12 = .ok (.iconst 1, 1) := by decide +kernel
theorem dX11_safest_13 : decode cX11_safest 13 = .ok (.if_icmp .le 5, 3) := by decide +kernel
theorem dX11_safest_16 : decode cX11_safest 16 = .ok (.iconst (-1), 1) := by decide +kernel
theorem dX11_safest_17 : decode cX11_safest 17 = .ok (.ireturn, 1) := by decide +kernel
theorem dX11_safest_18 : decode cX11_safest 18 = .ok (.aload_n 0, 1) := by decide +kernel
theorem dX11_safest_19 : decode cX11_safest 19 = .ok (.getfield 49, 3) := by decide +kernel
theorem dX11_safest_22 : decode cX11_safest 22 = .ok (.invokevirtual 234, 3) := by decide +kernel
theorem dX11_safest_25 : decode cX11_safest 25 = .ok (.ifCond .eq 15, 3) := by decide +kernel
theorem dX11_safest_28 : decode cX11_safest 28 = .ok (.aload_n 0, 1) := by decide +kernel
theorem dX11_safest_29 : decode cX11_safest 29 = .ok (.getfield 49, 3) := by decide +kernel
theorem dX11_safest_32 : decode cX11_safest 32 = .ok (.iload_n 1, 1) := by decide +kernel
theorem dX11_safest_33 : decode cX11_safest 33 = .ok (.iload_n 2, 1) := by decide +kernel
theorem dX11_safest_34 : decode cX11_safest 34 = .ok (.invokevirtual 242, 3) := by decide +kernel
theorem dX11_safest_37 : decode cX11_safest 37 = .ok (.goto 5, 3) := by decide +kernel
theorem dX11_safest_40 : decode cX11_safest 40 = .ok (.bipush (-5), 2) := by decide +kernel
theorem dX11_safest_42 : decode cX11_safest 42 = .ok (.ireturn, 1) := by decide +kernel
theorem dX11_ring_0 : decode cX11_ring 0 = .ok (.iload_n 1, 1) := by decide +kernel
theorem dX11_ring_1 : decode cX11_ring 1 = .ok (.ifCond .lt 8, 3) := by decide +kernel
theorem dX11_ring_4 : decode cX11_ring 4 = .ok (.iload_n 1, 1) := by decide +kernel
theorem dX11_ring_5 : decode cX11_ring 5 = .ok (.iconst 2, 1) := by decide +kernel
theorem dX11_ring_6 : decode cX11_ring 6 = .ok (.if_icmp .le 5, 3) := by decide +kernel
theorem dX11_ring_9 : decode cX11_ring 9 = .ok (.iconst (-1), 1) := by decide +kernel
theorem dX11_ring_10 : decode cX11_ring 10 = .ok (.ireturn, 1) := by decide +kernel
theorem dX11_ring_11 : decode cX11_ring 11 = .ok (.aload_n 0, 1) := by decide +kernel
theorem dX11_ring_12 : decode cX11_ring 12 = .ok (.getfield 49, 3) := by decide +kernel
theorem dX11_ring_15 : decode cX11_ring 15 = .ok (.invokevirtual 234, 3) := by decide +kernel
theorem dX11_ring_18 : decode cX11_ring 18 = .ok (.ifCond .ne 6, 3) := by decide +kernel
theorem dX11_ring_21 : decode cX11_ring 21 = .ok (.bipush (-5), 2) := by decide +kernel
theorem dX11_ring_23 : decode cX11_ring 23 = .ok (.ireturn, 1) := by decide +kernel
theorem dX11_ring_24 : decode cX11_ring 24 = .ok (.aload_n 0, 1) := by decide +kernel
theorem dX11_ring_25 : decode cX11_ring 25 = .ok (.getfield 49, 3) := by decide +kernel
theorem dX11_ring_28 : decode cX11_ring 28 = .ok (.invokevirtual 245, 3) := by decide +kernel
theorem dX11_ring_31 : decode cX11_ring 31 = .ok (.ifCond .eq 14, 3) := by decide +kernel
theorem dX11_ring_34 : decode cX11_ring 34 = .ok (.aload_n 0, 1) := by decide +kernel
theorem dX11_ring_35 : decode cX11_ring 35 = .ok (.getfield 49, 3) := by decide +kernel
theorem dX11_ring_38 : decode cX11_ring 38 = .ok (.iload_n 1, 1) := by decide +kernel
theorem dX11_ring_39 : decode cX11_ring 39 = .ok (.invokevirtual 248, 3) := by decide +kernel
theorem dX11_ring_42 : decode cX11_ring 42 = .ok (.goto 5, 3) := by decide +kernel
theorem dX11_ring_45 : decode cX11_ring 45 = .ok (.bipush (-2), 2) := by decide +kernel
theorem dX11_ring_47 : decode cX11_ring 47 = .ok (.ireturn, 1) := by decide +kernel
theorem dX11_rest_0 : decode cX11_rest 0 = .ok (.iload_n 1, 1) := by decide +kernel
theorem dX11_rest_1 : decode cX11_rest 1 = .ok (.ifCond .lt 8, 3) := by decide +kernel
theorem dX11_rest_4 : decode cX11_rest 4 = .ok (.iload_n 1, 1) := by decide +kernel
theorem dX11_rest_5 : decode cX11_rest 5 = .ok (.iconst 2, 1) := by decide +kernel
theorem dX11_rest_6 : decode cX11_rest 6 = .ok (.if_icmp .le 6, 3) := by decide +kernel
theorem dX11_rest_9 : decode cX11_rest 9 = .ok (.ldc 187, 2) := by decide +kernel
theorem dX11_rest_11 : decode cX11_rest 11 = .ok (.ireturn, 1) := by decide +kernel
theorem dX11_rest_12 : decode cX11_rest 12 = .ok (.aload_n 0, 1) := by decide +kernel
theorem dX11_rest_13 : decode cX11_rest 13 = .ok (.getfield 49, 3) := by decide +kernel
theorem dX11_rest_16 : decode cX11_rest 16 = .ok (.invokevirtual 234, 3) := by decide +kernel
theorem dX11_rest_19 : decode cX11_rest 19 = .ok (.ifCond .ne 6, 3) := by decide +kernel
theorem dX11_rest_22 : decode cX11_rest 22 = .ok (.bipush (-5), 2) := by decide +kernel
theorem dX11_rest_24 : decode cX11_rest 24 = .ok (.ireturn, 1) := by decide +kernel
theorem dX11_rest_25 : decode cX11_rest 25 = .ok (.aload_n 0, 1) := by decide +kernel
theorem dX11_rest_26 : decode cX11_rest 26 = .ok (.getfield 49, 3) := by decide +kernel
theorem dX11_rest_29 : decode cX11_rest 29 = .ok (.invokevirtual 251, 3) := by decide +kernel
theorem dX11_rest_32 : decode cX11_rest 32 = .ok (.ifCond .ne 6, 3) := by decide +kernel
theorem dX11_rest_35 : decode cX11_rest 35 = .ok (.bipush (-2), 2) := by decide +kernel
theorem dX11_rest_37 : decode cX11_rest 37 = .ok (.ireturn, 1) := by decide +kernel
theorem dX11_rest_38 : decode cX11_rest 38 = .ok (.iload_n 1, 1) := by decide +kernel
theorem dX11_rest_39 : decode cX11_rest 39 = .ok (.iconst 2, 1) := by decide +kernel
theorem dX11_rest_40 : decode cX11_rest 40 = .ok (.if_icmp .ne 11, 3) := by decide +kernel
theorem dX11_rest_43 : decode cX11_rest 43 = .ok (.aload_n 0, 1) := by decide +kernel
theorem dX11_rest_44 : decode cX11_rest 44 = .ok (.getfield 49, 3) := by decide +kernel
theorem dX11_rest_47 : decode cX11_rest 47 = .ok (.getfield 254, 3) := by decide +kernel
theorem dX11_rest_50 : decode cX11_rest 50 = .ok (.ireturn, 1) := by decide +kernel
theorem dX11_rest_51 : decode cX11_rest 51 = .ok (.aload_n 0, 1) := by decide +kernel
theorem dX11_rest_52 : decode cX11_rest 52 = .ok (.getfield 49, 3) := by decide +kernel
theorem dX11_rest_55 : decode cX11_rest 55 = .ok (.iload_n 1, 1) := by decide +kernel
theorem dX11_rest_56 : decode cX11_rest 56 = .ok (.aload_n 0, 1) := by decide +kernel
theorem dX11_rest_57 : decode cX11_rest 57 = .ok (.getfield 49, 3) := by decide +kernel
theorem dX11_rest_60 : decode cX11_rest 60 = .ok (.getfield 257, 3) := by decide +kernel
theorem dX11_rest_63 : decode cX11_rest 63 = .ok (.iload_n 1, 1) := by decide +kernel
theorem dX11_rest_64 : decode cX11_rest 64 = .ok (.iaload, 1) := by decide +kernel
theorem dX11_rest_65 : decode cX11_rest 65 = .ok (.invokevirtual 260, 3) := by decide +kernel
theorem dX11_rest_68 : decode cX11_rest 68 = .ok (.ireturn, 1) := by decide +kernel
theorem dX11_sure_0 : decode cX11_sure 0 = .ok (.aload_n 0, 1) := by decide +kernel
theorem dX11_sure_1 : decode cX11_sure 1 = .ok (.getfield 21, 3) := by decide +kernel
theorem dX11_sure_4 : decode cX11_sure 4 = .ok (.iload_n 1, 1) := by decide +kernel
theorem dX11_sure_5 : decode cX11_sure 5 = .ok (.iconst 0, 1) := by decide +kernel
theorem dX11_sure_6 : decode cX11_sure 6 = .ok (.aload_n 0, 1) := by decide +kernel
theorem dX11_sure_7 : decode cX11_sure 7 = .ok (.getfield 81, 3) := by decide +kernel
theorem dX11_sure_10 : decode cX11_sure 10 = .ok (.invokevirtual 145, 3) := by decide +kernel
theorem dX11_sure_13 : decode cX11_sure 13 = .ok (.ifCond .ne 5, 3) := by decide +kernel
theorem dX11_sure_16 : decode cX11_sure 16 = .ok (.iconst (-1), 1) := by decide +kernel
theorem dX11_sure_17 : decode cX11_sure 17 = .ok (.ireturn, 1) := by decide +kernel
theorem dX11_sure_18 : decode cX11_sure 18 = .ok (.aload_n 0, 1) := by decide +kernel
theorem dX11_sure_19 : decode cX11_sure 19 = .ok (.getfield 49, 3) := by decide +kernel
theorem dX11_sure_22 : decode cX11_sure 22 = .ok (.invokevirtual 263, 3) := by decide +kernel
theorem dX11_sure_25 : decode cX11_sure 25 = .ok (.aload_n 0, 1) := by decide +kernel
theorem dX11_sure_26 : decode cX11_sure 26 = .ok (.getfield 49, 3) := by decide +kernel
theorem dX11_sure_29 : decode cX11_sure 29 = .ok (.aload_n 0, 1) := by decide +kernel
theorem dX11_sure_30 : decode cX11_sure 30 = .ok (.getfield 81, 3) := by decide +kernel
theorem dX11_sure_33 : decode cX11_sure 33 = .ok (.invokevirtual 266, 3) := by decide +kernel
theorem dX11_sure_36 : decode cX11_sure 36 = .ok (.ireturn, 1) := by decide +kernel
theorem dX11_most_0 : decode cX11_most 0 = .ok (.iload_n 1, 1) := by decide +kernel
theorem dX11_most_1 : decode cX11_most 1 = .ok (.ifCond .lt 8, 3) := by decide +kernel
theorem dX11_most_4 : decode cX11_most 4 = .ok (.iload_n 1, 1) := by decide +kernel
theorem dX11_most_5 : decode cX11_most 5 = .ok (.iconst 1, 1) := by decide +kernel
theorem dX11_most_6 : decode cX11_most 6 = .ok (.if_icmp .le 5, 3) := by decide +kernel
theorem dX11_most_9 : decode cX11_most 9 = .ok (.iconst (-1), 1) := by decide +kernel
theorem dX11_most_10 : decode cX11_most 10 = .ok (.ireturn, 1) := by decide +kernel
theorem dX11_most_11 : decode cX11_most 11 = .ok (.aload_n 0, 1) := by decide +kernel
theorem dX11_most_12 : decode cX11_most 12 = .ok (.getfield 49, 3) := by decide +kernel
theorem dX11_most_15 : decode cX11_most 15 = .ok (.invokevirtual 270, 3) := by decide +kernel
theorem dX11_most_18 : decode cX11_most 18 = .ok (.ifCond .ne 6, 3) := by decide +kernel
theorem dX11_most_21 : decode cX11_most 21 = .ok (.bipush (-5), 2) := by decide +kernel
theorem dX11_most_23 : decode cX11_most 23 = .ok (.ireturn, 1) := by decide +kernel
theorem dX11_most_24 : decode cX11_most 24 = .ok (.aload_n 0, 1) := by decide +kernel
theorem dX11_most_25 : decode cX11_most 25 = .ok (.getfield 49, 3) := by decide +kernel
theorem dX11_most_28 : decode cX11_most 28 = .ok (.invokevirtual 263, 3) := by decide +kernel
theorem dX11_most_31 : decode cX11_most 31 = .ok (.aload_n 0, 1) := by decide +kernel
theorem dX11_most_32 : decode cX11_most 32 = .ok (.getfield 49, 3) := by decide +kernel
theorem dX11_most_35 : decode cX11_most 35 = .ok (.aload_n 0, 1) := by decide +kernel
theorem dX11_most_36 : decode cX11_most 36 = .ok (.getfield 21, 3) := by decide +kernel
theorem dX11_most_39 : decode cX11_most 39 = .ok (.getfield 131, 3) := by decide +kernel
theorem dX11_most_42 : decode cX11_most 42 = .ok (.iconst 0, 1) := by decide +kernel
theorem dX11_most_43 : decode cX11_most 43 = .ok (.iaload, 1) := by decide +kernel
theorem dX11_most_44 : decode cX11_most 44 = .ok (.invokevirtual 273, 3) := by decide +kernel
theorem dX11_most_47 : decode cX11_most 47 = .ok (.pop, 1) := by decide +kernel
theorem dX11_most_48 : decode cX11_most 48 = .ok (.iload_n 1, 1) := by decide +kernel
theorem dX11_most_49 : decode cX11_most 49 = .ok (.ifCond .ne 13, 3) := by decide +kernel
theorem dX11_most_52 : decode cX11_most 52 = .ok (.aload_n 0, 1) := by decide +kernel
theorem dX11_most_53 : decode cX11_most 53 = .ok (.getfield 49, 3) := by decide +kernel
theorem dX11_most_56 : decode cX11_most 56 = .ok (.getfield 276, 3) := by decide +kernel
theorem dX11_most_59 : decode cX11_most 59 = .ok (.goto 10, 3) := by decide +kernel
theorem dX11_most_62 : decode cX11_most 62 = .ok (.aload_n 0, 1) := by decide +kernel
theorem dX11_most_63 : decode cX11_most 63 = .ok (.getfield 49, 3) := by decide +kernel
theorem dX11_most_66 : decode cX11_most 66 = .ok (.getfield 279, 3) := by decide +kernel
theorem dX11_most_69 : decode cX11_most 69 = .ok (.ireturn, 1) := by decide +kernel
theorem dX11_fewest_0 : decode cX11_fewest 0 = .ok (.iload_n 1, 1) := by decide +kernel
theorem dX11_fewest_1 : decode cX11_fewest 1 = .ok (.ifCond .lt 8, 3) := by decide +kernel
theorem dX11_fewest_4 : decode cX11_fewest 4 = .ok (.iload_n 1, 1) := by decide +kernel
theorem dX11_fewest_5 : decode cX11_fewest 5 = .ok (.iconst 5, 1) := by decide +kernel
theorem dX11_fewest_6 : decode cX11_fewest 6 = .ok (.if_icmp .le 5, 3) := by decide +kernel
theorem dX11_fewest_9 : decode cX11_fewest 9 = .ok (.iconst (-1), 1) := by decide +kernel
theorem dX11_fewest_10 : decode cX11_fewest 10 = .ok (.ireturn, 1) := by decide +kernel
theorem dX11_fewest_11 : decode cX11_fewest 11 = .ok (.aload_n 0, 1) := by decide +kernel
theorem dX11_fewest_12 : decode cX11_fewest 12 = .ok (.getfield 49, 3) := by decide +kernel
theorem dX11_fewest_15 : decode cX11_fewest 15 = .ok (.invokevirtual 263, 3) := by decide +kernel
theorem dX11_fewest_18 : decode cX11_fewest 18 = .ok (.iconst 0, 1) := by decide +kernel
theorem dX11_fewest_19 : decode cX11_fewest 19 = .ok (.istore_n 2, 1) := by decide +kernel
theorem dX11_fewest_20 : decode cX11_fewest 20 = .ok (.iload_n 2, 1) := by decide +kernel
theorem dX11_fewest_21 : decode cX11_fewest 21 = .ok (.bipush 9, 2) := by decide +kernel
theorem dX11_fewest_23 : decode cX11_fewest 23 = .ok (.if_icmp .gt 33, 3) := by decide +kernel
theorem dX11_fewest_26 : decode cX11_fewest 26 = .ok (.aload_n 0, 1) := by decide +kernel
theorem dX11_fewest_27 : decode cX11_fewest 27 = .ok (.getfield 49, 3) := by decide +kernel
theorem dX11_fewest_30 : decode cX11_fewest 30 = .ok (.iload_n 2, 1) := by decide +kernel
theorem dX11_fewest_31 : decode cX11_fewest 31 = .ok (.invokevirtual 273, 3) := by decide +kernel
theorem dX11_fewest_34 : decode cX11_fewest 34 = .ok (.ifCond .eq 16, 3) := by decide +kernel
theorem dX11_fewest_37 : decode cX11_fewest 37 = .ok (.aload_n 0, 1) := by decide +kernel
theorem dX11_fewest_38 : decode cX11_fewest 38 = .ok (.getfield 49, 3) := by decide +kernel
theorem dX11_fewest_41 : decode cX11_fewest 41 = .ok (.getfield 279, 3) := by decide +kernel
theorem dX11_fewest_44 : decode cX11_fewest 44 = .ok (.iload_n 1, 1) := by decide +kernel
theorem dX11_fewest_45 : decode cX11_fewest 45 = .ok (.if_icmp .lt 5, 3) := by decide +kernel
theorem dX11_fewest_48 : decode cX11_fewest 48 = .ok (.iload_n 2, 1) := by decide +kernel
theorem dX11_fewest_49 : decode cX11_fewest 49 = .ok (.ireturn, 1) := by decide +kernel
theorem dX11_fewest_50 : decode cX11_fewest 50 = .ok (.iinc 2 1, 3) := by decide +kernel
theorem dX11_fewest_53 : decode cX11_fewest 53 = .ok (.goto (-33), 3) := by decide +kernel
theorem dX11_fewest_56 : decode cX11_fewest 56 = .ok (.bipush (-2), 2) := by decide +kernel
theorem dX11_fewest_58 : decode cX11_fewest 58 = .ok (.ireturn, 1) := by decide +kernel
theorem dX11_year_0 : decode cX11_year 0 = .ok (.iload_n 1, 1) := by decide +kernel
theorem dX11_year_1 : decode cX11_year 1 = .ok (.invokestatic 112, 3) := by decide +kernel
theorem dX11_year_4 : decode cX11_year 4 = .ok (.ifCond .eq 13, 3) := by decide +kernel
theorem dX11_year_7 : decode cX11_year 7 = .ok (.iload_n 2, 1) := by decide +kernel
theorem dX11_year_8 : decode cX11_year 8 = .ok (.ifCond .lt 9, 3) := by decide +kernel
theorem dX11_year_11 : decode cX11_year 11 = .ok (.iload_n 2, 1) := by decide +kernel
theorem dX11_year_12 : decode cX11_year 12 = .ok (.bipush 30, 2) := by decide +kernel
theorem dX11_year_14 : decode cX11_year 14 = .ok (.if_icmp .le 5, 3) := by decide +kernel
theorem dX11_year_17 : decode cX11_year 17 = .ok (.iconst (-1), 1) := by decide +kernel
theorem dX11_year_18 : decode cX11_year 18 = .ok (.ireturn, 1) := by decide +kernel
theorem dX11_year_19 : decode cX11_year 19 = .ok (.aload_n 0, 1) := by decide +kernel
theorem dX11_year_20 : decode cX11_year 20 = .ok (.getfield 56, 3) := by decide +kernel
theorem dX11_year_23 : decode cX11_year 23 = .ok (.iload_n 2, 1) := by decide +kernel
theorem dX11_year_24 : decode cX11_year 24 = .ok (.invokevirtual 282, 3) := by decide +kernel
theorem dX11_year_27 : decode cX11_year 27 = .ok (.pop, 1) := by decide +kernel
theorem dX11_year_28 : decode cX11_year 28 = .ok (.aload_n 0, 1) := by decide +kernel
theorem dX11_year_29 : decode cX11_year 29 = .ok (.getfield 21, 3) := by decide +kernel
theorem dX11_year_32 : decode cX11_year 32 = .ok (.aload_n 0, 1) := by decide +kernel
theorem dX11_year_33 : decode cX11_year 33 = .ok (.getfield 56, 3) := by decide +kernel
theorem dX11_year_36 : decode cX11_year 36 = .ok (.getfield 285, 3) := by decide +kernel
theorem dX11_year_39 : decode cX11_year 39 = .ok (.iload_n 1, 1) := by decide +kernel
theorem dX11_year_40 : decode cX11_year 40 = .ok (.aaload, 1) := by decide +kernel
theorem dX11_year_41 : decode cX11_year 41 = .ok (.iconst 0, 1) := by decide +kernel
theorem dX11_year_42 : decode cX11_year 42 = .ok (.invokevirtual 289, 3) := by decide +kernel
theorem dX11_year_45 : decode cX11_year 45 = .ok (.ireturn, 1) := by decide +kernel
theorem dX11_years_0 : decode cX11_years 0 = .ok (.iload_n 1, 1) := by decide +kernel
theorem dX11_years_1 : decode cX11_years 1 = .ok (.ifCond .lt 9, 3) := by decide +kernel
theorem dX11_years_4 : decode cX11_years 4 = .ok (.iload_n 1, 1) := by decide +kernel
theorem dX11_years_5 : decode cX11_years 5 = .ok (.bipush 30, 2) := by decide +kernel
theorem dX11_years_7 : decode cX11_years 7 = .ok (.if_icmp .le 6, 3) := by decide +kernel
theorem dX11_years_10 : decode cX11_years 10 = .ok (.ldc 187, 2) := by decide +kernel
theorem dX11_years_12 : decode cX11_years 12 = .ok (.ireturn, 1) := by decide +kernel
theorem dX11_years_13 : decode cX11_years 13 = .ok (.aload_n 0, 1) := by decide +kernel
theorem dX11_years_14 : decode cX11_years 14 = .ok (.getfield 56, 3) := by decide +kernel
theorem dX11_years_17 : decode cX11_years 17 = .ok (.iload_n 1, 1) := by decide +kernel
theorem dX11_years_18 : decode cX11_years 18 = .ok (.invokevirtual 282, 3) := by decide +kernel
theorem dX11_years_21 : decode cX11_years 21 = .ok (.ireturn, 1) := by decide +kernel
theorem dX11_image_0 : decode cX11_image 0 = .ok (.aload_n 0, 1) := by decide +kernel
theorem dX11_image_1 : decode cX11_image 1 = .ok (.getfield 32, 3) := by decide +kernel
theorem dX11_image_4 : decode cX11_image 4 = .ok (.iconst 0, 1) := by decide +kernel
theorem dX11_image_5 : decode cX11_image 5 = .ok (.aaload, 1) := by decide +kernel
theorem dX11_image_6 : decode cX11_image 6 = .ok (.aload_n 0, 1) := by decide +kernel
theorem dX11_image_7 : decode cX11_image 7 = .ok (.getfield 28, 3) := by decide +kernel
theorem dX11_image_10 : decode cX11_image 10 = .ok (.iconst 0, 1) := by decide +kernel
theorem dX11_image_11 : decode cX11_image 11 = .ok (.aaload, 1) := by decide +kernel
theorem dX11_image_12 : decode cX11_image 12 = .ok (.invokevirtual 293, 3) := by decide +kernel
theorem dX11_image_15 : decode cX11_image 15 = .ok (.aload_n 0, 1) := by decide +kernel
theorem dX11_image_16 : decode cX11_image 16 = .ok (.getfield 32, 3) := by decide +kernel
theorem dX11_image_19 : decode cX11_image 19 = .ok (.iconst 1, 1) := by decide +kernel
theorem dX11_image_20 : decode cX11_image 20 = .ok (.aaload, 1) := by decide +kernel
theorem dX11_image_21 : decode cX11_image 21 = .ok (.aload_n 0, 1) := by decide +kernel
theorem dX11_image_22 : decode cX11_image 22 = .ok (.getfield 28, 3) := by decide +kernel
theorem dX11_image_25 : decode cX11_image 25 = .ok (.iconst 1, 1) := by decide +kernel
theorem dX11_image_26 : decode cX11_image 26 = .ok (.aaload, 1) := by decide +kernel
theorem dX11_image_27 : decode cX11_image 27 = .ok (.invokevirtual 293, 3) := by decide +kernel
theorem dX11_image_30 : decode cX11_image 30 = .ok (.aload_n 0, 1) := by decide +kernel
theorem dX11_image_31 : decode cX11_image 31 = .ok (.iconst 1, 1) := by decide +kernel
theorem dX11_image_32 : decode cX11_image 32 = .ok (.putfield 297, 3) := by decide +kernel
theorem dX11_image_35 : decode cX11_image 35 = .ok (.aload_n 0, 1) := by decide +kernel
theorem dX11_image_36 : decode cX11_image 36 = .ok (.getfield 28, 3) := by decide +kernel
theorem dX11_image_39 : decode cX11_image 39 = .ok (.iconst 0, 1) := by decide +kernel
theorem dX11_image_40 : decode cX11_image 40 = .ok (.aaload, 1) := by decide +kernel
theorem dX11_image_41 : decode cX11_image 41 = .ok (.getfield 134, 3) := by decide +kernel
theorem dX11_image_44 : decode cX11_image 44 = .ok (.aload_n 0, 1) := by decide +kernel
theorem dX11_image_45 : decode cX11_image 45 = .ok (.getfield 28, 3) := by decide +kernel
theorem dX11_image_48 : decode cX11_image 48 = .ok (.iconst 1, 1) := by decide +kernel
theorem dX11_image_49 : decode cX11_image 49 = .ok (.aaload, 1) := by decide +kernel
theorem dX11_image_50 : decode cX11_image 50 = .ok (.getfield 134, 3) := by decide +kernel
theorem dX11_image_53 : decode cX11_image 53 = .ok (.iadd, 1) := by decide +kernel
theorem dX11_image_54 : decode cX11_image 54 = .ok (.ireturn, 1) := by decide +kernel
theorem dX11_back_0 : decode cX11_back 0 = .ok (.aload_n 0, 1) := by decide +kernel
theorem dX11_back_1 : decode cX11_back 1 = .ok (.getfield 297, 3) := by decide +kernel
theorem dX11_back_4 : decode cX11_back 4 = .ok (.ifCond .ne 6, 3) := by decide +kernel
theorem dX11_back_7 : decode cX11_back 7 = .ok (.bipush (-5), 2) := by decide +kernel
theorem dX11_back_9 : decode cX11_back 9 = .ok (.ireturn, 1) := by decide +kernel
theorem dX11_back_10 : decode cX11_back 10 = .ok (.aload_n 0, 1) := by decide +kernel
theorem dX11_back_11 : decode cX11_back 11 = .ok (.getfield 28, 3) := by decide +kernel
theorem dX11_back_14 : decode cX11_back 14 = .ok (.iconst 0, 1) := by decide +kernel
theorem dX11_back_15 : decode cX11_back 15 = .ok (.aaload, 1) := by decide +kernel
theorem dX11_back_16 : decode cX11_back 16 = .ok (.aload_n 0, 1) := by decide +kernel
theorem dX11_back_17 : decode cX11_back 17 = .ok (.getfield 32, 3) := by decide +kernel
theorem dX11_back_20 : decode cX11_back 20 = .ok (.iconst 0, 1) := by decide +kernel
theorem dX11_back_21 : decode cX11_back 21 = .ok (.aaload, 1) := by decide +kernel
theorem dX11_back_22 : decode cX11_back 22 = .ok (.invokevirtual 293, 3) := by decide +kernel
theorem dX11_back_25 : decode cX11_back 25 = .ok (.aload_n 0, 1) := by decide +kernel
theorem dX11_back_26 : decode cX11_back 26 = .ok (.getfield 28, 3) := by decide +kernel
theorem dX11_back_29 : decode cX11_back 29 = .ok (.iconst 1, 1) := by decide +kernel
theorem dX11_back_30 : decode cX11_back 30 = .ok (.aaload, 1) := by decide +kernel
theorem dX11_back_31 : decode cX11_back 31 = .ok (.aload_n 0, 1) := by decide +kernel
theorem dX11_back_32 : decode cX11_back 32 = .ok (.getfield 32, 3) := by decide +kernel
theorem dX11_back_35 : decode cX11_back 35 = .ok (.iconst 1, 1) := by decide +kernel
theorem dX11_back_36 : decode cX11_back 36 = .ok (.aaload, 1) := by decide +kernel
theorem dX11_back_37 : decode cX11_back 37 = .ok (.invokevirtual 293, 3) := by decide +kernel
theorem dX11_back_40 : decode cX11_back 40 = .ok (.aload_n 0, 1) := by decide +kernel
theorem dX11_back_41 : decode cX11_back 41 = .ok (.getfield 28, 3) := by decide +kernel
theorem dX11_back_44 : decode cX11_back 44 = .ok (.iconst 0, 1) := by decide +kernel
theorem dX11_back_45 : decode cX11_back 45 = .ok (.aaload, 1) := by decide +kernel
theorem dX11_back_46 : decode cX11_back 46 = .ok (.getfield 134, 3) := by decide +kernel
theorem dX11_back_49 : decode cX11_back 49 = .ok (.aload_n 0, 1) := by decide +kernel
theorem dX11_back_50 : decode cX11_back 50 = .ok (.getfield 28, 3) := by decide +kernel
theorem dX11_back_53 : decode cX11_back 53 = .ok (.iconst 1, 1) := by decide +kernel
theorem dX11_back_54 : decode cX11_back 54 = .ok (.aaload, 1) := by decide +kernel
theorem dX11_back_55 : decode cX11_back 55 = .ok (.getfield 134, 3) := by decide +kernel
theorem dX11_back_58 : decode cX11_back 58 = .ok (.iadd, 1) := by decide +kernel
theorem dX11_back_59 : decode cX11_back 59 = .ok (.ireturn, 1) := by decide +kernel
theorem dX11_undo_0 : decode cX11_undo 0 = .ok (.aload_n 0, 1) := by decide +kernel
theorem dX11_undo_1 : decode cX11_undo 1 = .ok (.getfield 63, 3) := by decide +kernel
theorem dX11_undo_4 : decode cX11_undo 4 = .ok (.getfield 301, 3) := by decide +kernel
theorem dX11_undo_7 : decode cX11_undo 7 = .ok (.ifCond .ne 6, 3) := by decide +kernel
theorem dX11_undo_10 : decode cX11_undo 10 = .ok (.bipush (-5), 2) := by decide +kernel
theorem dX11_undo_12 : decode cX11_undo 12 = .ok (.ireturn, 1) := by decide +kernel
theorem dX11_undo_13 : decode cX11_undo 13 = .ok (.aload_n 0, 1) := by decide +kernel
theorem dX11_undo_14 : decode cX11_undo 14 = .ok (.getfield 63, 3) := by decide +kernel
theorem dX11_undo_17 : decode cX11_undo 17 = .ok (.aload_n 0, 1) := by decide +kernel
theorem dX11_undo_18 : decode cX11_undo 18 = .ok (.getfield 21, 3) := by decide +kernel
theorem dX11_undo_21 : decode cX11_undo 21 = .ok (.invokevirtual 304, 3) := by decide +kernel
theorem dX11_undo_24 : decode cX11_undo 24 = .ok (.aload_n 0, 1) := by decide +kernel
theorem dX11_undo_25 : decode cX11_undo 25 = .ok (.getfield 63, 3) := by decide +kernel
theorem dX11_undo_28 : decode cX11_undo 28 = .ok (.getfield 301, 3) := by decide +kernel
theorem dX11_undo_31 : decode cX11_undo 31 = .ok (.ireturn, 1) := by decide +kernel
theorem dX11_redo_0 : decode cX11_redo 0 = .ok (.aload_n 0, 1) := by decide +kernel
theorem dX11_redo_1 : decode cX11_redo 1 = .ok (.getfield 63, 3) := by decide +kernel
theorem dX11_redo_4 : decode cX11_redo 4 = .ok (.getfield 301, 3) := by decide +kernel
theorem dX11_redo_7 : decode cX11_redo 7 = .ok (.aload_n 0, 1) := by decide +kernel
theorem dX11_redo_8 : decode cX11_redo 8 = .ok (.getfield 63, 3) := by decide +kernel
theorem dX11_redo_11 : decode cX11_redo 11 = .ok (.getfield 307, 3) := by decide +kernel
theorem dX11_redo_14 : decode cX11_redo 14 = .ok (.if_icmp .ne 6, 3) := by decide +kernel
theorem dX11_redo_17 : decode cX11_redo 17 = .ok (.bipush (-5), 2) := by decide +kernel
theorem dX11_redo_19 : decode cX11_redo 19 = .ok (.ireturn, 1) := by decide +kernel
theorem dX11_redo_20 : decode cX11_redo 20 = .ok (.aload_n 0, 1) := by decide +kernel
theorem dX11_redo_21 : decode cX11_redo 21 = .ok (.getfield 63, 3) := by decide +kernel
theorem dX11_redo_24 : decode cX11_redo 24 = .ok (.aload_n 0, 1) := by decide +kernel
theorem dX11_redo_25 : decode cX11_redo 25 = .ok (.getfield 21, 3) := by decide +kernel
theorem dX11_redo_28 : decode cX11_redo 28 = .ok (.invokevirtual 308, 3) := by decide +kernel
theorem dX11_redo_31 : decode cX11_redo 31 = .ok (.aload_n 0, 1) := by decide +kernel
theorem dX11_redo_32 : decode cX11_redo 32 = .ok (.getfield 63, 3) := by decide +kernel
theorem dX11_redo_35 : decode cX11_redo 35 = .ok (.getfield 307, 3) := by decide +kernel
theorem dX11_redo_38 : decode cX11_redo 38 = .ok (.aload_n 0, 1) := by decide +kernel
theorem dX11_redo_39 : decode cX11_redo 39 = .ok (.getfield 63, 3) := by decide +kernel
theorem dX11_redo_42 : decode cX11_redo 42 = .ok (.getfield 301, 3) := by decide +kernel
theorem dX11_redo_45 : decode cX11_redo 45 = .ok (.isub, 1) := by decide +kernel
theorem dX11_redo_46 : decode cX11_redo 46 = .ok (.ireturn, 1) := by decide +kernel
theorem dX11_body_0 : decode cX11_body 0 = .ok (.iload_n 1, 1) := by decide +kernel
theorem dX11_body_1 : decode cX11_body 1 = .ok (.invokestatic 311, 3) := by decide +kernel
theorem dX11_body_4 : decode cX11_body 4 = .ok (.ifCond .ne 5, 3) := by decide +kernel
theorem dX11_body_7 : decode cX11_body 7 = .ok (.iconst (-1), 1) := by decide +kernel
theorem dX11_body_8 : decode cX11_body 8 = .ok (.ireturn, 1) := by decide +kernel
theorem dX11_body_9 : decode cX11_body 9 = .ok (.aload_n 0, 1) := by decide +kernel
theorem dX11_body_10 : decode cX11_body 10 = .ok (.getfield 70, 3) := by decide +kernel
theorem dX11_body_13 : decode cX11_body 13 = .ok (.iload_n 1, 1) := by decide +kernel
theorem dX11_body_14 : decode cX11_body 14 = .ok (.invokevirtual 314, 3) := by decide +kernel
theorem dX11_body_17 : decode cX11_body 17 = .ok (.ifCond .eq 15, 3) := by decide +kernel
theorem dX11_body_20 : decode cX11_body 20 = .ok (.aload_n 0, 1) := by decide +kernel
theorem dX11_body_21 : decode cX11_body 21 = .ok (.getfield 70, 3) := by decide +kernel
theorem dX11_body_24 : decode cX11_body 24 = .ok (.getfield 316, 3) := by decide +kernel
theorem dX11_body_27 : decode cX11_body 27 = .ok (.iconst 1, 1) := by decide +kernel
theorem dX11_body_28 : decode cX11_body 28 = .ok (.isub, 1) := by decide +kernel
theorem dX11_body_29 : decode cX11_body 29 = .ok (.goto 5, 3) := by decide +kernel
theorem dX11_body_32 : decode cX11_body 32 = .ok (.bipush (-3), 2) := by decide +kernel
theorem dX11_body_34 : decode cX11_body 34 = .ok (.ireturn, 1) := by decide +kernel
theorem dX11_act_0 : decode cX11_act 0 = .ok (.aload_n 0, 1) := by decide +kernel
theorem dX11_act_1 : decode cX11_act 1 = .ok (.getfield 70, 3) := by decide +kernel
theorem dX11_act_4 : decode cX11_act 4 = .ok (.iload_n 1, 1) := by decide +kernel
theorem dX11_act_5 : decode cX11_act 5 = .ok (.iload_n 2, 1) := by decide +kernel
theorem dX11_act_6 : decode cX11_act 6 = .ok (.iload_n 3, 1) := by decide +kernel
theorem dX11_act_7 : decode cX11_act 7 = .ok (.invokevirtual 317, 3) := by decide +kernel
theorem dX11_act_10 : decode cX11_act 10 = .ok (.ireturn, 1) := by decide +kernel
theorem dX11_trace_0 : decode cX11_trace 0 = .ok (.iload_n 1, 1) := by decide +kernel
theorem dX11_trace_1 : decode cX11_trace 1 = .ok (.ifCond .lt 26, 3) := by decide +kernel
theorem dX11_trace_4 : decode cX11_trace 4 = .ok (.iload_n 1, 1) := by decide +kernel
theorem dX11_trace_5 : decode cX11_trace 5 = .ok (.aload_n 0, 1) := by decide +kernel
theorem dX11_trace_6 : decode cX11_trace 6 = .ok (.getfield 70, 3) := by decide +kernel
theorem dX11_trace_9 : decode cX11_trace 9 = .ok (.invokevirtual 320, 3) := by decide +kernel
theorem dX11_trace_12 : decode cX11_trace 12 = .ok (.if_icmp .ge 15, 3) := by decide +kernel
theorem dX11_trace_15 : decode cX11_trace 15 = .ok (.aload_n 0, 1) := by decide +kernel
theorem dX11_trace_16 : decode cX11_trace 16 = .ok (.getfield 70, 3) := by decide +kernel
theorem dX11_trace_19 : decode cX11_trace 19 = .ok (.getfield 323, 3) := by decide +kernel
theorem dX11_trace_22 : decode cX11_trace 22 = .ok (.iload_n 1, 1) := by decide +kernel
theorem dX11_trace_23 : decode cX11_trace 23 = .ok (.iaload, 1) := by decide +kernel
theorem dX11_trace_24 : decode cX11_trace 24 = .ok (.goto 4, 3) := by decide +kernel
theorem dX11_trace_27 : decode cX11_trace 27 = .ok (.iconst (-1), 1) := by decide +kernel
theorem dX11_trace_28 : decode cX11_trace 28 = .ok (.ireturn, 1) := by decide +kernel
theorem dX11_keep_0 : decode cX11_keep 0 = .ok (.iload_n 1, 1) := by decide +kernel
theorem dX11_keep_1 : decode cX11_keep 1 = .ok (.invokestatic 153, 3) := by decide +kernel
theorem dX11_keep_4 : decode cX11_keep 4 = .ok (.ifCond .eq 19, 3) := by decide +kernel
theorem dX11_keep_7 : decode cX11_keep 7 = .ok (.iload_n 2, 1) := by decide +kernel
theorem dX11_keep_8 : decode cX11_keep 8 = .ok (.iconst (-1), 1) := by decide +kernel
theorem dX11_keep_9 : decode cX11_keep 9 = .ok (.if_icmp .lt 14, 3) := by decide +kernel
theorem dX11_keep_12 : decode cX11_keep 12 = .ok (.iload_n 2, 1) := by decide +kernel
theorem dX11_keep_13 : decode cX11_keep 13 = .ok (.aload_n 0, 1) := by decide +kernel
theorem dX11_keep_14 : decode cX11_keep 14 = .ok (.getfield 70, 3) := by decide +kernel
theorem dX11_keep_17 : decode cX11_keep 17 = .ok (.getfield 316, 3) := by decide +kernel
theorem dX11_keep_20 : decode cX11_keep 20 = .ok (.if_icmp .lt 5, 3) := by decide +kernel
theorem dX11_keep_23 : decode cX11_keep 23 = .ok (.iconst (-1), 1) := by decide +kernel
theorem dX11_keep_24 : decode cX11_keep 24 = .ok (.ireturn, 1) := by decide +kernel
theorem dX11_keep_25 : decode cX11_keep 25 = .ok (.aload_n 0, 1) := by decide +kernel
theorem dX11_keep_26 : decode cX11_keep 26 = .ok (.getfield 76, 3) := by decide +kernel
theorem dX11_keep_29 : decode cX11_keep 29 = .ok (.iload_n 1, 1) := by decide +kernel
theorem dX11_keep_30 : decode cX11_keep 30 = .ok (.aaload, 1) := by decide +kernel
theorem dX11_keep_31 : decode cX11_keep 31 = .ok (.iload_n 2, 1) := by decide +kernel
theorem dX11_keep_32 : decode cX11_keep 32 = .ok (.invokevirtual 326, 3) := by decide +kernel
theorem dX11_keep_35 : decode cX11_keep 35 = .ok (.iconst 1, 1) := by decide +kernel
theorem dX11_keep_36 : decode cX11_keep 36 = .ok (.ireturn, 1) := by decide +kernel
theorem dX11_row_0 : decode cX11_row 0 = .ok (.iload_n 1, 1) := by decide +kernel
theorem dX11_row_1 : decode cX11_row 1 = .ok (.invokestatic 153, 3) := by decide +kernel
theorem dX11_row_4 : decode cX11_row 4 = .ok (.ifCond .eq 18, 3) := by decide +kernel
theorem dX11_row_7 : decode cX11_row 7 = .ok (.iload_n 2, 1) := by decide +kernel
theorem dX11_row_8 : decode cX11_row 8 = .ok (.ifCond .lt 14, 3) := by decide +kernel
theorem dX11_row_11 : decode cX11_row 11 = .ok (.iload_n 2, 1) := by decide +kernel
theorem dX11_row_12 : decode cX11_row 12 = .ok (.iconst 4, 1) := by decide +kernel
theorem dX11_row_13 : decode cX11_row 13 = .ok (.if_icmp .gt 9, 3) := by decide +kernel
theorem dX11_row_16 : decode cX11_row 16 = .ok (.iload_n 3, 1) := by decide +kernel
theorem dX11_row_17 : decode cX11_row 17 = .ok (.bipush 60, 2) := by decide +kernel
theorem dX11_row_19 : decode cX11_row 19 = .ok (.if_icmp .le 5, 3) := by decide +kernel
theorem dX11_row_22 : decode cX11_row 22 = .ok (.iconst (-1), 1) := by decide +kernel
theorem dX11_row_23 : decode cX11_row 23 = .ok (.ireturn, 1) := by decide +kernel
theorem dX11_row_24 : decode cX11_row 24 = .ok (.iload_n 3, 1) := by decide +kernel
theorem dX11_row_25 : decode cX11_row 25 = .ok (.ifCond .ge 6, 3) := by decide +kernel
theorem dX11_row_28 : decode cX11_row 28 = .ok (.bipush (-14), 2) := by decide +kernel
theorem dX11_row_30 : decode cX11_row 30 = .ok (.ireturn, 1) := by decide +kernel
theorem dX11_row_31 : decode cX11_row 31 = .ok (.aload_n 0, 1) := by decide +kernel
theorem dX11_row_32 : decode cX11_row 32 = .ok (.getfield 76, 3) := by decide +kernel
theorem dX11_row_35 : decode cX11_row 35 = .ok (.iload_n 1, 1) := by decide +kernel
theorem dX11_row_36 : decode cX11_row 36 = .ok (.aaload, 1) := by decide +kernel
theorem dX11_row_37 : decode cX11_row 37 = .ok (.iload_n 2, 1) := by decide +kernel
theorem dX11_row_38 : decode cX11_row 38 = .ok (.iload_n 3, 1) := by decide +kernel
theorem dX11_row_39 : decode cX11_row 39 = .ok (.invokevirtual 330, 3) := by decide +kernel
theorem dX11_row_42 : decode cX11_row 42 = .ok (.iconst 1, 1) := by decide +kernel
theorem dX11_row_43 : decode cX11_row 43 = .ok (.ireturn, 1) := by decide +kernel
theorem dX11_put_0 : decode cX11_put 0 = .ok (.iload_n 1, 1) := by decide +kernel
theorem dX11_put_1 : decode cX11_put 1 = .ok (.invokestatic 153, 3) := by decide +kernel
theorem dX11_put_4 : decode cX11_put 4 = .ok (.ifCond .ne 5, 3) := by decide +kernel
theorem dX11_put_7 : decode cX11_put 7 = .ok (.iconst (-1), 1) := by decide +kernel
theorem dX11_put_8 : decode cX11_put 8 = .ok (.ireturn, 1) := by decide +kernel
theorem dX11_put_9 : decode cX11_put 9 = .ok (.aload_n 0, 1) := by decide +kernel
theorem dX11_put_10 : decode cX11_put 10 = .ok (.getfield 76, 3) := by decide +kernel
theorem dX11_put_13 : decode cX11_put 13 = .ok (.iload_n 1, 1) := by decide +kernel
theorem dX11_put_14 : decode cX11_put 14 = .ok (.aaload, 1) := by decide +kernel
theorem dX11_put_15 : decode cX11_put 15 = .ok (.astore 5, 2) := by decide +kernel
theorem dX11_put_17 : decode cX11_put 17 = .ok (.aload 5, 2) := by decide +kernel
theorem dX11_put_19 : decode cX11_put 19 = .ok (.iload_n 2, 1) := by decide +kernel
theorem dX11_put_20 : decode cX11_put 20 = .ok (.invokevirtual 334, 3) := by decide +kernel
theorem dX11_put_23 : decode cX11_put 23 = .ok (.istore 6, 2) := by decide +kernel
theorem dX11_put_25 : decode cX11_put 25 = .ok (.iload 6, 2) := by decide +kernel
theorem dX11_put_27 : decode cX11_put 27 = .ok (.ifCond .eq 6, 3) := by decide +kernel
theorem dX11_put_30 : decode cX11_put 30 = .ok (.iload 6, 2) := by decide +kernel
theorem dX11_put_32 : decode cX11_put 32 = .ok (.ireturn, 1) := by decide +kernel
theorem dX11_put_33 : decode cX11_put 33 = .ok (.aload 5, 2) := by decide +kernel
theorem dX11_put_35 : decode cX11_put 35 = .ok (.getfield 169, 3) := by decide +kernel
theorem dX11_put_38 : decode cX11_put 38 = .ok (.iload_n 2, 1) := by decide +kernel
theorem dX11_put_39 : decode cX11_put 39 = .ok (.aload 5, 2) := by decide +kernel
theorem dX11_put_41 : decode cX11_put 41 = .ok (.getfield 159, 3) := by decide +kernel
theorem dX11_put_44 : decode cX11_put 44 = .ok (.lload_n 3, 1) := by decide +kernel
theorem dX11_put_45 : decode cX11_put 45 = .ok (.invokestatic 337, 3) := by decide +kernel
theorem dX11_put_48 : decode cX11_put 48 = .ok (.lastore, 1) := by decide +kernel
theorem dX11_put_49 : decode cX11_put 49 = .ok (.iconst 1, 1) := by decide +kernel
theorem dX11_put_50 : decode cX11_put 50 = .ok (.ireturn, 1) := by decide +kernel
theorem dX11_element_0 : decode cX11_element 0 = .ok (.iload_n 1, 1) := by decide +kernel
theorem dX11_element_1 : decode cX11_element 1 = .ok (.invokestatic 153, 3) := by decide +kernel
theorem dX11_element_4 : decode cX11_element 4 = .ok (.ifCond .ne 7, 3) := by decide +kernel
theorem dX11_element_7 : decode cX11_element 7 = .ok (.ldc2_w 207, 3) := by decide +kernel
theorem dX11_element_10 : decode cX11_element 10 = .ok (.lreturn, 1) := by decide +kernel
theorem dX11_element_11 : decode cX11_element 11 = .ok (.aload_n 0, 1) := by decide +kernel
theorem dX11_element_12 : decode cX11_element 12 = .ok (.getfield 76, 3) := by decide +kernel
theorem dX11_element_15 : decode cX11_element 15 = .ok (.iload_n 1, 1) := by decide +kernel
theorem dX11_element_16 : decode cX11_element 16 = .ok (.aaload, 1) := by decide +kernel
theorem dX11_element_17 : decode cX11_element 17 = .ok (.astore_n 3, 1) := by decide +kernel
theorem dX11_element_18 : decode cX11_element 18 = .ok (.aload_n 3, 1) := by decide +kernel
theorem dX11_element_19 : decode cX11_element 19 = .ok (.iload_n 2, 1) := by decide +kernel
theorem dX11_element_20 : decode cX11_element 20 = .ok (.invokevirtual 334, 3) := by decide +kernel
theorem dX11_element_23 : decode cX11_element 23 = .ok (.ifCond .ne 12, 3) := by decide +kernel
theorem dX11_element_26 : decode cX11_element 26 = .ok (.aload_n 3, 1) := by decide +kernel
theorem dX11_element_27 : decode cX11_element 27 = .ok (.getfield 169, 3) := by decide +kernel
theorem dX11_element_30 : decode cX11_element 30 = .ok (.iload_n 2, 1) := by decide +kernel
theorem dX11_element_31 : decode cX11_element 31 = .ok (.laload, 1) := by decide +kernel
theorem dX11_element_32 : decode cX11_element 32 = .ok (.goto 6, 3) := by decide +kernel
theorem dX11_element_35 : decode cX11_element 35 = .ok (.ldc2_w 207, 3) := by decide +kernel
theorem dX11_element_38 : decode cX11_element 38 = .ok (.lreturn, 1) := by decide +kernel
theorem dX11_shift_0 : decode cX11_shift 0 = .ok (.iload_n 1, 1) := by decide +kernel
theorem dX11_shift_1 : decode cX11_shift 1 = .ok (.invokestatic 153, 3) := by decide +kernel
theorem dX11_shift_4 : decode cX11_shift 4 = .ok (.ifCond .eq 10, 3) := by decide +kernel
theorem dX11_shift_7 : decode cX11_shift 7 = .ok (.iload_n 3, 1) := by decide +kernel
theorem dX11_shift_8 : decode cX11_shift 8 = .ok (.invokestatic 153, 3) := by decide +kernel
theorem dX11_shift_11 : decode cX11_shift 11 = .ok (.ifCond .ne 5, 3) := by decide +kernel
theorem dX11_shift_14 : decode cX11_shift 14 = .ok (.iconst (-1), 1) := by decide +kernel
theorem dX11_shift_15 : decode cX11_shift 15 = .ok (.ireturn, 1) := by decide +kernel
theorem dX11_shift_16 : decode cX11_shift 16 = .ok (.aload_n 0, 1) := by decide +kernel
theorem dX11_shift_17 : decode cX11_shift 17 = .ok (.getfield 76, 3) := by decide +kernel
theorem dX11_shift_20 : decode cX11_shift 20 = .ok (.iload_n 1, 1) := by decide +kernel
theorem dX11_shift_21 : decode cX11_shift 21 = .ok (.aaload, 1) := by decide +kernel
theorem dX11_shift_22 : decode cX11_shift 22 = .ok (.astore 6, 2) := by decide +kernel
theorem dX11_shift_24 : decode cX11_shift 24 = .ok (.aload_n 0, 1) := by decide +kernel
theorem dX11_shift_25 : decode cX11_shift 25 = .ok (.getfield 76, 3) := by decide +kernel
theorem dX11_shift_28 : decode cX11_shift 28 = .ok (.iload_n 3, 1) := by decide +kernel
theorem dX11_shift_29 : decode cX11_shift 29 = .ok (.aaload, 1) := by decide +kernel
theorem dX11_shift_30 : decode cX11_shift 30 = .ok (.astore 7, 2) := by decide +kernel
theorem dX11_shift_32 : decode cX11_shift 32 = .ok (.aload 6, 2) := by decide +kernel
theorem dX11_shift_34 : decode cX11_shift 34 = .ok (.getfield 156, 3) := by decide +kernel
theorem dX11_shift_37 : decode cX11_shift 37 = .ok (.ifCond .eq 11, 3) := by decide +kernel
theorem dX11_shift_40 : decode cX11_shift 40 = .ok (.aload 7, 2) := by decide +kernel
theorem dX11_shift_42 : decode cX11_shift 42 = .ok (.getfield 156, 3) := by decide +kernel
theorem dX11_shift_45 : decode cX11_shift 45 = .ok (.ifCond .ne 6, 3) := by decide +kernel
theorem dX11_shift_48 : decode cX11_shift 48 = .ok (.bipush (-11), 2) := by decide +kernel
theorem dX11_shift_50 : decode cX11_shift 50 = .ok (.ireturn, 1) := by decide +kernel
theorem dX11_shift_51 : decode cX11_shift 51 = .ok (.aload 6, 2) := by decide +kernel
theorem dX11_shift_53 : decode cX11_shift 53 = .ok (.getfield 156, 3) := by decide +kernel
theorem dX11_shift_56 : decode cX11_shift 56 = .ok (.iconst 2, 1) := by decide +kernel
theorem dX11_shift_57 : decode cX11_shift 57 = .ok (.if_icmp .ne 25, 3) := by decide +kernel
theorem dX11_shift_60 : decode cX11_shift 60 = .ok (.aload 7, 2) := by decide +kernel
theorem dX11_shift_62 : decode cX11_shift 62 = .ok (.getfield 156, 3) := by decide +kernel
theorem dX11_shift_65 : decode cX11_shift 65 = .ok (.iconst 2, 1) := by decide +kernel
theorem dX11_shift_66 : decode cX11_shift 66 = .ok (.if_icmp .ne 16, 3) := by decide +kernel
theorem dX11_shift_69 : decode cX11_shift 69 = .ok (.aload 6, 2) := by decide +kernel
theorem dX11_shift_71 : decode cX11_shift 71 = .ok (.getfield 159, 3) := by decide +kernel
theorem dX11_shift_74 : decode cX11_shift 74 = .ok (.aload 7, 2) := by decide +kernel
theorem dX11_shift_76 : decode cX11_shift 76 = .ok (.getfield 159, 3) := by decide +kernel
theorem dX11_shift_79 : decode cX11_shift 79 = .ok (.if_icmp .eq 6, 3) := by decide +kernel
theorem dX11_shift_82 : decode cX11_shift 82 = .ok (.bipush (-12), 2) := by decide +kernel
theorem dX11_shift_84 : decode cX11_shift 84 = .ok (.ireturn, 1) := by decide +kernel
theorem dX11_shift_85 : decode cX11_shift 85 = .ok (.aload 6, 2) := by decide +kernel
theorem dX11_shift_87 : decode cX11_shift 87 = .ok (.iload_n 2, 1) := by decide +kernel
theorem dX11_shift_88 : decode cX11_shift 88 = .ok (.iload 5, 2) := by decide +kernel
theorem dX11_shift_90 : decode cX11_shift 90 = .ok (.invokevirtual 341, 3) := by decide +kernel
theorem dX11_shift_93 : decode cX11_shift 93 = .ok (.ifCond .eq 15, 3) := by decide +kernel
theorem dX11_shift_96 : decode cX11_shift 96 = .ok (.aload 7, 2) := by decide +kernel
theorem dX11_shift_98 : decode cX11_shift 98 = .ok (.iload 4, 2) := by decide +kernel
theorem dX11_shift_100 : decode cX11_shift 100 = .ok (.iload 5, 2) := by decide +kernel
theorem dX11_shift_102 : decode cX11_shift 102 = .ok (.invokevirtual 341, 3) := by decide +kernel
theorem dX11_shift_105 : decode cX11_shift 105 = .ok (.ifCond .ne 6, 3) := by decide +kernel
theorem dX11_shift_108 : decode cX11_shift 108 = .ok (.bipush (-13), 2) := by decide +kernel
theorem dX11_shift_110 : decode cX11_shift 110 = .ok (.ireturn, 1) := by decide +kernel
theorem dX11_shift_111 : decode cX11_shift 111 = .ok (.aload 6, 2) := by decide +kernel
theorem dX11_shift_113 : decode cX11_shift 113 = .ok (.getfield 169, 3) := by decide +kernel
theorem dX11_shift_116 : decode cX11_shift 116 = .ok (.iload_n 2, 1) := by decide +kernel
theorem dX11_shift_117 : decode cX11_shift 117 = .ok (.aload 7, 2) := by decide +kernel
theorem dX11_shift_119 : decode cX11_shift 119 = .ok (.getfield 169, 3) := by decide +kernel
theorem dX11_shift_122 : decode cX11_shift 122 = .ok (.iload 4, 2) := by decide +kernel
theorem dX11_shift_124 : decode cX11_shift 124 = .ok (.iload 5, 2) := by decide +kernel
theorem dX11_shift_126 : decode cX11_shift 126 = .ok (.invokestatic 345, 3) := by decide +kernel
theorem dX11_shift_129 : decode cX11_shift 129 = .ok (.iload 5, 2) := by decide +kernel
theorem dX11_shift_131 : decode cX11_shift 131 = .ok (.ireturn, 1) := by decide +kernel
theorem dX11_taken_0 : decode cX11_taken 0 = .ok (.iload_n 1, 1) := by decide +kernel
theorem dX11_taken_1 : decode cX11_taken 1 = .ok (.invokestatic 153, 3) := by decide +kernel
theorem dX11_taken_4 : decode cX11_taken 4 = .ok (.ifCond .eq 10, 3) := by decide +kernel
theorem dX11_taken_7 : decode cX11_taken 7 = .ok (.iload_n 2, 1) := by decide +kernel
theorem dX11_taken_8 : decode cX11_taken 8 = .ok (.invokestatic 311, 3) := by decide +kernel
theorem dX11_taken_11 : decode cX11_taken 11 = .ok (.ifCond .ne 5, 3) := by decide +kernel
theorem dX11_taken_14 : decode cX11_taken 14 = .ok (.iconst (-1), 1) := by decide +kernel
theorem dX11_taken_15 : decode cX11_taken 15 = .ok (.ireturn, 1) := by decide +kernel
theorem dX11_taken_16 : decode cX11_taken 16 = .ok (.aload_n 0, 1) := by decide +kernel
theorem dX11_taken_17 : decode cX11_taken 17 = .ok (.getfield 76, 3) := by decide +kernel
theorem dX11_taken_20 : decode cX11_taken 20 = .ok (.iload_n 1, 1) := by decide +kernel
theorem dX11_taken_21 : decode cX11_taken 21 = .ok (.aaload, 1) := by decide +kernel
theorem dX11_taken_22 : decode cX11_taken 22 = .ok (.astore_n 3, 1) := by decide +kernel
theorem dX11_taken_23 : decode cX11_taken 23 = .ok (.aload_n 3, 1) := by decide +kernel
theorem dX11_taken_24 : decode cX11_taken 24 = .ok (.getfield 156, 3) := by decide +kernel
theorem dX11_taken_27 : decode cX11_taken 27 = .ok (.ifCond .ne 6, 3) := by decide +kernel
theorem dX11_taken_30 : decode cX11_taken 30 = .ok (.bipush (-11), 2) := by decide +kernel
theorem dX11_taken_32 : decode cX11_taken 32 = .ok (.ireturn, 1) := by decide +kernel
theorem dX11_taken_33 : decode cX11_taken 33 = .ok (.aload_n 3, 1) := by decide +kernel
theorem dX11_taken_34 : decode cX11_taken 34 = .ok (.getfield 156, 3) := by decide +kernel
theorem dX11_taken_37 : decode cX11_taken 37 = .ok (.iconst 1, 1) := by decide +kernel
theorem dX11_taken_38 : decode cX11_taken 38 = .ok (.if_icmp .eq 6, 3) := by decide +kernel
theorem dX11_taken_41 : decode cX11_taken 41 = .ok (.bipush (-12), 2) := by decide +kernel
theorem dX11_taken_43 : decode cX11_taken 43 = .ok (.ireturn, 1) := by decide +kernel
theorem dX11_taken_44 : decode cX11_taken 44 = .ok (.aload_n 0, 1) := by decide +kernel
theorem dX11_taken_45 : decode cX11_taken 45 = .ok (.getfield 70, 3) := by decide +kernel
theorem dX11_taken_48 : decode cX11_taken 48 = .ok (.aload_n 3, 1) := by decide +kernel
theorem dX11_taken_49 : decode cX11_taken 49 = .ok (.getfield 351, 3) := by decide +kernel
theorem dX11_taken_52 : decode cX11_taken 52 = .ok (.invokevirtual 354, 3) := by decide +kernel
theorem dX11_taken_55 : decode cX11_taken 55 = .ok (.istore 4, 2) := by decide +kernel
theorem dX11_taken_57 : decode cX11_taken 57 = .ok (.iload 4, 2) := by decide +kernel
theorem dX11_taken_59 : decode cX11_taken 59 = .ok (.iload_n 2, 1) := by decide +kernel
theorem dX11_taken_60 : decode cX11_taken 60 = .ok (.invokestatic 357, 3) := by decide +kernel
theorem dX11_taken_63 : decode cX11_taken 63 = .ok (.ifCond .eq 8, 3) := by decide +kernel
theorem dX11_taken_66 : decode cX11_taken 66 = .ok (.iload 4, 2) := by decide +kernel
theorem dX11_taken_68 : decode cX11_taken 68 = .ok (.goto 5, 3) := by decide +kernel
theorem dX11_taken_71 : decode cX11_taken 71 = .ok (.bipush (-12), 2) := by decide +kernel
theorem dX11_taken_73 : decode cX11_taken 73 = .ok (.ireturn, 1) := by decide +kernel
theorem dX11_count_0 : decode cX11_count 0 = .ok (.iload_n 1, 1) := by decide +kernel
theorem dX11_count_1 : decode cX11_count 1 = .ok (.tableswitch 75 0 4 #[35, 43, 51, 59, 67], 35) := by decide +kernel
theorem dX11_count_36 : decode cX11_count 36 = .ok (.aload_n 0, 1) := by decide +kernel
theorem dX11_count_37 : decode cX11_count 37 = .ok (.getfield 21, 3) := by decide +kernel
theorem dX11_count_40 : decode cX11_count 40 = .ok (.getfield 88, 3) := by decide +kernel
theorem dX11_count_43 : decode cX11_count 43 = .ok (.ireturn, 1) := by decide +kernel
theorem dX11_count_44 : decode cX11_count 44 = .ok (.aload_n 0, 1) := by decide +kernel
theorem dX11_count_45 : decode cX11_count 45 = .ok (.getfield 10, 3) := by decide +kernel
theorem dX11_count_48 : decode cX11_count 48 = .ok (.getfield 178, 3) := by decide +kernel
theorem dX11_count_51 : decode cX11_count 51 = .ok (.ireturn, 1) := by decide +kernel
theorem dX11_count_52 : decode cX11_count 52 = .ok (.aload_n 0, 1) := by decide +kernel
theorem dX11_count_53 : decode cX11_count 53 = .ok (.getfield 63, 3) := by decide +kernel
theorem dX11_count_56 : decode cX11_count 56 = .ok (.getfield 301, 3) := by decide +kernel
theorem dX11_count_59 : decode cX11_count 59 = .ok (.ireturn, 1) := by decide +kernel
theorem dX11_count_60 : decode cX11_count 60 = .ok (.aload_n 0, 1) := by decide +kernel
theorem dX11_count_61 : decode cX11_count 61 = .ok (.getfield 70, 3) := by decide +kernel
theorem dX11_count_64 : decode cX11_count 64 = .ok (.getfield 316, 3) := by decide +kernel
theorem dX11_count_67 : decode cX11_count 67 = .ok (.ireturn, 1) := by decide +kernel
theorem dX11_count_68 : decode cX11_count 68 = .ok (.aload_n 0, 1) := by decide +kernel
theorem dX11_count_69 : decode cX11_count 69 = .ok (.getfield 70, 3) := by decide +kernel
theorem dX11_count_72 : decode cX11_count 72 = .ok (.getfield 360, 3) := by decide +kernel
theorem dX11_count_75 : decode cX11_count 75 = .ok (.ireturn, 1) := by decide +kernel
theorem dX11_count_76 : decode cX11_count 76 = .ok (.iconst (-1), 1) := by decide +kernel
theorem dX11_count_77 : decode cX11_count 77 = .ok (.ireturn, 1) := by decide +kernel
theorem dX11_isBaker_0 : decode cX11_isBaker 0 = .ok (.iload_n 0, 1) := by decide +kernel
theorem dX11_isBaker_1 : decode cX11_isBaker 1 = .ok (.ifCond .eq 8, 3) := by decide +kernel
theorem dX11_isBaker_4 : decode cX11_isBaker 4 = .ok (.iload_n 0, 1) := by decide +kernel
theorem dX11_isBaker_5 : decode cX11_isBaker 5 = .ok (.iconst 1, 1) := by decide +kernel
theorem dX11_isBaker_6 : decode cX11_isBaker 6 = .ok (.if_icmp .ne 7, 3) := by decide +kernel
theorem dX11_isBaker_9 : decode cX11_isBaker 9 = .ok (.iconst 1, 1) := by decide +kernel
theorem dX11_isBaker_10 : decode cX11_isBaker 10 = .ok (.goto 4, 3) := by decide +kernel
theorem dX11_isBaker_13 : decode cX11_isBaker 13 = .ok (.iconst 0, 1) := by decide +kernel
theorem dX11_isBaker_14 : decode cX11_isBaker 14 = .ok (.ireturn, 1) := by decide +kernel
theorem dX11_isShelf_0 : decode cX11_isShelf 0 = .ok (.iload_n 0, 1) := by decide +kernel
theorem dX11_isShelf_1 : decode cX11_isShelf 1 = .ok (.ifCond .lt 13, 3) := by decide +kernel
theorem dX11_isShelf_4 : decode cX11_isShelf 4 = .ok (.iload_n 0, 1) := by decide +kernel
theorem dX11_isShelf_5 : decode cX11_isShelf 5 = .ok (.bipush 6, 2) := by decide +kernel
theorem dX11_isShelf_7 : decode cX11_isShelf 7 = .ok (.if_icmp .ge 7, 3) := by decide +kernel
theorem dX11_isShelf_10 : decode cX11_isShelf 10 = .ok (.iconst 1, 1) := by decide +kernel
theorem dX11_isShelf_11 : decode cX11_isShelf 11 = .ok (.goto 4, 3) := by decide +kernel
theorem dX11_isShelf_14 : decode cX11_isShelf 14 = .ok (.iconst 0, 1) := by decide +kernel
theorem dX11_isShelf_15 : decode cX11_isShelf 15 = .ok (.ireturn, 1) := by decide +kernel
theorem dX11_isKind_0 : decode cX11_isKind 0 = .ok (.iload_n 0, 1) := by decide +kernel
theorem dX11_isKind_1 : decode cX11_isKind 1 = .ok (.ifCond .lt 13, 3) := by decide +kernel
theorem dX11_isKind_4 : decode cX11_isKind 4 = .ok (.iload_n 0, 1) := by decide +kernel
theorem dX11_isKind_5 : decode cX11_isKind 5 = .ok (.bipush 8, 2) := by decide +kernel
theorem dX11_isKind_7 : decode cX11_isKind 7 = .ok (.if_icmp .ge 7, 3) := by decide +kernel
theorem dX11_isKind_10 : decode cX11_isKind 10 = .ok (.iconst 1, 1) := by decide +kernel
theorem dX11_isKind_11 : decode cX11_isKind 11 = .ok (.goto 4, 3) := by decide +kernel
theorem dX11_isKind_14 : decode cX11_isKind 14 = .ok (.iconst 0, 1) := by decide +kernel
theorem dX11_isKind_15 : decode cX11_isKind 15 = .ok (.ireturn, 1) := by decide +kernel
theorem dX12_init_0 : decode cX12_init 0 = .ok (.aload_n 0, 1) := by decide +kernel
theorem dX12_init_1 : decode cX12_init 1 = .ok (.invokespecial 1, 3) := by decide +kernel
theorem dX12_init_4 : decode cX12_init 4 = .ok (.aload_n 0, 1) := by decide +kernel
theorem dX12_init_5 : decode cX12_init 5 = .ok (.iconst 5, 1) := by decide +kernel
theorem dX12_init_6 : decode cX12_init 6 = .ok (.newarray .int, 2) := by decide +kernel
theorem dX12_init_8 : decode cX12_init 8 = .ok (.putfield 7, 3) := by decide +kernel
theorem dX12_init_11 : decode cX12_init 11 = .ok (.aload_n 0, 1) := by decide +kernel
theorem dX12_init_12 : decode cX12_init 12 = .ok (.iconst 5, 1) := by decide +kernel
theorem dX12_init_13 : decode cX12_init 13 = .ok (.newarray .int, 2) := by decide +kernel
theorem dX12_init_15 : decode cX12_init 15 = .ok (.putfield 13, 3) := by decide +kernel
theorem dX12_init_18 : decode cX12_init 18 = .ok (.aload_n 0, 1) := by decide +kernel
theorem dX12_init_19 : decode cX12_init 19 = .ok (.iconst 5, 1) := by decide +kernel
theorem dX12_init_20 : decode cX12_init 20 = .ok (.newarray .int, 2) := by decide +kernel
theorem dX12_init_22 : decode cX12_init 22 = .ok (.putfield 16, 3) := by decide +kernel
theorem dX12_init_25 : decode cX12_init 25 = .ok (.aload_n 0, 1) := by decide +kernel
theorem dX12_init_26 : decode cX12_init 26 = .ok (.iconst 2, 1) := by decide +kernel
theorem dX12_init_27 : decode cX12_init 27 = .ok (.newarray .int, 2) := by decide +kernel
theorem dX12_init_29 : decode cX12_init 29 = .ok (.dup, 1) := by decide +kernel
theorem dX12_init_30 : decode cX12_init 30 = .ok (.iconst 0, 1) := by decide +kernel
theorem dX12_init_31 : decode cX12_init 31 = .ok (.bipush 6, 2) := by decide +kernel
theorem dX12_init_33 : decode cX12_init 33 = .ok (.iastore, 1) := by decide +kernel
theorem dX12_init_34 : decode cX12_init 34 = .ok (.dup, 1) := by decide +kernel
theorem dX12_init_35 : decode cX12_init 35 = .ok (.iconst 1, 1) := by decide +kernel
theorem dX12_init_36 : decode cX12_init 36 = .ok (.bipush 6, 2) := by decide +kernel
theorem dX12_init_38 : decode cX12_init 38 = .ok (.iastore, 1) := by decide +kernel
theorem dX12_init_39 : decode cX12_init 39 = .ok (.putfield 19, 3) := by decide +kernel
theorem dX12_init_42 : decode cX12_init 42 = .ok (.aload_n 0, 1) := by decide +kernel
theorem dX12_init_43 : decode cX12_init 43 = .ok (.iconst 2, 1) := by decide +kernel
theorem dX12_init_44 : decode cX12_init 44 = .ok (.newarray .int, 2) := by decide +kernel
theorem dX12_init_46 : decode cX12_init 46 = .ok (.putfield 22, 3) := by decide +kernel
theorem dX12_init_49 : decode cX12_init 49 = .ok (.aload_n 0, 1) := by decide +kernel
theorem dX12_init_50 : decode cX12_init 50 = .ok (.bipush 16, 2) := by decide +kernel
theorem dX12_init_52 : decode cX12_init 52 = .ok (.newarray .int, 2) := by decide +kernel
theorem dX12_init_54 : decode cX12_init 54 = .ok (.putfield 25, 3) := by decide +kernel
theorem dX12_init_57 : decode cX12_init 57 = .ok (.aload_n 0, 1) := by decide +kernel
theorem dX12_init_58 : decode cX12_init 58 = .ok (.bipush 80, 2) := by decide +kernel
theorem dX12_init_60 : decode cX12_init 60 = .ok (.newarray .byte, 2) := by decide +kernel
theorem dX12_init_62 : decode cX12_init 62 = .ok (.putfield 28, 3) := by decide +kernel
theorem dX12_init_65 : decode cX12_init 65 = .ok (.aload_n 0, 1) := by decide +kernel
theorem dX12_init_66 : decode cX12_init 66 = .ok (.bipush 40, 2) := by decide +kernel
theorem dX12_init_68 : decode cX12_init 68 = .ok (.newarray .int, 2) := by decide +kernel
theorem dX12_init_70 : decode cX12_init 70 = .ok (.putfield 32, 3) := by decide +kernel
theorem dX12_init_73 : decode cX12_init 73 = .ok (.aload_n 0, 1) := by decide +kernel
theorem dX12_init_74 : decode cX12_init 74 = .ok (.bipush 40, 2) := by decide +kernel
theorem dX12_init_76 : decode cX12_init 76 = .ok (.newarray .int, 2) := by decide +kernel
theorem dX12_init_78 : decode cX12_init 78 = .ok (.putfield 35, 3) := by decide +kernel
theorem dX12_init_81 : decode cX12_init 81 = .ok (.aload_n 0, 1) := by decide +kernel
theorem dX12_init_82 : decode cX12_init 82 = .ok (.bipush 40, 2) := by decide +kernel
theorem dX12_init_84 : decode cX12_init 84 = .ok (.newarray .int, 2) := by decide +kernel
theorem dX12_init_86 : decode cX12_init 86 = .ok (.putfield 38, 3) := by decide +kernel
theorem dX12_init_89 : decode cX12_init 89 = .ok (.aload_n 0, 1) := by decide +kernel
theorem dX12_init_90 : decode cX12_init 90 = .ok (.bipush 40, 2) := by decide +kernel
theorem dX12_init_92 : decode cX12_init 92 = .ok (.newarray .int, 2) := by decide +kernel
theorem dX12_init_94 : decode cX12_init 94 = .ok (.putfield 41, 3) := by decide +kernel
theorem dX12_init_97 : decode cX12_init 97 = .ok (.aload_n 0, 1) := by decide +kernel
theorem dX12_init_98 : decode cX12_init 98 = .ok (.iconst 5, 1) := by decide +kernel
theorem dX12_init_99 : decode cX12_init 99 = .ok (.newarray .int, 2) := by decide +kernel
theorem dX12_init_101 : decode cX12_init 101 = .ok (.putfield 44, 3) := by decide +kernel
theorem dX12_init_104 : decode cX12_init 104 = .ok (.aload_n 0, 1) := by decide +kernel
theorem dX12_init_105 : decode cX12_init 105 = .ok (.bipush 120, 2) := by decide +kernel
theorem dX12_init_107 : decode cX12_init 107 = .ok (.newarray .byte, 2) := by decide +kernel
theorem dX12_init_109 : decode cX12_init 109 = .ok (.putfield 47, 3) := by decide +kernel
theorem dX12_init_112 : decode cX12_init 112 = .ok (.aload_n 0, 1) := by decide +kernel
theorem dX12_init_113 : decode cX12_init 113 = .ok (.sipush 260, 3) := by decide +kernel
theorem dX12_init_116 : decode cX12_init 116 = .ok (.newarray .byte, 2) := by decide +kernel
theorem dX12_init_118 : decode cX12_init 118 = .ok (.putfield 50, 3) := by decide +kernel
theorem dX12_init_121 : decode cX12_init 121 = .ok (.aload_n 0, 1) := by decide +kernel
theorem dX12_init_122 : decode cX12_init 122 = .ok (.sipush 260, 3) := by decide +kernel
theorem dX12_init_125 : decode cX12_init 125 = .ok (.newarray .int, 2) := by decide +kernel
theorem dX12_init_127 : decode cX12_init 127 = .ok (.putfield 53, 3) := by decide +kernel
theorem dX12_init_130 : decode cX12_init 130 = .ok (.aload_n 0, 1) := by decide +kernel
theorem dX12_init_131 : decode cX12_init 131 = .ok (.iconst 2, 1) := by decide +kernel
theorem dX12_init_132 : decode cX12_init 132 = .ok (.newarray .int, 2) := by decide +kernel
theorem dX12_init_134 : decode cX12_init 134 = .ok (.putfield 56, 3) := by decide +kernel
theorem dX12_init_137 : decode cX12_init 137 = .ok (.aload_n 0, 1) := by decide +kernel
theorem dX12_init_138 : decode cX12_init 138 = .ok (.bipush 122, 2) := by decide +kernel
theorem dX12_init_140 : decode cX12_init 140 = .ok (.newarray .short, 2) := by decide +kernel
theorem dX12_init_142 : decode cX12_init 142 = .ok (.putfield 59, 3) := by decide +kernel
theorem dX12_init_145 : decode cX12_init 145 = .ok (.aload_n 0, 1) := by decide +kernel
theorem dX12_init_146 : decode cX12_init 146 = .ok (.bipush 122, 2) := by decide +kernel
theorem dX12_init_148 : decode cX12_init 148 = .ok (.newarray .short, 2) := by decide +kernel
theorem dX12_init_150 : decode cX12_init 150 = .ok (.putfield 63, 3) := by decide +kernel
theorem dX12_init_153 : decode cX12_init 153 = .ok (.aload_n 0, 1) := by decide +kernel
theorem dX12_init_154 : decode cX12_init 154 = .ok (.iconst 5, 1) := by decide +kernel
theorem dX12_init_155 : decode cX12_init 155 = .ok (.newarray .int, 2) := by decide +kernel
theorem dX12_init_157 : decode cX12_init 157 = .ok (.putfield 66, 3) := by decide +kernel
theorem dX12_init_160 : decode cX12_init 160 = .ok (.aload_n 0, 1) := by decide +kernel
theorem dX12_init_161 : decode cX12_init 161 = .ok (.sipush 130, 3) := by decide +kernel
theorem dX12_init_164 : decode cX12_init 164 = .ok (.newarray .int, 2) := by decide +kernel
theorem dX12_init_166 : decode cX12_init 166 = .ok (.putfield 69, 3) := by decide +kernel
theorem dX12_init_169 : decode cX12_init 169 = .ok (.aload_n 0, 1) := by decide +kernel
theorem dX12_init_170 : decode cX12_init 170 = .ok (.sipush 500, 3) := by decide +kernel
theorem dX12_init_173 : decode cX12_init 173 = .ok (.newarray .byte, 2) := by decide +kernel
theorem dX12_init_175 : decode cX12_init 175 = .ok (.putfield 72, 3) := by decide +kernel
theorem dX12_init_178 : decode cX12_init 178 = .ok (.aload_n 0, 1) := by decide +kernel
theorem dX12_init_179 : decode cX12_init 179 = .ok (.iconst 5, 1) := by decide +kernel
theorem dX12_init_180 : decode cX12_init 180 = .ok (.newarray .int, 2) := by decide +kernel
theorem dX12_init_182 : decode cX12_init 182 = .ok (.putfield 75, 3) := by decide +kernel
theorem dX12_init_185 : decode cX12_init 185 = .ok (.aload_n 0, 1) := by decide +kernel
theorem dX12_init_186 : decode cX12_init 186 = .ok (.sipush 10010, 3) := by decide +kernel
theorem dX12_init_189 : decode cX12_init 189 = .ok (.newarray .byte, 2) := by decide +kernel
theorem dX12_init_191 : decode cX12_init 191 = .ok (.putfield 78, 3) := by decide +kernel
theorem dX12_init_194 : decode cX12_init 194 = .ok (.aload_n 0, 1) := by decide +kernel
theorem dX12_init_195 : decode cX12_init 195 = .ok (.iconst 5, 1) := by decide +kernel
theorem dX12_init_196 : decode cX12_init 196 = .ok (.newarray .int, 2) := by decide +kernel
theorem dX12_init_198 : decode cX12_init 198 = .ok (.putfield 81, 3) := by decide +kernel
theorem dX12_init_201 : decode cX12_init 201 = .ok (.aload_n 0, 1) := by decide +kernel
theorem dX12_init_202 : decode cX12_init 202 = .ok (.bipush 50, 2) := by decide +kernel
theorem dX12_init_204 : decode cX12_init 204 = .ok (.newarray .int, 2) := by decide +kernel
theorem dX12_init_206 : decode cX12_init 206 = .ok (.putfield 84, 3) := by decide +kernel
theorem dX12_init_209 : decode cX12_init 209 = .ok (.aload_n 0, 1) := by decide +kernel
theorem dX12_init_210 : decode cX12_init 210 = .ok (.sipush 1500, 3) := by decide +kernel
theorem dX12_init_213 : decode cX12_init 213 = .ok (.newarray .byte, 2) := by decide +kernel
theorem dX12_init_215 : decode cX12_init 215 = .ok (.putfield 87, 3) := by decide +kernel
theorem dX12_init_218 : decode cX12_init 218 = .ok (.aload_n 0, 1) := by decide +kernel
theorem dX12_init_219 : decode cX12_init 219 = .ok (.sipush 1500, 3) := by decide +kernel
theorem dX12_init_222 : decode cX12_init 222 = .ok (.newarray .byte, 2) := by decide +kernel
theorem dX12_init_224 : decode cX12_init 224 = .ok (.putfield 90, 3) := by decide +kernel
theorem dX12_init_227 : decode cX12_init 227 = .ok (.aload_n 0, 1) := by decide +kernel
theorem dX12_init_228 : decode cX12_init 228 = .ok (.iconst 5, 1) := by decide +kernel
theorem dX12_init_229 : decode cX12_init 229 = .ok (.newarray .byte, 2) := by decide +kernel
theorem dX12_init_231 : decode cX12_init 231 = .ok (.putfield 93, 3) := by decide +kernel
theorem dX12_init_234 : decode cX12_init 234 = .ok (.aload_n 0, 1) := by decide +kernel
theorem dX12_init_235 : decode cX12_init 235 = .ok (.sipush 300, 3) := by decide +kernel
theorem dX12_init_238 : decode cX12_init 238 = .ok (.newarray .int, 2) := by decide +kernel
theorem dX12_init_240 : decode cX12_init 240 = .ok (.putfield 96, 3) := by decide +kernel
theorem dX12_init_243 : decode cX12_init 243 = .ok (.aload_n 0, 1) := by decide +kernel
theorem dX12_init_244 : decode cX12_init 244 = .ok (.bipush 60, 2) := by decide +kernel
theorem dX12_init_246 : decode cX12_init 246 = .ok (.newarray .int, 2) := by decide +kernel
theorem dX12_init_248 : decode cX12_init 248 = .ok (.putfield 99, 3) := by decide +kernel
theorem dX12_init_251 : decode cX12_init 251 = .ok (.aload_n 0, 1) := by decide +kernel
theorem dX12_init_252 : decode cX12_init 252 = .ok (.sipush 310, 3) := by decide +kernel
theorem dX12_init_255 : decode cX12_init 255 = .ok (.newarray .byte, 2) := by decide +kernel
theorem dX12_init_257 : decode cX12_init 257 = .ok (.putfield 102, 3) := by decide +kernel
theorem dX12_init_260 : decode cX12_init 260 = .ok (.aload_n 0, 1) := by decide +kernel
theorem dX12_init_261 : decode cX12_init 261 = .ok (.iconst 2, 1) := by decide +kernel
theorem dX12_init_262 : decode cX12_init 262 = .ok (.newarray .int, 2) := by decide +kernel
theorem dX12_init_264 : decode cX12_init 264 = .ok (.putfield 105, 3) := by decide +kernel
theorem dX12_init_267 : decode cX12_init 267 = .ok (.aload_n 0, 1) := by decide +kernel
theorem dX12_init_268 : decode cX12_init 268 = .ok (.bipush 16, 2) := by decide +kernel
theorem dX12_init_270 : decode cX12_init 270 = .ok (.newarray .int, 2) := by decide +kernel
theorem dX12_init_272 : decode cX12_init 272 = .ok (.putfield 108, 3) := by decide +kernel
theorem dX12_init_275 : decode cX12_init 275 = .ok (.aload_n 0, 1) := by decide +kernel
theorem dX12_init_276 : decode cX12_init 276 = .ok (.bipush 80, 2) := by decide +kernel
theorem dX12_init_278 : decode cX12_init 278 = .ok (.newarray .byte, 2) := by decide +kernel
theorem dX12_init_280 : decode cX12_init 280 = .ok (.putfield 111, 3) := by decide +kernel
theorem dX12_init_283 : decode cX12_init 283 = .ok (.aload_n 0, 1) := by decide +kernel
theorem dX12_init_284 : decode cX12_init 284 = .ok (.bipush 50, 2) := by decide +kernel
theorem dX12_init_286 : decode cX12_init 286 = .ok (.newarray .int, 2) := by decide +kernel
theorem dX12_init_288 : decode cX12_init 288 = .ok (.putfield 114, 3) := by decide +kernel
theorem dX12_init_291 : decode cX12_init 291 = .ok (.aload_n 0, 1) := by decide +kernel
theorem dX12_init_292 : decode cX12_init 292 = .ok (.bipush 24, 2) := by decide +kernel
theorem dX12_init_294 : decode cX12_init 294 = .ok (.newarray .int, 2) := by decide +kernel
theorem dX12_init_296 : decode cX12_init 296 = .ok (.putfield 117, 3) := by decide +kernel
theorem dX12_init_299 : decode cX12_init 299 = .ok (.aload_n 0, 1) := by decide +kernel
theorem dX12_init_300 : decode cX12_init 300 = .ok (.bipush 6, 2) := by decide +kernel
theorem dX12_init_302 : decode cX12_init 302 = .ok (.newarray .int, 2) := by decide +kernel
theorem dX12_init_304 : decode cX12_init 304 = .ok (.dup, 1) := by decide +kernel
theorem dX12_init_305 : decode cX12_init 305 = .ok (.iconst 0, 1) := by decide +kernel
theorem dX12_init_306 : decode cX12_init 306 = .ok (.iconst (-1), 1) := by decide +kernel
theorem dX12_init_307 : decode cX12_init 307 = .ok (.iastore, 1) := by decide +kernel
theorem dX12_init_308 : decode cX12_init 308 = .ok (.dup, 1) := by decide +kernel
theorem dX12_init_309 : decode cX12_init 309 = .ok (.iconst 1, 1) := by decide +kernel
theorem dX12_init_310 : decode cX12_init 310 = .ok (.iconst (-1), 1) := by decide +kernel
theorem dX12_init_311 : decode cX12_init 311 = .ok (.iastore, 1) := by decide +kernel
theorem dX12_init_312 : decode cX12_init 312 = .ok (.dup, 1) := by decide +kernel
theorem dX12_init_313 : decode cX12_init 313 = .ok (.iconst 2, 1) := by decide +kernel
theorem dX12_init_314 : decode cX12_init 314 = .ok (.iconst (-1), 1) := by decide +kernel
theorem dX12_init_315 : decode cX12_init 315 = .ok (.iastore, 1) := by decide +kernel
theorem dX12_init_316 : decode cX12_init 316 = .ok (.dup, 1) := by decide +kernel
theorem dX12_init_317 : decode cX12_init 317 = .ok (.iconst 3, 1) := by decide +kernel
theorem dX12_init_318 : decode cX12_init 318 = .ok (.iconst (-1), 1) := by decide +kernel
theorem dX12_init_319 : decode cX12_init 319 = .ok (.iastore, 1) := by decide +kernel
theorem dX12_init_320 : decode cX12_init 320 = .ok (.dup, 1) := by decide +kernel
theorem dX12_init_321 : decode cX12_init 321 = .ok (.iconst 4, 1) := by decide +kernel
theorem dX12_init_322 : decode cX12_init 322 = .ok (.iconst (-1), 1) := by decide +kernel
theorem dX12_init_323 : decode cX12_init 323 = .ok (.iastore, 1) := by decide +kernel
theorem dX12_init_324 : decode cX12_init 324 = .ok (.dup, 1) := by decide +kernel
theorem dX12_init_325 : decode cX12_init 325 = .ok (.iconst 5, 1) := by decide +kernel
theorem dX12_init_326 : decode cX12_init 326 = .ok (.iconst (-1), 1) := by decide +kernel
theorem dX12_init_327 : decode cX12_init 327 = .ok (.iastore, 1) := by decide +kernel
theorem dX12_init_328 : decode cX12_init 328 = .ok (.putfield 120, 3) := by decide +kernel
theorem dX12_init_331 : decode cX12_init 331 = .ok (.aload_n 0, 1) := by decide +kernel
theorem dX12_init_332 : decode cX12_init 332 = .ok (.bipush 6, 2) := by decide +kernel
theorem dX12_init_334 : decode cX12_init 334 = .ok (.newarray .int, 2) := by decide +kernel
theorem dX12_init_336 : decode cX12_init 336 = .ok (.putfield 123, 3) := by decide +kernel
theorem dX12_init_339 : decode cX12_init 339 = .ok (.aload_n 0, 1) := by decide +kernel
theorem dX12_init_340 : decode cX12_init 340 = .ok (.sipush 360, 3) := by decide +kernel
theorem dX12_init_343 : decode cX12_init 343 = .ok (.newarray .long, 2) := by decide +kernel
theorem dX12_init_345 : decode cX12_init 345 = .ok (.putfield 126, 3) := by decide +kernel
theorem dX12_init_348 : decode cX12_init 348 = .ok (.aload_n 0, 1) := by decide +kernel
theorem dX12_init_349 : decode cX12_init 349 = .ok (.bipush 60, 2) := by decide +kernel
theorem dX12_init_351 : decode cX12_init 351 = .ok (.newarray .long, 2) := by decide +kernel
theorem dX12_init_353 : decode cX12_init 353 = .ok (.putfield 130, 3) := by decide +kernel
theorem dX12_init_356 : decode cX12_init 356 = .ok (.return_, 1) := by decide +kernel
theorem dX12_in_0 : decode cX12_in 0 = .ok (.iload_n 0, 1) := by decide +kernel
theorem dX12_in_1 : decode cX12_in 1 = .ok (.iload_n 1, 1) := by decide +kernel
theorem dX12_in_2 : decode cX12_in 2 = .ok (.if_icmp .lt 12, 3) := by decide +kernel
theorem dX12_in_5 : decode cX12_in 5 = .ok (.iload_n 0, 1) := by decide +kernel
theorem dX12_in_6 : decode cX12_in 6 = .ok (.iload_n 2, 1) := by decide +kernel
theorem dX12_in_7 : decode cX12_in 7 = .ok (.if_icmp .gt 7, 3) := by decide +kernel
theorem dX12_in_10 : decode cX12_in 10 = .ok (.iconst 1, 1) := by decide +kernel
theorem dX12_in_11 : decode cX12_in 11 = .ok (.goto 4, 3) := by decide +kernel
theorem dX12_in_14 : decode cX12_in 14 = .ok (.iconst 0, 1) := by decide +kernel
theorem dX12_in_15 : decode cX12_in 15 = .ok (.ireturn, 1) := by decide +kernel
theorem dX12_isVillage_0 : decode cX12_isVillage 0 = .ok (.iload_n 1, 1) := by decide +kernel
theorem dX12_isVillage_1 : decode cX12_isVillage 1 = .ok (.iconst 0, 1) := by decide +kernel
theorem dX12_isVillage_2 : decode cX12_isVillage 2 = .ok (.aload_n 0, 1) := by decide +kernel
theorem dX12_isVillage_3 : decode cX12_isVillage 3 = .ok (.getfield 137, 3) := by decide +kernel
theorem dX12_isVillage_6 : decode cX12_isVillage 6 = .ok (.iconst 1, 1) := by decide +kernel
theorem dX12_isVillage_7 : decode cX12_isVillage 7 = .ok (.isub, 1) := by decide +kernel
theorem dX12_isVillage_8 : decode cX12_isVillage 8 = .ok (.invokestatic 140, 3) := by decide +kernel
theorem dX12_isVillage_11 : decode cX12_isVillage 11 = .ok (.ireturn, 1) := by decide +kernel
theorem dX12_isBaker_0 : decode cX12_isBaker 0 = .ok (.iload_n 0, 1) := by decide +kernel
theorem dX12_isBaker_1 : decode cX12_isBaker 1 = .ok (.iconst 0, 1) := by decide +kernel
theorem dX12_isBaker_2 : decode cX12_isBaker 2 = .ok (.iconst 1, 1) := by decide +kernel
theorem dX12_isBaker_3 : decode cX12_isBaker 3 = .ok (.invokestatic 140, 3) := by decide +kernel
theorem dX12_isBaker_6 : decode cX12_isBaker 6 = .ok (.ireturn, 1) := by decide +kernel
theorem dX12_village_0 : decode cX12_village 0 = .ok (.iload_n 1, 1) := by decide +kernel
theorem dX12_village_1 : decode cX12_village 1 = .ok (.iconst 1, 1) := by decide +kernel
theorem dX12_village_2 : decode cX12_village 2 = .ok (.bipush 9, 2) := by decide +kernel
theorem dX12_village_4 : decode cX12_village 4 = .ok (.invokestatic 140, 3) := by decide +kernel
theorem dX12_village_7 : decode cX12_village 7 = .ok (.ifCond .eq 21, 3) := by decide +kernel
theorem dX12_village_10 : decode cX12_village 10 = .ok (.iload_n 2, 1) := by decide +kernel
theorem dX12_village_11 : decode cX12_village 11 = .ok (.iconst 0, 1) := by decide +kernel
theorem dX12_village_12 : decode cX12_village 12 = .ok (.bipush 99, 2) := by decide +kernel
theorem dX12_village_14 : decode cX12_village 14 = .ok (.invokestatic 140, 3) := by decide +kernel
theorem dX12_village_17 : decode cX12_village 17 = .ok (.ifCond .eq 11, 3) := by decide +kernel
theorem dX12_village_20 : decode cX12_village 20 = .ok (.iload_n 2, 1) := by decide +kernel
theorem dX12_village_21 : decode cX12_village 21 = .ok (.bipush 10, 2) := by decide +kernel
theorem dX12_village_23 : decode cX12_village 23 = .ok (.irem, 1) := by decide +kernel
theorem dX12_village_24 : decode cX12_village 24 = .ok (.iconst 2, 1) := by decide +kernel
theorem dX12_village_25 : decode cX12_village 25 = .ok (.if_icmp .le 5, 3) := by decide +kernel
theorem dX12_village_28 : decode cX12_village 28 = .ok (.iconst (-1), 1) := by decide +kernel
theorem dX12_village_29 : decode cX12_village 29 = .ok (.ireturn, 1) := by decide +kernel
theorem dX12_village_30 : decode cX12_village 30 = .ok (.aload_n 0, 1) := by decide +kernel
theorem dX12_village_31 : decode cX12_village 31 = .ok (.getfield 137, 3) := by decide +kernel
theorem dX12_village_34 : decode cX12_village 34 = .ok (.iconst 5, 1) := by decide +kernel
theorem dX12_village_35 : decode cX12_village 35 = .ok (.if_icmp .ne 6, 3) := by decide +kernel
theorem dX12_village_38 : decode cX12_village 38 = .ok (.bipush (-3), 2) := by decide +kernel
theorem dX12_village_40 : decode cX12_village 40 = .ok (.ireturn, 1) := by decide +kernel
theorem dX12_village_41 : decode cX12_village 41 = .ok (.aload_n 0, 1) := by decide +kernel
theorem dX12_village_42 : decode cX12_village 42 = .ok (.getfield 7, 3) := by decide +kernel
theorem dX12_village_45 : decode cX12_village 45 = .ok (.aload_n 0, 1) := by decide +kernel
theorem dX12_village_46 : decode cX12_village 46 = .ok (.getfield 137, 3) := by decide +kernel
theorem dX12_village_49 : decode cX12_village 49 = .ok (.iload_n 1, 1) := by decide +kernel
theorem dX12_village_50 : decode cX12_village 50 = .ok (.iastore, 1) := by decide +kernel
theorem dX12_village_51 : decode cX12_village 51 = .ok (.aload_n 0, 1) := by decide +kernel
theorem dX12_village_52 : decode cX12_village 52 = .ok (.getfield 13, 3) := by decide +kernel
theorem dX12_village_55 : decode cX12_village 55 = .ok (.aload_n 0, 1) := by decide +kernel
theorem dX12_village_56 : decode cX12_village 56 = .ok (.getfield 137, 3) := by decide +kernel
theorem dX12_village_59 : decode cX12_village 59 = .ok (.iload_n 2, 1) := by decide +kernel
theorem dX12_village_60 : decode cX12_village 60 = .ok (.bipush 10, 2) := by decide +kernel
theorem dX12_village_62 : decode cX12_village 62 = .ok (.idiv, 1) := by decide +kernel
theorem dX12_village_63 : decode cX12_village 63 = .ok (.iastore, 1) := by decide +kernel
theorem dX12_village_64 : decode cX12_village 64 = .ok (.aload_n 0, 1) := by decide +kernel
theorem dX12_village_65 : decode cX12_village 65 = .ok (.getfield 16, 3) := by decide +kernel
theorem dX12_village_68 : decode cX12_village 68 = .ok (.aload_n 0, 1) := by decide +kernel
theorem dX12_village_69 : decode cX12_village 69 = .ok (.getfield 137, 3) := by decide +kernel
theorem dX12_village_72 : decode cX12_village 72 = .ok (.iload_n 2, 1) := by decide +kernel
theorem dX12_village_73 : decode cX12_village 73 = .ok (.bipush 10, 2) := by decide +kernel
theorem dX12_village_75 : decode cX12_village 75 = .ok (.irem, 1) := by decide +kernel
theorem dX12_village_76 : decode cX12_village 76 = .ok (.iastore, 1) := by decide +kernel
theorem dX12_village_77 : decode cX12_village 77 = .ok (.aload_n 0, 1) := by decide +kernel
theorem dX12_village_78 : decode cX12_village 78 = .ok (.dup, 1) := by decide +kernel
theorem dX12_village_79 : decode cX12_village 79 = .ok (.getfield 137, 3) := by decide +kernel
theorem dX12_village_82 : decode cX12_village 82 = .ok (.iconst 1, 1) := by decide +kernel
theorem dX12_village_83 : decode cX12_village 83 = .ok (.iadd, 1) := by decide +kernel
theorem dX12_village_84 : decode cX12_village 84 = .ok (.putfield 137, 3) := by decide +kernel
theorem dX12_village_87 : decode cX12_village 87 = .ok (.aload_n 0, 1) := by decide +kernel
theorem dX12_village_88 : decode cX12_village 88 = .ok (.getfield 137, 3) := by decide +kernel
theorem dX12_village_91 : decode cX12_village 91 = .ok (.iconst 1, 1) := by decide +kernel
theorem dX12_village_92 : decode cX12_village 92 = .ok (.isub, 1) := by decide +kernel
theorem dX12_village_93 : decode cX12_village 93 = .ok (.ireturn, 1) := by decide +kernel
theorem dX12_valueAt_0 : decode cX12_valueAt 0 = .ok (.iload_n 1, 1) := by decide +kernel
theorem dX12_valueAt_1 : decode cX12_valueAt 1 = .ok (.ifCond .ne 12, 3) := by decide +kernel
theorem dX12_valueAt_4 : decode cX12_valueAt 4 = .ok (.aload_n 0, 1) := by decide +kernel
theorem dX12_valueAt_5 : decode cX12_valueAt 5 = .ok (.getfield 19, 3) := by decide +kernel
theorem dX12_valueAt_8 : decode cX12_valueAt 8 = .ok (.iload_n 2, 1) := by decide +kernel
theorem dX12_valueAt_9 : decode cX12_valueAt 9 = .ok (.iaload, 1) := by decide +kernel
theorem dX12_valueAt_10 : decode cX12_valueAt 10 = .ok (.goto 23, 3) := by decide +kernel
theorem dX12_valueAt_13 : decode cX12_valueAt 13 = .ok (.iload_n 1, 1) := by decide +kernel
theorem dX12_valueAt_14 : decode cX12_valueAt 14 = .ok (.iconst 1, 1) := by decide +kernel
theorem dX12_valueAt_15 : decode cX12_valueAt 15 = .ok (.if_icmp .ne 12, 3) := by decide +kernel
theorem dX12_valueAt_18 : decode cX12_valueAt 18 = .ok (.aload_n 0, 1) := by decide +kernel
theorem dX12_valueAt_19 : decode cX12_valueAt 19 = .ok (.getfield 7, 3) := by decide +kernel
theorem dX12_valueAt_22 : decode cX12_valueAt 22 = .ok (.iload_n 2, 1) := by decide +kernel
theorem dX12_valueAt_23 : decode cX12_valueAt 23 = .ok (.iaload, 1) := by decide +kernel
theorem dX12_valueAt_24 : decode cX12_valueAt 24 = .ok (.goto 9, 3) := by decide +kernel
theorem dX12_valueAt_27 : decode cX12_valueAt 27 = .ok (.aload_n 0, 1) := by decide +kernel
theorem dX12_valueAt_28 : decode cX12_valueAt 28 = .ok (.getfield 13, 3) := by decide +kernel
theorem dX12_valueAt_31 : decode cX12_valueAt 31 = .ok (.iload_n 2, 1) := by decide +kernel
theorem dX12_valueAt_32 : decode cX12_valueAt 32 = .ok (.iaload, 1) := by decide +kernel
theorem dX12_valueAt_33 : decode cX12_valueAt 33 = .ok (.ireturn, 1) := by decide +kernel
theorem dX12_lays_0 : decode cX12_lays 0 = .ok (.iload_n 1, 1) := by decide +kernel
theorem dX12_lays_1 : decode cX12_lays 1 = .ok (.ifCond .ne 13, 3) := by decide +kernel
theorem dX12_lays_4 : decode cX12_lays 4 = .ok (.aload_n 0, 1) := by decide +kernel
theorem dX12_lays_5 : decode cX12_lays 5 = .ok (.getfield 19, 3) := by decide +kernel
theorem dX12_lays_8 : decode cX12_lays 8 = .ok (.iload_n 2, 1) := by decide +kernel
theorem dX12_lays_9 : decode cX12_lays 9 = .ok (.iload_n 3, 1) := by decide +kernel
theorem dX12_lays_10 : decode cX12_lays 10 = .ok (.iastore, 1) := by decide +kernel
theorem dX12_lays_11 : decode cX12_lays 11 = .ok (.goto 25, 3) := by decide +kernel
theorem dX12_lays_14 : decode cX12_lays 14 = .ok (.iload_n 1, 1) := by decide +kernel
theorem dX12_lays_15 : decode cX12_lays 15 = .ok (.iconst 1, 1) := by decide +kernel
theorem dX12_lays_16 : decode cX12_lays 16 = .ok (.if_icmp .ne 13, 3) := by decide +kernel
theorem dX12_lays_19 : decode cX12_lays 19 = .ok (.aload_n 0, 1) := by decide +kernel
theorem dX12_lays_20 : decode cX12_lays 20 = .ok (.getfield 7, 3) := by decide +kernel
theorem dX12_lays_23 : decode cX12_lays 23 = .ok (.iload_n 2, 1) := by decide +kernel
theorem dX12_lays_24 : decode cX12_lays 24 = .ok (.iload_n 3, 1) := by decide +kernel
theorem dX12_lays_25 : decode cX12_lays 25 = .ok (.iastore, 1) := by decide +kernel
theorem dX12_lays_26 : decode cX12_lays 26 = .ok (.goto 10, 3) := by decide +kernel
theorem dX12_lays_29 : decode cX12_lays 29 = .ok (.aload_n 0, 1) := by decide +kernel
theorem dX12_lays_30 : decode cX12_lays 30 = .ok (.getfield 13, 3) := by decide +kernel
theorem dX12_lays_33 : decode cX12_lays 33 = .ok (.iload_n 2, 1) := by decide +kernel
theorem dX12_lays_34 : decode cX12_lays 34 = .ok (.iload_n 3, 1) := by decide +kernel
theorem dX12_lays_35 : decode cX12_lays 35 = .ok (.iastore, 1) := by decide +kernel
theorem dX12_lays_36 : decode cX12_lays 36 = .ok (.return_, 1) := by decide +kernel
theorem dX12_changes_0 : decode cX12_changes 0 = .ok (.aload_n 0, 1) := by decide +kernel
theorem dX12_changes_1 : decode cX12_changes 1 = .ok (.iload_n 1, 1) := by decide +kernel
theorem dX12_changes_2 : decode cX12_changes 2 = .ok (.iload_n 2, 1) := by decide +kernel
theorem dX12_changes_3 : decode cX12_changes 3 = .ok (.invokevirtual 144, 3) := by decide +kernel
theorem dX12_changes_6 : decode cX12_changes 6 = .ok (.istore 4, 2) := by decide +kernel
theorem dX12_changes_8 : decode cX12_changes 8 = .ok (.iload 4, 2) := by decide +kernel
theorem dX12_changes_10 : decode cX12_changes 10 = .ok (.iload_n 3, 1) := by decide +kernel
theorem dX12_changes_11 : decode cX12_changes 11 = .ok (.if_icmp .ne 6, 3) := by decide +kernel
theorem dX12_changes_14 : decode cX12_changes 14 = .ok (.iload 4, 2) := by decide +kernel
theorem dX12_changes_16 : decode cX12_changes 16 = .ok (.ireturn, 1) := by decide +kernel
theorem dX12_changes_17 : decode cX12_changes 17 = .ok (.aload_n 0, 1) := by decide +kernel
theorem dX12_changes_18 : decode cX12_changes 18 = .ok (.iconst 0, 1) := by decide +kernel
theorem dX12_changes_19 : decode cX12_changes 19 = .ok (.putfield 148, 3) := by decide +kernel
theorem dX12_changes_22 : decode cX12_changes 22 = .ok (.aload_n 0, 1) := by decide +kernel
theorem dX12_changes_23 : decode cX12_changes 23 = .ok (.getfield 151, 3) := by decide +kernel
theorem dX12_changes_26 : decode cX12_changes 26 = .ok (.bipush 40, 2) := by decide +kernel
theorem dX12_changes_28 : decode cX12_changes 28 = .ok (.if_icmp .ne 93, 3) := by decide +kernel
theorem dX12_changes_31 : decode cX12_changes 31 = .ok (.iconst 1, 1) := by decide +kernel
theorem dX12_changes_32 : decode cX12_changes 32 = .ok (.istore 5, 2) := by decide +kernel
theorem dX12_changes_34 : decode cX12_changes 34 = .ok (.iload 5, 2) := by decide +kernel
theorem dX12_changes_36 : decode cX12_changes 36 = .ok (.bipush 40, 2) := by decide +kernel
theorem dX12_changes_38 : decode cX12_changes 38 = .ok (.if_icmp .ge 73, 3) := by decide +kernel
theorem dX12_changes_41 : decode cX12_changes 41 = .ok (.aload_n 0, 1) := by decide +kernel
theorem dX12_changes_42 : decode cX12_changes 42 = .ok (.getfield 32, 3) := by decide +kernel
theorem dX12_changes_45 : decode cX12_changes 45 = .ok (.iload 5, 2) := by decide +kernel
theorem dX12_changes_47 : decode cX12_changes 47 = .ok (.iconst 1, 1) := by decide +kernel
theorem dX12_changes_48 : decode cX12_changes 48 = .ok (.isub, 1) := by decide +kernel
theorem dX12_changes_49 : decode cX12_changes 49 = .ok (.aload_n 0, 1) := by decide +kernel
theorem dX12_changes_50 : decode cX12_changes 50 = .ok (.getfield 32, 3) := by decide +kernel
theorem dX12_changes_53 : decode cX12_changes 53 = .ok (.iload 5, 2) := by decide +kernel
theorem dX12_changes_55 : decode cX12_changes 55 = .ok (.iaload, 1) := by decide +kernel
theorem dX12_changes_56 : decode cX12_changes 56 = .ok (.iastore, 1) := by decide +kernel
theorem dX12_changes_57 : decode cX12_changes 57 = .ok (.aload_n 0, 1) := by decide +kernel
theorem dX12_changes_58 : decode cX12_changes 58 = .ok (.getfield 35, 3) := by decide +kernel
theorem dX12_changes_61 : decode cX12_changes 61 = .ok (.iload 5, 2) := by decide +kernel
theorem dX12_changes_63 : decode cX12_changes 63 = .ok (.iconst 1, 1) := by decide +kernel
theorem dX12_changes_64 : decode cX12_changes 64 = .ok (.isub, 1) := by decide +kernel
theorem dX12_changes_65 : decode cX12_changes 65 = .ok (.aload_n 0, 1) := by decide +kernel
theorem dX12_changes_66 : decode cX12_changes 66 = .ok (.getfield 35, 3) := by decide +kernel
theorem dX12_changes_69 : decode cX12_changes 69 = .ok (.iload 5, 2) := by decide +kernel
theorem dX12_changes_71 : decode cX12_changes 71 = .ok (.iaload, 1) := by decide +kernel
theorem dX12_changes_72 : decode cX12_changes 72 = .ok (.iastore, 1) := by decide +kernel
theorem dX12_changes_73 : decode cX12_changes 73 = .ok (.aload_n 0, 1) := by decide +kernel
theorem dX12_changes_74 : decode cX12_changes 74 = .ok (.getfield 38, 3) := by decide +kernel
theorem dX12_changes_77 : decode cX12_changes 77 = .ok (.iload 5, 2) := by decide +kernel
theorem dX12_changes_79 : decode cX12_changes 79 = .ok (.iconst 1, 1) := by decide +kernel
theorem dX12_changes_80 : decode cX12_changes 80 = .ok (.isub, 1) := by decide +kernel
theorem dX12_changes_81 : decode cX12_changes 81 = .ok (.aload_n 0, 1) := by decide +kernel
theorem dX12_changes_82 : decode cX12_changes 82 = .ok (.getfield 38, 3) := by decide +kernel
theorem dX12_changes_85 : decode cX12_changes 85 = .ok (.iload 5, 2) := by decide +kernel
theorem dX12_changes_87 : decode cX12_changes 87 = .ok (.iaload, 1) := by decide +kernel
theorem dX12_changes_88 : decode cX12_changes 88 = .ok (.iastore, 1) := by decide +kernel
theorem dX12_changes_89 : decode cX12_changes 89 = .ok (.aload_n 0, 1) := by decide +kernel
theorem dX12_changes_90 : decode cX12_changes 90 = .ok (.getfield 41, 3) := by decide +kernel
theorem dX12_changes_93 : decode cX12_changes 93 = .ok (.iload 5, 2) := by decide +kernel
theorem dX12_changes_95 : decode cX12_changes 95 = .ok (.iconst 1, 1) := by decide +kernel
theorem dX12_changes_96 : decode cX12_changes 96 = .ok (.isub, 1) := by decide +kernel
theorem dX12_changes_97 : decode cX12_changes 97 = .ok (.aload_n 0, 1) := by decide +kernel
theorem dX12_changes_98 : decode cX12_changes 98 = .ok (.getfield 41, 3) := by decide +kernel
theorem dX12_changes_101 : decode cX12_changes 101 = .ok (.iload 5, 2) := by decide +kernel
theorem dX12_changes_103 : decode cX12_changes 103 = .ok (.iaload, 1) := by decide +kernel
theorem dX12_changes_104 : decode cX12_changes 104 = .ok (.iastore, 1) := by decide +kernel
theorem dX12_changes_105 : decode cX12_changes 105 = .ok (.iinc 5 1, 3) := by decide +kernel
theorem dX12_changes_108 : decode cX12_changes 108 = .ok (.goto (-74), 3) := by decide +kernel
theorem dX12_changes_111 : decode cX12_changes 111 = .ok (.aload_n 0, 1) := by decide +kernel
theorem dX12_changes_112 : decode cX12_changes 112 = .ok (.dup, 1) := by decide +kernel
theorem dX12_changes_113 : decode cX12_changes 113 = .ok (.getfield 151, 3) := by decide +kernel
theorem dX12_changes_116 : decode cX12_changes 116 = .ok (.iconst 1, 1) := by decide +kernel
theorem dX12_changes_117 : decode cX12_changes 117 = .ok (.isub, 1) := by decide +kernel
theorem dX12_changes_118 : decode cX12_changes 118 = .ok (.putfield 151, 3) := by decide +kernel
theorem dX12_changes_121 : decode cX12_changes 121 = .ok (.aload_n 0, 1) := by decide +kernel
theorem dX12_changes_122 : decode cX12_changes 122 = .ok (.getfield 32, 3) := by decide +kernel
theorem dX12_changes_125 : decode cX12_changes 125 = .ok (.aload_n 0, 1) := by decide +kernel
theorem dX12_changes_126 : decode cX12_changes 126 = .ok (.getfield 151, 3) := by decide +kernel
theorem dX12_changes_129 : decode cX12_changes 129 = .ok (.iload_n 1, 1) := by decide +kernel
theorem dX12_changes_130 : decode cX12_changes 130 = .ok (.iastore, 1) := by decide +kernel
theorem dX12_changes_131 : decode cX12_changes 131 = .ok (.aload_n 0, 1) := by decide +kernel
theorem dX12_changes_132 : decode cX12_changes 132 = .ok (.getfield 35, 3) := by decide +kernel
theorem dX12_changes_135 : decode cX12_changes 135 = .ok (.aload_n 0, 1) := by decide +kernel
theorem dX12_changes_136 : decode cX12_changes 136 = .ok (.getfield 151, 3) := by decide +kernel
theorem dX12_changes_139 : decode cX12_changes 139 = .ok (.iload_n 2, 1) := by decide +kernel
theorem dX12_changes_140 : decode cX12_changes 140 = .ok (.iastore, 1) := by decide +kernel
theorem dX12_changes_141 : decode cX12_changes 141 = .ok (.aload_n 0, 1) := by decide +kernel
theorem dX12_changes_142 : decode cX12_changes 142 = .ok (.getfield 38, 3) := by decide +kernel
theorem dX12_changes_145 : decode cX12_changes 145 = .ok (.aload_n 0, 1) := by decide +kernel
theorem dX12_changes_146 : decode cX12_changes 146 = .ok (.getfield 151, 3) := by decide +kernel
theorem dX12_changes_149 : decode cX12_changes 149 = .ok (.iload 4, 2) := by decide +kernel
theorem dX12_changes_151 : decode cX12_changes 151 = .ok (.iastore, 1) := by decide +kernel
theorem dX12_changes_152 : decode cX12_changes 152 = .ok (.aload_n 0, 1) := by decide +kernel
theorem dX12_changes_153 : decode cX12_changes 153 = .ok (.getfield 41, 3) := by decide +kernel
theorem dX12_changes_156 : decode cX12_changes 156 = .ok (.aload_n 0, 1) := by decide +kernel
theorem dX12_changes_157 : decode cX12_changes 157 = .ok (.getfield 151, 3) := by decide +kernel
theorem dX12_changes_160 : decode cX12_changes 160 = .ok (.iload_n 3, 1) := by decide +kernel
theorem dX12_changes_161 : decode cX12_changes 161 = .ok (.iastore, 1) := by decide +kernel
theorem dX12_changes_162 : decode cX12_changes 162 = .ok (.aload_n 0, 1) := by decide +kernel
theorem dX12_changes_163 : decode cX12_changes 163 = .ok (.dup, 1) := by decide +kernel
theorem dX12_changes_164 : decode cX12_changes 164 = .ok (.getfield 151, 3) := by decide +kernel
theorem dX12_changes_167 : decode cX12_changes 167 = .ok (.iconst 1, 1) := by decide +kernel
theorem dX12_changes_168 : decode cX12_changes 168 = .ok (.iadd, 1) := by decide +kernel
theorem dX12_changes_169 : decode cX12_changes 169 = .ok (.putfield 151, 3) := by decide +kernel
theorem dX12_changes_172 : decode cX12_changes 172 = .ok (.aload_n 0, 1) := by decide +kernel
theorem dX12_changes_173 : decode cX12_changes 173 = .ok (.iload_n 1, 1) := by decide +kernel
theorem dX12_changes_174 : decode cX12_changes 174 = .ok (.iload_n 2, 1) := by decide +kernel
theorem dX12_changes_175 : decode cX12_changes 175 = .ok (.iload_n 3, 1) := by decide +kernel
theorem dX12_changes_176 : decode cX12_changes 176 = .ok (.invokevirtual 154, 3) := by decide +kernel
theorem dX12_changes_179 : decode cX12_changes 179 = .ok (.iload 4, 2) := by decide +kernel
theorem dX12_changes_181 : decode cX12_changes 181 = .ok (.ireturn, 1) := by decide +kernel
theorem dX12_undo_0 : decode cX12_undo 0 = .ok (.aload_n 0, 1) := by decide +kernel
theorem dX12_undo_1 : decode cX12_undo 1 = .ok (.getfield 151, 3) := by decide +kernel
theorem dX12_undo_4 : decode cX12_undo 4 = .ok (.ifCond .ne 6, 3) := by decide +kernel
theorem dX12_undo_7 : decode cX12_undo 7 = .ok (.bipush (-5), 2) := by decide +kernel
theorem dX12_undo_9 : decode cX12_undo 9 = .ok (.ireturn, 1) := by decide +kernel
theorem dX12_undo_10 : decode cX12_undo 10 = .ok (.aload_n 0, 1) := by decide +kernel
theorem dX12_undo_11 : decode cX12_undo 11 = .ok (.dup, 1) := by decide +kernel
theorem dX12_undo_12 : decode cX12_undo 12 = .ok (.getfield 151, 3) := by decide +kernel
theorem dX12_undo_15 : decode cX12_undo 15 = .ok (.iconst 1, 1) := by decide +kernel
theorem dX12_undo_16 : decode cX12_undo 16 = .ok (.isub, 1) := by decide +kernel
theorem dX12_undo_17 : decode cX12_undo 17 = .ok (.putfield 151, 3) := by decide +kernel
theorem dX12_undo_20 : decode cX12_undo 20 = .ok (.aload_n 0, 1) := by decide +kernel
theorem dX12_undo_21 : decode cX12_undo 21 = .ok (.dup, 1) := by decide +kernel
theorem dX12_undo_22 : decode cX12_undo 22 = .ok (.getfield 148, 3) := by decide +kernel
theorem dX12_undo_25 : decode cX12_undo 25 = .ok (.iconst 1, 1) := by decide +kernel
theorem dX12_undo_26 : decode cX12_undo 26 = .ok (.iadd, 1) := by decide +kernel
theorem dX12_undo_27 : decode cX12_undo 27 = .ok (.putfield 148, 3) := by decide +kernel
theorem dX12_undo_30 : decode cX12_undo 30 = .ok (.aload_n 0, 1) := by decide +kernel
theorem dX12_undo_31 : decode cX12_undo 31 = .ok (.aload_n 0, 1) := by decide +kernel
theorem dX12_undo_32 : decode cX12_undo 32 = .ok (.getfield 32, 3) := by decide +kernel
theorem dX12_undo_35 : decode cX12_undo 35 = .ok (.aload_n 0, 1) := by decide +kernel
theorem dX12_undo_36 : decode cX12_undo 36 = .ok (.getfield 151, 3) := by decide +kernel
theorem dX12_undo_39 : decode cX12_undo 39 = .ok (.iaload, 1) := by decide +kernel
theorem dX12_undo_40 : decode cX12_undo 40 = .ok (.aload_n 0, 1) := by decide +kernel
theorem dX12_undo_41 : decode cX12_undo 41 = .ok (.getfield 35, 3) := by decide +kernel
theorem dX12_undo_44 : decode cX12_undo 44 = .ok (.aload_n 0, 1) := by decide +kernel
theorem dX12_undo_45 : decode cX12_undo 45 = .ok (.getfield 151, 3) := by decide +kernel
theorem dX12_undo_48 : decode cX12_undo 48 = .ok (.iaload, 1) := by decide +kernel
theorem dX12_undo_49 : decode cX12_undo 49 = .ok (.aload_n 0, 1) := by decide +kernel
theorem dX12_undo_50 : decode cX12_undo 50 = .ok (.getfield 38, 3) := by decide +kernel
theorem dX12_undo_53 : decode cX12_undo 53 = .ok (.aload_n 0, 1) := by decide +kernel
theorem dX12_undo_54 : decode cX12_undo 54 = .ok (.getfield 151, 3) := by decide +kernel
theorem dX12_undo_57 : decode cX12_undo 57 = .ok (.iaload, 1) := by decide +kernel
theorem dX12_undo_58 : decode cX12_undo 58 = .ok (.invokevirtual 154, 3) := by decide +kernel
theorem dX12_undo_61 : decode cX12_undo 61 = .ok (.aload_n 0, 1) := by decide +kernel
theorem dX12_undo_62 : decode cX12_undo 62 = .ok (.getfield 151, 3) := by decide +kernel
theorem dX12_undo_65 : decode cX12_undo 65 = .ok (.ireturn, 1) := by decide +kernel
theorem dX12_redo_0 : decode cX12_redo 0 = .ok (.aload_n 0, 1) := by decide +kernel
theorem dX12_redo_1 : decode cX12_redo 1 = .ok (.getfield 148, 3) := by decide +kernel
theorem dX12_redo_4 : decode cX12_redo 4 = .ok (.ifCond .ne 6, 3) := by decide +kernel
theorem dX12_redo_7 : decode cX12_redo 7 = .ok (.bipush (-5), 2) := by decide +kernel
theorem dX12_redo_9 : decode cX12_redo 9 = .ok (.ireturn, 1) := by decide +kernel
theorem dX12_redo_10 : decode cX12_redo 10 = .ok (.aload_n 0, 1) := by decide +kernel
theorem dX12_redo_11 : decode cX12_redo 11 = .ok (.aload_n 0, 1) := by decide +kernel
theorem dX12_redo_12 : decode cX12_redo 12 = .ok (.getfield 32, 3) := by decide +kernel
theorem dX12_redo_15 : decode cX12_redo 15 = .ok (.aload_n 0, 1) := by decide +kernel
theorem dX12_redo_16 : decode cX12_redo 16 = .ok (.getfield 151, 3) := by decide +kernel
theorem dX12_redo_19 : decode cX12_redo 19 = .ok (.iaload, 1) := by decide +kernel
theorem dX12_redo_20 : decode cX12_redo 20 = .ok (.aload_n 0, 1) := by decide +kernel
theorem dX12_redo_21 : decode cX12_redo 21 = .ok (.getfield 35, 3) := by decide +kernel
theorem dX12_redo_24 : decode cX12_redo 24 = .ok (.aload_n 0, 1) := by decide +kernel
theorem dX12_redo_25 : decode cX12_redo 25 = .ok (.getfield 151, 3) := by decide +kernel
theorem dX12_redo_28 : decode cX12_redo 28 = .ok (.iaload, 1) := by decide +kernel
theorem dX12_redo_29 : decode cX12_redo 29 = .ok (.aload_n 0, 1) := by decide +kernel
theorem dX12_redo_30 : decode cX12_redo 30 = .ok (.getfield 41, 3) := by decide +kernel
theorem dX12_redo_33 : decode cX12_redo 33 = .ok (.aload_n 0, 1) := by decide +kernel
theorem dX12_redo_34 : decode cX12_redo 34 = .ok (.getfield 151, 3) := by decide +kernel
theorem dX12_redo_37 : decode cX12_redo 37 = .ok (.iaload, 1) := by decide +kernel
theorem dX12_redo_38 : decode cX12_redo 38 = .ok (.invokevirtual 154, 3) := by decide +kernel
theorem dX12_redo_41 : decode cX12_redo 41 = .ok (.aload_n 0, 1) := by decide +kernel
theorem dX12_redo_42 : decode cX12_redo 42 = .ok (.dup, 1) := by decide +kernel
theorem dX12_redo_43 : decode cX12_redo 43 = .ok (.getfield 151, 3) := by decide +kernel
theorem dX12_redo_46 : decode cX12_redo 46 = .ok (.iconst 1, 1) := by decide +kernel
theorem dX12_redo_47 : decode cX12_redo 47 = .ok (.iadd, 1) := by decide +kernel
theorem dX12_redo_48 : decode cX12_redo 48 = .ok (.putfield 151, 3) := by decide +kernel
theorem dX12_redo_51 : decode cX12_redo 51 = .ok (.aload_n 0, 1) := by decide +kernel
theorem dX12_redo_52 : decode cX12_redo 52 = .ok (.dup, 1) := by decide +kernel
theorem dX12_redo_53 : decode cX12_redo 53 = .ok (.getfield 148, 3) := by decide +kernel
theorem dX12_redo_56 : decode cX12_redo 56 = .ok (.iconst 1, 1) := by decide +kernel
theorem dX12_redo_57 : decode cX12_redo 57 = .ok (.isub, 1) := by decide +kernel
theorem dX12_redo_58 : decode cX12_redo 58 = .ok (.putfield 148, 3) := by decide +kernel
theorem dX12_redo_61 : decode cX12_redo 61 = .ok (.aload_n 0, 1) := by decide +kernel
theorem dX12_redo_62 : decode cX12_redo 62 = .ok (.getfield 148, 3) := by decide +kernel
theorem dX12_redo_65 : decode cX12_redo 65 = .ok (.ireturn, 1) := by decide +kernel
theorem dX12_mend_0 : decode cX12_mend 0 = .ok (.iload_n 2, 1) := by decide +kernel
theorem dX12_mend_1 : decode cX12_mend 1 = .ok (.tableswitch 116 0 2 #[27, 56, 86], 27) := by decide +kernel
theorem dX12_mend_28 : decode cX12_mend 28 = .ok (.iload_n 1, 1) := by decide +kernel
theorem dX12_mend_29 : decode cX12_mend 29 = .ok (.invokestatic 158, 3) := by decide +kernel
theorem dX12_mend_32 : decode cX12_mend 32 = .ok (.ifCond .eq 23, 3) := by decide +kernel
theorem dX12_mend_35 : decode cX12_mend 35 = .ok (.iload_n 3, 1) := by decide +kernel
theorem dX12_mend_36 : decode cX12_mend 36 = .ok (.iconst 0, 1) := by decide +kernel
theorem dX12_mend_37 : decode cX12_mend 37 = .ok (.bipush 9, 2) := by decide +kernel
theorem dX12_mend_39 : decode cX12_mend 39 = .ok (.invokestatic 140, 3) := by decide +kernel
theorem dX12_mend_42 : decode cX12_mend 42 = .ok (.ifCond .eq 13, 3) := by decide +kernel
theorem dX12_mend_45 : decode cX12_mend 45 = .ok (.aload_n 0, 1) := by decide +kernel
theorem dX12_mend_46 : decode cX12_mend 46 = .ok (.iconst 0, 1) := by decide +kernel
theorem dX12_mend_47 : decode cX12_mend 47 = .ok (.iload_n 1, 1) := by decide +kernel
theorem dX12_mend_48 : decode cX12_mend 48 = .ok (.iload_n 3, 1) := by decide +kernel
theorem dX12_mend_49 : decode cX12_mend 49 = .ok (.invokevirtual 162, 3) := by decide +kernel
theorem dX12_mend_52 : decode cX12_mend 52 = .ok (.goto 4, 3) := by decide +kernel
theorem dX12_mend_55 : decode cX12_mend 55 = .ok (.iconst (-1), 1) := by decide +kernel
theorem dX12_mend_56 : decode cX12_mend 56 = .ok (.ireturn, 1) := by decide +kernel
theorem dX12_mend_57 : decode cX12_mend 57 = .ok (.aload_n 0, 1) := by decide +kernel
theorem dX12_mend_58 : decode cX12_mend 58 = .ok (.iload_n 1, 1) := by decide +kernel
theorem dX12_mend_59 : decode cX12_mend 59 = .ok (.invokevirtual 166, 3) := by decide +kernel
theorem dX12_mend_62 : decode cX12_mend 62 = .ok (.ifCond .eq 23, 3) := by decide +kernel
theorem dX12_mend_65 : decode cX12_mend 65 = .ok (.iload_n 3, 1) := by decide +kernel
theorem dX12_mend_66 : decode cX12_mend 66 = .ok (.iconst 1, 1) := by decide +kernel
theorem dX12_mend_67 : decode cX12_mend 67 = .ok (.bipush 9, 2) := by decide +kernel
theorem dX12_mend_69 : decode cX12_mend 69 = .ok (.invokestatic 140, 3) := by decide +kernel
theorem dX12_mend_72 : decode cX12_mend 72 = .ok (.ifCond .eq 13, 3) := by decide +kernel
theorem dX12_mend_75 : decode cX12_mend 75 = .ok (.aload_n 0, 1) := by decide +kernel
theorem dX12_mend_76 : decode cX12_mend 76 = .ok (.iconst 1, 1) := by decide +kernel
theorem dX12_mend_77 : decode cX12_mend 77 = .ok (.iload_n 1, 1) := by decide +kernel
theorem dX12_mend_78 : decode cX12_mend 78 = .ok (.iload_n 3, 1) := by decide +kernel
theorem dX12_mend_79 : decode cX12_mend 79 = .ok (.invokevirtual 162, 3) := by decide +kernel
theorem dX12_mend_82 : decode cX12_mend 82 = .ok (.goto 4, 3) := by decide +kernel
theorem dX12_mend_85 : decode cX12_mend 85 = .ok (.iconst (-1), 1) := by decide +kernel
theorem dX12_mend_86 : decode cX12_mend 86 = .ok (.ireturn, 1) := by decide +kernel
theorem dX12_mend_87 : decode cX12_mend 87 = .ok (.aload_n 0, 1) := by decide +kernel
theorem dX12_mend_88 : decode cX12_mend 88 = .ok (.iload_n 1, 1) := by decide +kernel
theorem dX12_mend_89 : decode cX12_mend 89 = .ok (.invokevirtual 166, 3) := by decide +kernel
theorem dX12_mend_92 : decode cX12_mend 92 = .ok (.ifCond .eq 23, 3) := by decide +kernel
theorem dX12_mend_95 : decode cX12_mend 95 = .ok (.iload_n 3, 1) := by decide +kernel
theorem dX12_mend_96 : decode cX12_mend 96 = .ok (.iconst 0, 1) := by decide +kernel
theorem dX12_mend_97 : decode cX12_mend 97 = .ok (.bipush 9, 2) := by decide +kernel
theorem dX12_mend_99 : decode cX12_mend 99 = .ok (.invokestatic 140, 3) := by decide +kernel
theorem dX12_mend_102 : decode cX12_mend 102 = .ok (.ifCond .eq 13, 3) := by decide +kernel
theorem dX12_mend_105 : decode cX12_mend 105 = .ok (.aload_n 0, 1) := by decide +kernel
theorem dX12_mend_106 : decode cX12_mend 106 = .ok (.iconst 2, 1) := by decide +kernel
theorem dX12_mend_107 : decode cX12_mend 107 = .ok (.iload_n 1, 1) := by decide +kernel
theorem dX12_mend_108 : decode cX12_mend 108 = .ok (.iload_n 3, 1) := by decide +kernel
theorem dX12_mend_109 : decode cX12_mend 109 = .ok (.invokevirtual 162, 3) := by decide +kernel
theorem dX12_mend_112 : decode cX12_mend 112 = .ok (.goto 4, 3) := by decide +kernel
theorem dX12_mend_115 : decode cX12_mend 115 = .ok (.iconst (-1), 1) := by decide +kernel
theorem dX12_mend_116 : decode cX12_mend 116 = .ok (.ireturn, 1) := by decide +kernel
theorem dX12_mend_117 : decode cX12_mend 117 = .ok (.iconst (-1), 1) := by decide +kernel
theorem dX12_mend_118 : decode cX12_mend 118 = .ok (.ireturn, 1) := by decide +kernel
theorem dX12_reads_0 : decode cX12_reads 0 = .ok (.iload_n 1, 1) := by decide +kernel
theorem dX12_reads_1 : decode cX12_reads 1 = .ok (.ifCond .ge 5, 3) := by decide +kernel
theorem dX12_reads_4 : decode cX12_reads 4 = .ok (.iconst 0, 1) := by decide +kernel
theorem dX12_reads_5 : decode cX12_reads 5 = .ok (.ireturn, 1) := by decide +kernel
theorem dX12_reads_6 : decode cX12_reads 6 = .ok (.iload_n 1, 1) := by decide +kernel
theorem dX12_reads_7 : decode cX12_reads 7 = .ok (.istore_n 3, 1) := by decide +kernel
theorem dX12_reads_8 : decode cX12_reads 8 = .ok (.iconst 0, 1) := by decide +kernel
theorem dX12_reads_9 : decode cX12_reads 9 = .ok (.istore 4, 2) := by decide +kernel
theorem dX12_reads_11 : decode cX12_reads 11 = .ok (.aload_n 0, 1) := by decide +kernel
theorem dX12_reads_12 : decode cX12_reads 12 = .ok (.getfield 137, 3) := by decide +kernel
theorem dX12_reads_15 : decode cX12_reads 15 = .ok (.iconst 1, 1) := by decide +kernel
theorem dX12_reads_16 : decode cX12_reads 16 = .ok (.isub, 1) := by decide +kernel
theorem dX12_reads_17 : decode cX12_reads 17 = .ok (.istore 5, 2) := by decide +kernel
theorem dX12_reads_19 : decode cX12_reads 19 = .ok (.iload 5, 2) := by decide +kernel
theorem dX12_reads_21 : decode cX12_reads 21 = .ok (.ifCond .lt 37, 3) := by decide +kernel
theorem dX12_reads_24 : decode cX12_reads 24 = .ok (.aload_n 0, 1) := by decide +kernel
theorem dX12_reads_25 : decode cX12_reads 25 = .ok (.getfield 44, 3) := by decide +kernel
theorem dX12_reads_28 : decode cX12_reads 28 = .ok (.iload 5, 2) := by decide +kernel
theorem dX12_reads_30 : decode cX12_reads 30 = .ok (.iload_n 3, 1) := by decide +kernel
theorem dX12_reads_31 : decode cX12_reads 31 = .ok (.bipush 10, 2) := by decide +kernel
theorem dX12_reads_33 : decode cX12_reads 33 = .ok (.irem, 1) := by decide +kernel
theorem dX12_reads_34 : decode cX12_reads 34 = .ok (.iastore, 1) := by decide +kernel
theorem dX12_reads_35 : decode cX12_reads 35 = .ok (.iload 4, 2) := by decide +kernel
theorem dX12_reads_37 : decode cX12_reads 37 = .ok (.aload_n 0, 1) := by decide +kernel
theorem dX12_reads_38 : decode cX12_reads 38 = .ok (.getfield 44, 3) := by decide +kernel
theorem dX12_reads_41 : decode cX12_reads 41 = .ok (.iload 5, 2) := by decide +kernel
theorem dX12_reads_43 : decode cX12_reads 43 = .ok (.iaload, 1) := by decide +kernel
theorem dX12_reads_44 : decode cX12_reads 44 = .ok (.iadd, 1) := by decide +kernel
theorem dX12_reads_45 : decode cX12_reads 45 = .ok (.istore 4, 2) := by decide +kernel
theorem dX12_reads_47 : decode cX12_reads 47 = .ok (.iload_n 3, 1) := by decide +kernel
theorem dX12_reads_48 : decode cX12_reads 48 = .ok (.bipush 10, 2) := by decide +kernel
theorem dX12_reads_50 : decode cX12_reads 50 = .ok (.idiv, 1) := by decide +kernel
theorem dX12_reads_51 : decode cX12_reads 51 = .ok (.istore_n 3, 1) := by decide +kernel
theorem dX12_reads_52 : decode cX12_reads 52 = .ok (.iinc 5 (-1), 3) := by decide +kernel
theorem dX12_reads_55 : decode cX12_reads 55 = .ok (.goto (-36), 3) := by decide +kernel
theorem dX12_reads_58 : decode cX12_reads 58 = .ok (.iload_n 3, 1) := by decide +kernel
theorem dX12_reads_59 : decode cX12_reads 59 = .ok (.ifCond .ne 18, 3) := by decide +kernel
theorem dX12_reads_62 : decode cX12_reads 62 = .ok (.iload 4, 2) := by decide +kernel
theorem dX12_reads_64 : decode cX12_reads 64 = .ok (.aload_n 0, 1) := by decide +kernel
theorem dX12_reads_65 : decode cX12_reads 65 = .ok (.getfield 19, 3) := by decide +kernel
theorem dX12_reads_68 : decode cX12_reads 68 = .ok (.iload_n 2, 1) := by decide +kernel
theorem dX12_reads_69 : decode cX12_reads 69 = .ok (.iaload, 1) := by decide +kernel
theorem dX12_reads_70 : decode cX12_reads 70 = .ok (.if_icmp .gt 7, 3) := by decide +kernel
theorem dX12_reads_73 : decode cX12_reads 73 = .ok (.iconst 1, 1) := by decide +kernel
theorem dX12_reads_74 : decode cX12_reads 74 = .ok (.goto 4, 3) := by decide +kernel
theorem dX12_reads_77 : decode cX12_reads 77 = .ok (.iconst 0, 1) := by decide +kernel
theorem dX12_reads_78 : decode cX12_reads 78 = .ok (.ireturn, 1) := by decide +kernel
theorem dX12_addMix_0 : decode cX12_addMix 0 = .ok (.bipush 8, 2) := by decide +kernel
theorem dX12_addMix_2 : decode cX12_addMix 2 = .ok (.iload_n 1, 1) := by decide +kernel
theorem dX12_addMix_3 : decode cX12_addMix 3 = .ok (.imul, 1) := by decide +kernel
theorem dX12_addMix_4 : decode cX12_addMix 4 = .ok (.aload_n 0, 1) := by decide +kernel
theorem dX12_addMix_5 : decode cX12_addMix 5 = .ok (.getfield 22, 3) := by decide +kernel
theorem dX12_addMix_8 : decode cX12_addMix 8 = .ok (.iload_n 1, 1) := by decide +kernel
theorem dX12_addMix_9 : decode cX12_addMix 9 = .ok (.iaload, 1) := by decide +kernel
theorem dX12_addMix_10 : decode cX12_addMix 10 = .ok (.iadd, 1) := by decide +kernel
theorem dX12_addMix_11 : decode cX12_addMix 11 = .ok (.istore_n 3, 1) := by decide +kernel
theorem dX12_addMix_12 : decode cX12_addMix 12 = .ok (.aload_n 0, 1) := by decide +kernel
theorem dX12_addMix_13 : decode cX12_addMix 13 = .ok (.getfield 25, 3) := by decide +kernel
theorem dX12_addMix_16 : decode cX12_addMix 16 = .ok (.iload_n 3, 1) := by decide +kernel
theorem dX12_addMix_17 : decode cX12_addMix 17 = .ok (.iload_n 2, 1) := by decide +kernel
theorem dX12_addMix_18 : decode cX12_addMix 18 = .ok (.iastore, 1) := by decide +kernel
theorem dX12_addMix_19 : decode cX12_addMix 19 = .ok (.iconst 0, 1) := by decide +kernel
theorem dX12_addMix_20 : decode cX12_addMix 20 = .ok (.istore 4, 2) := by decide +kernel
theorem dX12_addMix_22 : decode cX12_addMix 22 = .ok (.iload 4, 2) := by decide +kernel
theorem dX12_addMix_24 : decode cX12_addMix 24 = .ok (.iconst 5, 1) := by decide +kernel
theorem dX12_addMix_25 : decode cX12_addMix 25 = .ok (.if_icmp .ge 41, 3) := by decide +kernel
theorem dX12_addMix_28 : decode cX12_addMix 28 = .ok (.aload_n 0, 1) := by decide +kernel
theorem dX12_addMix_29 : decode cX12_addMix 29 = .ok (.getfield 28, 3) := by decide +kernel
theorem dX12_addMix_32 : decode cX12_addMix 32 = .ok (.iconst 5, 1) := by decide +kernel
theorem dX12_addMix_33 : decode cX12_addMix 33 = .ok (.iload_n 3, 1) := by decide +kernel
theorem dX12_addMix_34 : decode cX12_addMix 34 = .ok (.imul, 1) := by decide +kernel
theorem dX12_addMix_35 : decode cX12_addMix 35 = .ok (.iload 4, 2) := by decide +kernel
theorem dX12_addMix_37 : decode cX12_addMix 37 = .ok (.iadd, 1) := by decide +kernel
theorem dX12_addMix_38 : decode cX12_addMix 38 = .ok (.iload 4, 2) := by decide +kernel
theorem dX12_addMix_40 : decode cX12_addMix 40 = .ok (.aload_n 0, 1) := by decide +kernel
theorem dX12_addMix_41 : decode cX12_addMix 41 = .ok (.getfield 137, 3) := by decide +kernel
theorem dX12_addMix_44 : decode cX12_addMix 44 = .ok (.if_icmp .ge 13, 3) := by decide +kernel
theorem dX12_addMix_47 : decode cX12_addMix 47 = .ok (.aload_n 0, 1) := by decide +kernel
theorem dX12_addMix_48 : decode cX12_addMix 48 = .ok (.getfield 44, 3) := by decide +kernel
theorem dX12_addMix_51 : decode cX12_addMix 51 = .ok (.iload 4, 2) := by decide +kernel
theorem dX12_addMix_53 : decode cX12_addMix 53 = .ok (.iaload, 1) := by decide +kernel
theorem dX12_addMix_54 : decode cX12_addMix 54 = .ok (.goto 4, 3) := by decide +kernel
theorem dX12_addMix_57 : decode cX12_addMix 57 = .ok (.iconst 0, 1) := by decide +kernel
theorem dX12_addMix_58 : decode cX12_addMix 58 = .ok (.i2b, 1) := by decide +kernel
theorem dX12_addMix_59 : decode cX12_addMix 59 = .ok (.bastore, 1) := by decide +kernel
theorem dX12_addMix_60 : decode cX12_addMix 60 = .ok (.iinc 4 1, 3) := by decide +kernel
theorem dX12_addMix_63 : decode cX12_addMix 63 = .ok (.goto (-41), 3) := by decide +kernel
theorem dX12_addMix_66 : decode cX12_addMix 66 = .ok (.aload_n 0, 1) := by decide +kernel
theorem dX12_addMix_67 : decode cX12_addMix 67 = .ok (.getfield 22, 3) := by decide +kernel
theorem dX12_addMix_70 : decode cX12_addMix 70 = .ok (.iload_n 1, 1) := by decide +kernel
theorem dX12_addMix_71 : decode cX12_addMix 71 = .ok (.dup2, 1) := by decide +kernel
theorem dX12_addMix_72 : decode cX12_addMix 72 = .ok (.iaload, 1) := by decide +kernel
theorem dX12_addMix_73 : decode cX12_addMix 73 = .ok (.iconst 1, 1) := by decide +kernel
theorem dX12_addMix_74 : decode cX12_addMix 74 = .ok (.iadd, 1) := by decide +kernel
theorem dX12_addMix_75 : decode cX12_addMix 75 = .ok (.iastore, 1) := by decide +kernel
theorem dX12_addMix_76 : decode cX12_addMix 76 = .ok (.aload_n 0, 1) := by decide +kernel
theorem dX12_addMix_77 : decode cX12_addMix 77 = .ok (.getfield 22, 3) := by decide +kernel
theorem dX12_addMix_80 : decode cX12_addMix 80 = .ok (.iload_n 1, 1) := by decide +kernel
theorem dX12_addMix_81 : decode cX12_addMix 81 = .ok (.iaload, 1) := by decide +kernel
theorem dX12_addMix_82 : decode cX12_addMix 82 = .ok (.ireturn, 1) := by decide +kernel
theorem dX12_mix_0 : decode cX12_mix 0 = .ok (.iload_n 1, 1) := by decide +kernel
theorem dX12_mix_1 : decode cX12_mix 1 = .ok (.invokestatic 158, 3) := by decide +kernel
theorem dX12_mix_4 : decode cX12_mix 4 = .ok (.ifCond .eq 13, 3) := by decide +kernel
theorem dX12_mix_7 : decode cX12_mix 7 = .ok (.iload_n 3, 1) := by decide +kernel
theorem dX12_mix_8 : decode cX12_mix 8 = .ok (.iconst 0, 1) := by decide +kernel
theorem dX12_mix_9 : decode cX12_mix 9 = .ok (.bipush 9, 2) := by decide +kernel
theorem dX12_mix_11 : decode cX12_mix 11 = .ok (.invokestatic 140, 3) := by decide +kernel
theorem dX12_mix_14 : decode cX12_mix 14 = .ok (.ifCond .ne 5, 3) := by decide +kernel
theorem dX12_mix_17 : decode cX12_mix 17 = .ok (.iconst (-1), 1) := by decide +kernel
theorem dX12_mix_18 : decode cX12_mix 18 = .ok (.ireturn, 1) := by decide +kernel
theorem dX12_mix_19 : decode cX12_mix 19 = .ok (.iload_n 3, 1) := by decide +kernel
theorem dX12_mix_20 : decode cX12_mix 20 = .ok (.ifCond .ne 12, 3) := by decide +kernel
theorem dX12_mix_23 : decode cX12_mix 23 = .ok (.aload_n 0, 1) := by decide +kernel
theorem dX12_mix_24 : decode cX12_mix 24 = .ok (.getfield 22, 3) := by decide +kernel
theorem dX12_mix_27 : decode cX12_mix 27 = .ok (.iload_n 1, 1) := by decide +kernel
theorem dX12_mix_28 : decode cX12_mix 28 = .ok (.iconst 0, 1) := by decide +kernel
theorem dX12_mix_29 : decode cX12_mix 29 = .ok (.iastore, 1) := by decide +kernel
theorem dX12_mix_30 : decode cX12_mix 30 = .ok (.iconst 0, 1) := by decide +kernel
theorem dX12_mix_31 : decode cX12_mix 31 = .ok (.ireturn, 1) := by decide +kernel
theorem dX12_mix_32 : decode cX12_mix 32 = .ok (.aload_n 0, 1) := by decide +kernel
theorem dX12_mix_33 : decode cX12_mix 33 = .ok (.iload_n 2, 1) := by decide +kernel
theorem dX12_mix_34 : decode cX12_mix 34 = .ok (.iload_n 1, 1) := by decide +kernel
theorem dX12_mix_35 : decode cX12_mix 35 = .ok (.invokevirtual 169, 3) := by decide +kernel
theorem dX12_mix_38 : decode cX12_mix 38 = .ok (.ifCond .ne 5, 3) := by decide +kernel
theorem dX12_mix_41 : decode cX12_mix 41 = .ok (.iconst (-1), 1) := by decide +kernel
theorem dX12_mix_42 : decode cX12_mix 42 = .ok (.ireturn, 1) := by decide +kernel
theorem dX12_mix_43 : decode cX12_mix 43 = .ok (.aload_n 0, 1) := by decide +kernel
theorem dX12_mix_44 : decode cX12_mix 44 = .ok (.getfield 22, 3) := by decide +kernel
theorem dX12_mix_47 : decode cX12_mix 47 = .ok (.iload_n 1, 1) := by decide +kernel
theorem dX12_mix_48 : decode cX12_mix 48 = .ok (.iaload, 1) := by decide +kernel
theorem dX12_mix_49 : decode cX12_mix 49 = .ok (.bipush 8, 2) := by decide +kernel
theorem dX12_mix_51 : decode cX12_mix 51 = .ok (.if_icmp .ne 8, 3) := by decide +kernel
theorem dX12_mix_54 : decode cX12_mix 54 = .ok (.bipush (-3), 2) := by decide +kernel
theorem dX12_mix_56 : decode cX12_mix 56 = .ok (.goto 9, 3) := by decide +kernel
theorem dX12_mix_59 : decode cX12_mix 59 = .ok (.aload_n 0, 1) := by decide +kernel
theorem dX12_mix_60 : decode cX12_mix 60 = .ok (.iload_n 1, 1) := by decide +kernel
theorem dX12_mix_61 : decode cX12_mix 61 = .ok (.iload_n 3, 1) := by decide +kernel
theorem dX12_mix_62 : decode cX12_mix 62 = .ok (.invokevirtual 173, 3) := by decide +kernel
theorem dX12_mix_65 : decode cX12_mix 65 = .ok (.ireturn, 1) := by decide +kernel
theorem dX12_mixes_0 : decode cX12_mixes 0 = .ok (.iload_n 1, 1) := by decide +kernel
theorem dX12_mixes_1 : decode cX12_mixes 1 = .ok (.invokestatic 176, 3) := by decide +kernel
theorem dX12_mixes_4 : decode cX12_mixes 4 = .ok (.ifCond .eq 30, 3) := by decide +kernel
theorem dX12_mixes_7 : decode cX12_mixes 7 = .ok (.iload_n 3, 1) := by decide +kernel
theorem dX12_mixes_8 : decode cX12_mixes 8 = .ok (.ifCond .lt 26, 3) := by decide +kernel
theorem dX12_mixes_11 : decode cX12_mixes 11 = .ok (.iload_n 3, 1) := by decide +kernel
theorem dX12_mixes_12 : decode cX12_mixes 12 = .ok (.bipush 10, 2) := by decide +kernel
theorem dX12_mixes_14 : decode cX12_mixes 14 = .ok (.idiv, 1) := by decide +kernel
theorem dX12_mixes_15 : decode cX12_mixes 15 = .ok (.invokestatic 158, 3) := by decide +kernel
theorem dX12_mixes_18 : decode cX12_mixes 18 = .ok (.ifCond .eq 16, 3) := by decide +kernel
theorem dX12_mixes_21 : decode cX12_mixes 21 = .ok (.iload_n 3, 1) := by decide +kernel
theorem dX12_mixes_22 : decode cX12_mixes 22 = .ok (.bipush 10, 2) := by decide +kernel
theorem dX12_mixes_24 : decode cX12_mixes 24 = .ok (.irem, 1) := by decide +kernel
theorem dX12_mixes_25 : decode cX12_mixes 25 = .ok (.iconst 1, 1) := by decide +kernel
theorem dX12_mixes_26 : decode cX12_mixes 26 = .ok (.bipush 8, 2) := by decide +kernel
theorem dX12_mixes_28 : decode cX12_mixes 28 = .ok (.invokestatic 140, 3) := by decide +kernel
theorem dX12_mixes_31 : decode cX12_mixes 31 = .ok (.ifCond .ne 5, 3) := by decide +kernel
theorem dX12_mixes_34 : decode cX12_mixes 34 = .ok (.iconst (-1), 1) := by decide +kernel
theorem dX12_mixes_35 : decode cX12_mixes 35 = .ok (.ireturn, 1) := by decide +kernel
theorem dX12_mixes_36 : decode cX12_mixes 36 = .ok (.aload_n 0, 1) := by decide +kernel
theorem dX12_mixes_37 : decode cX12_mixes 37 = .ok (.getfield 120, 3) := by decide +kernel
theorem dX12_mixes_40 : decode cX12_mixes 40 = .ok (.iload_n 1, 1) := by decide +kernel
theorem dX12_mixes_41 : decode cX12_mixes 41 = .ok (.iaload, 1) := by decide +kernel
theorem dX12_mixes_42 : decode cX12_mixes 42 = .ok (.iconst (-1), 1) := by decide +kernel
theorem dX12_mixes_43 : decode cX12_mixes 43 = .ok (.if_icmp .eq 17, 3) := by decide +kernel
theorem dX12_mixes_46 : decode cX12_mixes 46 = .ok (.aload_n 0, 1) := by decide +kernel
theorem dX12_mixes_47 : decode cX12_mixes 47 = .ok (.getfield 120, 3) := by decide +kernel
theorem dX12_mixes_50 : decode cX12_mixes 50 = .ok (.iload_n 1, 1) := by decide +kernel
theorem dX12_mixes_51 : decode cX12_mixes 51 = .ok (.iaload, 1) := by decide +kernel
theorem dX12_mixes_52 : decode cX12_mixes 52 = .ok (.bipush (-4), 2) := by decide +kernel
theorem dX12_mixes_54 : decode cX12_mixes 54 = .ok (.if_icmp .eq 6, 3) := by decide +kernel
theorem dX12_mixes_57 : decode cX12_mixes 57 = .ok (.bipush (-12), 2) := by decide +kernel
theorem dX12_mixes_59 : decode cX12_mixes 59 = .ok (.ireturn, 1) := by decide +kernel
theorem dX12_mixes_60 : decode cX12_mixes 60 = .ok (.aload_n 0, 1) := by decide +kernel
theorem dX12_mixes_61 : decode cX12_mixes 61 = .ok (.getfield 120, 3) := by decide +kernel
theorem dX12_mixes_64 : decode cX12_mixes 64 = .ok (.iload_n 1, 1) := by decide +kernel
theorem dX12_mixes_65 : decode cX12_mixes 65 = .ok (.iaload, 1) := by decide +kernel
theorem dX12_mixes_66 : decode cX12_mixes 66 = .ok (.iconst (-1), 1) := by decide +kernel
theorem dX12_mixes_67 : decode cX12_mixes 67 = .ok (.if_icmp .ne 5, 3) := by decide +kernel
theorem dX12_mixes_70 : decode cX12_mixes 70 = .ok (.iconst 0, 1) := by decide +kernel
theorem dX12_mixes_71 : decode cX12_mixes 71 = .ok (.ireturn, 1) := by decide +kernel
theorem dX12_mixes_72 : decode cX12_mixes 72 = .ok (.iload_n 3, 1) := by decide +kernel
theorem dX12_mixes_73 : decode cX12_mixes 73 = .ok (.bipush 10, 2) := by decide +kernel
theorem dX12_mixes_75 : decode cX12_mixes 75 = .ok (.irem, 1) := by decide +kernel
theorem dX12_mixes_76 : decode cX12_mixes 76 = .ok (.istore 4, 2) := by decide +kernel
theorem dX12_mixes_78 : decode cX12_mixes 78 = .ok (.iload_n 3, 1) := by decide +kernel
theorem dX12_mixes_79 : decode cX12_mixes 79 = .ok (.bipush 10, 2) := by decide +kernel
theorem dX12_mixes_81 : decode cX12_mixes 81 = .ok (.idiv, 1) := by decide +kernel
theorem dX12_mixes_82 : decode cX12_mixes 82 = .ok (.istore 5, 2) := by decide +kernel
theorem dX12_mixes_84 : decode cX12_mixes 84 = .ok (.iconst 0, 1) := by decide +kernel
theorem dX12_mixes_85 : decode cX12_mixes 85 = .ok (.istore 6, 2) := by decide +kernel
theorem dX12_mixes_87 : decode cX12_mixes 87 = .ok (.iload 6, 2) := by decide +kernel
theorem dX12_mixes_89 : decode cX12_mixes 89 = .ok (.iload 4, 2) := by decide +kernel
theorem dX12_mixes_91 : decode cX12_mixes 91 = .ok (.if_icmp .ge 122, 3) := by decide +kernel
theorem dX12_mixes_94 : decode cX12_mixes 94 = .ok (.iload_n 2, 1) := by decide +kernel
theorem dX12_mixes_95 : decode cX12_mixes 95 = .ok (.i2l, 1) := by decide +kernel
theorem dX12_mixes_96 : decode cX12_mixes 96 = .ok (.iconst 2, 1) := by decide +kernel
theorem dX12_mixes_97 : decode cX12_mixes 97 = .ok (.iload 6, 2) := by decide +kernel
theorem dX12_mixes_99 : decode cX12_mixes 99 = .ok (.imul, 1) := by decide +kernel
theorem dX12_mixes_100 : decode cX12_mixes 100 = .ok (.i2l, 1) := by decide +kernel
theorem dX12_mixes_101 : decode cX12_mixes 101 = .ok (.ladd, 1) := by decide +kernel
theorem dX12_mixes_102 : decode cX12_mixes 102 = .ok (.lstore 7, 2) := by decide +kernel
theorem dX12_mixes_104 : decode cX12_mixes 104 = .ok (.lload 7, 2) := by decide +kernel
theorem dX12_mixes_106 : decode cX12_mixes 106 = .ok (.lconst 0, 1) := by decide +kernel
theorem dX12_mixes_107 : decode cX12_mixes 107 = .ok (.lcmp, 1) := by decide +kernel
theorem dX12_mixes_108 : decode cX12_mixes 108 = .ok (.ifCond .lt 30, 3) := by decide +kernel
theorem dX12_mixes_111 : decode cX12_mixes 111 = .ok (.lload 7, 2) := by decide +kernel
theorem dX12_mixes_113 : decode cX12_mixes 113 = .ok (.lconst 1, 1) := by decide +kernel
theorem dX12_mixes_114 : decode cX12_mixes 114 = .ok (.ladd, 1) := by decide +kernel
theorem dX12_mixes_115 : decode cX12_mixes 115 = .ok (.aload_n 0, 1) := by decide +kernel
theorem dX12_mixes_116 : decode cX12_mixes 116 = .ok (.getfield 123, 3) := by decide +kernel
theorem dX12_mixes_119 : decode cX12_mixes 119 = .ok (.iload_n 1, 1) := by decide +kernel
theorem dX12_mixes_120 : decode cX12_mixes 120 = .ok (.iaload, 1) := by decide +kernel
theorem dX12_mixes_121 : decode cX12_mixes 121 = .ok (.i2l, 1) := by decide +kernel
theorem dX12_mixes_122 : decode cX12_mixes 122 = .ok (.lcmp, 1) := by decide +kernel
theorem dX12_mixes_123 : decode cX12_mixes 123 = .ok (.ifCond .ge 15, 3) := by decide +kernel
theorem dX12_mixes_126 : decode cX12_mixes 126 = .ok (.aload_n 0, 1) := by decide +kernel
theorem dX12_mixes_127 : decode cX12_mixes 127 = .ok (.getfield 22, 3) := by decide +kernel
theorem dX12_mixes_130 : decode cX12_mixes 130 = .ok (.iload 5, 2) := by decide +kernel
theorem dX12_mixes_132 : decode cX12_mixes 132 = .ok (.iaload, 1) := by decide +kernel
theorem dX12_mixes_133 : decode cX12_mixes 133 = .ok (.bipush 8, 2) := by decide +kernel
theorem dX12_mixes_135 : decode cX12_mixes 135 = .ok (.if_icmp .ne 6, 3) := by decide +kernel
theorem dX12_mixes_138 : decode cX12_mixes 138 = .ok (.iload 6, 2) := by decide +kernel
theorem dX12_mixes_140 : decode cX12_mixes 140 = .ok (.ireturn, 1) := by decide +kernel
theorem dX12_mixes_141 : decode cX12_mixes 141 = .ok (.bipush 60, 2) := by decide +kernel
theorem dX12_mixes_143 : decode cX12_mixes 143 = .ok (.iload_n 1, 1) := by decide +kernel
theorem dX12_mixes_144 : decode cX12_mixes 144 = .ok (.imul, 1) := by decide +kernel
theorem dX12_mixes_145 : decode cX12_mixes 145 = .ok (.lload 7, 2) := by decide +kernel
theorem dX12_mixes_147 : decode cX12_mixes 147 = .ok (.l2i, 1) := by decide +kernel
theorem dX12_mixes_148 : decode cX12_mixes 148 = .ok (.iadd, 1) := by decide +kernel
theorem dX12_mixes_149 : decode cX12_mixes 149 = .ok (.istore 9, 2) := by decide +kernel
theorem dX12_mixes_151 : decode cX12_mixes 151 = .ok (.aload_n 0, 1) := by decide +kernel
theorem dX12_mixes_152 : decode cX12_mixes 152 = .ok (.getfield 126, 3) := by decide +kernel
theorem dX12_mixes_155 : decode cX12_mixes 155 = .ok (.iload 9, 2) := by decide +kernel
theorem dX12_mixes_157 : decode cX12_mixes 157 = .ok (.iconst 1, 1) := by decide +kernel
theorem dX12_mixes_158 : decode cX12_mixes 158 = .ok (.iadd, 1) := by decide +kernel
theorem dX12_mixes_159 : decode cX12_mixes 159 = .ok (.laload, 1) := by decide +kernel
theorem dX12_mixes_160 : decode cX12_mixes 160 = .ok (.l2i, 1) := by decide +kernel
theorem dX12_mixes_161 : decode cX12_mixes 161 = .ok (.iconst 1, 1) := by decide +kernel
theorem dX12_mixes_162 : decode cX12_mixes 162 = .ok (.bipush 9, 2) := by decide +kernel
theorem dX12_mixes_164 : decode cX12_mixes 164 = .ok (.invokestatic 140, 3) := by decide +kernel
theorem dX12_mixes_167 : decode cX12_mixes 167 = .ok (.ifCond .eq 20, 3) := by decide +kernel
theorem dX12_mixes_170 : decode cX12_mixes 170 = .ok (.aload_n 0, 1) := by decide +kernel
theorem dX12_mixes_171 : decode cX12_mixes 171 = .ok (.aload_n 0, 1) := by decide +kernel
theorem dX12_mixes_172 : decode cX12_mixes 172 = .ok (.getfield 126, 3) := by decide +kernel
theorem dX12_mixes_175 : decode cX12_mixes 175 = .ok (.iload 9, 2) := by decide +kernel
theorem dX12_mixes_177 : decode cX12_mixes 177 = .ok (.laload, 1) := by decide +kernel
theorem dX12_mixes_178 : decode cX12_mixes 178 = .ok (.l2i, 1) := by decide +kernel
theorem dX12_mixes_179 : decode cX12_mixes 179 = .ok (.iload 5, 2) := by decide +kernel
theorem dX12_mixes_181 : decode cX12_mixes 181 = .ok (.invokevirtual 169, 3) := by decide +kernel
theorem dX12_mixes_184 : decode cX12_mixes 184 = .ok (.ifCond .ne 6, 3) := by decide +kernel
theorem dX12_mixes_187 : decode cX12_mixes 187 = .ok (.iload 6, 2) := by decide +kernel
theorem dX12_mixes_189 : decode cX12_mixes 189 = .ok (.ireturn, 1) := by decide +kernel
theorem dX12_mixes_190 : decode cX12_mixes 190 = .ok (.aload_n 0, 1) := by decide +kernel
theorem dX12_mixes_191 : decode cX12_mixes 191 = .ok (.iload 5, 2) := by decide +kernel
theorem dX12_mixes_193 : decode cX12_mixes 193 = .ok (.aload_n 0, 1) := by decide +kernel
theorem dX12_mixes_194 : decode cX12_mixes 194 = .ok (.getfield 126, 3) := by decide +kernel
theorem dX12_mixes_197 : decode cX12_mixes 197 = .ok (.iload 9, 2) := by decide +kernel
theorem dX12_mixes_199 : decode cX12_mixes 199 = .ok (.iconst 1, 1) := by decide +kernel
theorem dX12_mixes_200 : decode cX12_mixes 200 = .ok (.iadd, 1) := by decide +kernel
theorem dX12_mixes_201 : decode cX12_mixes 201 = .ok (.laload, 1) := by decide +kernel
theorem dX12_mixes_202 : decode cX12_mixes 202 = .ok (.l2i, 1) := by decide +kernel
theorem dX12_mixes_203 : decode cX12_mixes 203 = .ok (.invokevirtual 173, 3) := by decide +kernel
theorem dX12_mixes_206 : decode cX12_mixes 206 = .ok (.pop, 1) := by decide +kernel
theorem dX12_mixes_207 : decode cX12_mixes 207 = .ok (.iinc 6 1, 3) := by decide +kernel
theorem dX12_mixes_210 : decode cX12_mixes 210 = .ok (.goto (-123), 3) := by decide +kernel
theorem dX12_mixes_213 : decode cX12_mixes 213 = .ok (.iload 4, 2) := by decide +kernel
theorem dX12_mixes_215 : decode cX12_mixes 215 = .ok (.ireturn, 1) := by decide +kernel
theorem dX12_feed_0 : decode cX12_feed 0 = .ok (.iload_n 1, 1) := by decide +kernel
theorem dX12_feed_1 : decode cX12_feed 1 = .ok (.iconst 0, 1) := by decide +kernel
theorem dX12_feed_2 : decode cX12_feed 2 = .ok (.sipush 255, 3) := by decide +kernel
theorem dX12_feed_5 : decode cX12_feed 5 = .ok (.invokestatic 140, 3) := by decide +kernel
theorem dX12_feed_8 : decode cX12_feed 8 = .ok (.ifCond .ne 5, 3) := by decide +kernel
theorem dX12_feed_11 : decode cX12_feed 11 = .ok (.iconst (-1), 1) := by decide +kernel
theorem dX12_feed_12 : decode cX12_feed 12 = .ok (.ireturn, 1) := by decide +kernel
theorem dX12_feed_13 : decode cX12_feed 13 = .ok (.aload_n 0, 1) := by decide +kernel
theorem dX12_feed_14 : decode cX12_feed 14 = .ok (.getfield 179, 3) := by decide +kernel
theorem dX12_feed_17 : decode cX12_feed 17 = .ok (.bipush 120, 2) := by decide +kernel
theorem dX12_feed_19 : decode cX12_feed 19 = .ok (.if_icmp .ne 6, 3) := by decide +kernel
theorem dX12_feed_22 : decode cX12_feed 22 = .ok (.bipush (-3), 2) := by decide +kernel
theorem dX12_feed_24 : decode cX12_feed 24 = .ok (.ireturn, 1) := by decide +kernel
theorem dX12_feed_25 : decode cX12_feed 25 = .ok (.aload_n 0, 1) := by decide +kernel
theorem dX12_feed_26 : decode cX12_feed 26 = .ok (.getfield 47, 3) := by decide +kernel
theorem dX12_feed_29 : decode cX12_feed 29 = .ok (.aload_n 0, 1) := by decide +kernel
theorem dX12_feed_30 : decode cX12_feed 30 = .ok (.getfield 179, 3) := by decide +kernel
theorem dX12_feed_33 : decode cX12_feed 33 = .ok (.iload_n 1, 1) := by decide +kernel
theorem dX12_feed_34 : decode cX12_feed 34 = .ok (.i2b, 1) := by decide +kernel
theorem dX12_feed_35 : decode cX12_feed 35 = .ok (.bastore, 1) := by decide +kernel
theorem dX12_feed_36 : decode cX12_feed 36 = .ok (.aload_n 0, 1) := by decide +kernel
theorem dX12_feed_37 : decode cX12_feed 37 = .ok (.dup, 1) := by decide +kernel
theorem dX12_feed_38 : decode cX12_feed 38 = .ok (.getfield 179, 3) := by decide +kernel
theorem dX12_feed_41 : decode cX12_feed 41 = .ok (.iconst 1, 1) := by decide +kernel
theorem dX12_feed_42 : decode cX12_feed 42 = .ok (.iadd, 1) := by decide +kernel
theorem dX12_feed_43 : decode cX12_feed 43 = .ok (.putfield 179, 3) := by decide +kernel
theorem dX12_feed_46 : decode cX12_feed 46 = .ok (.aload_n 0, 1) := by decide +kernel
theorem dX12_feed_47 : decode cX12_feed 47 = .ok (.getfield 179, 3) := by decide +kernel
theorem dX12_feed_50 : decode cX12_feed 50 = .ok (.ireturn, 1) := by decide +kernel
theorem dX12_look_0 : decode cX12_look 0 = .ok (.aload_n 0, 1) := by decide +kernel
theorem dX12_look_1 : decode cX12_look 1 = .ok (.getfield 182, 3) := by decide +kernel
theorem dX12_look_4 : decode cX12_look 4 = .ok (.aload_n 0, 1) := by decide +kernel
theorem dX12_look_5 : decode cX12_look 5 = .ok (.getfield 179, 3) := by decide +kernel
theorem dX12_look_8 : decode cX12_look 8 = .ok (.if_icmp .ge 15, 3) := by decide +kernel
theorem dX12_look_11 : decode cX12_look 11 = .ok (.aload_n 0, 1) := by decide +kernel
theorem dX12_look_12 : decode cX12_look 12 = .ok (.getfield 47, 3) := by decide +kernel
theorem dX12_look_15 : decode cX12_look 15 = .ok (.aload_n 0, 1) := by decide +kernel
theorem dX12_look_16 : decode cX12_look 16 = .ok (.getfield 182, 3) := by decide +kernel
theorem dX12_look_19 : decode cX12_look 19 = .ok (.baload, 1) := by decide +kernel
theorem dX12_look_20 : decode cX12_look 20 = .ok (.goto 4, 3) := by decide +kernel
theorem dX12_look_23 : decode cX12_look 23 = .ok (.iconst (-1), 1) := by decide +kernel
theorem dX12_look_24 : decode cX12_look 24 = .ok (.ireturn, 1) := by decide +kernel
theorem dX12_faulty_0 : decode cX12_faulty 0 = .ok (.aload_n 0, 1) := by decide +kernel
theorem dX12_faulty_1 : decode cX12_faulty 1 = .ok (.getfield 185, 3) := by decide +kernel
theorem dX12_faulty_4 : decode cX12_faulty 4 = .ok (.ifCond .ge 11, 3) := by decide +kernel
theorem dX12_faulty_7 : decode cX12_faulty 7 = .ok (.aload_n 0, 1) := by decide +kernel
theorem dX12_faulty_8 : decode cX12_faulty 8 = .ok (.aload_n 0, 1) := by decide +kernel
theorem dX12_faulty_9 : decode cX12_faulty 9 = .ok (.getfield 182, 3) := by decide +kernel
theorem dX12_faulty_12 : decode cX12_faulty 12 = .ok (.putfield 185, 3) := by decide +kernel
theorem dX12_faulty_15 : decode cX12_faulty 15 = .ok (.return_, 1) := by decide +kernel
theorem dX12_addStep_0 : decode cX12_addStep 0 = .ok (.aload_n 0, 1) := by decide +kernel
theorem dX12_addStep_1 : decode cX12_addStep 1 = .ok (.getfield 50, 3) := by decide +kernel
theorem dX12_addStep_4 : decode cX12_addStep 4 = .ok (.sipush 130, 3) := by decide +kernel
theorem dX12_addStep_7 : decode cX12_addStep 7 = .ok (.aload_n 0, 1) := by decide +kernel
theorem dX12_addStep_8 : decode cX12_addStep 8 = .ok (.getfield 188, 3) := by decide +kernel
theorem dX12_addStep_11 : decode cX12_addStep 11 = .ok (.iadd, 1) := by decide +kernel
theorem dX12_addStep_12 : decode cX12_addStep 12 = .ok (.iload_n 1, 1) := by decide +kernel
theorem dX12_addStep_13 : decode cX12_addStep 13 = .ok (.i2b, 1) := by decide +kernel
theorem dX12_addStep_14 : decode cX12_addStep 14 = .ok (.bastore, 1) := by decide +kernel
theorem dX12_addStep_15 : decode cX12_addStep 15 = .ok (.aload_n 0, 1) := by decide +kernel
theorem dX12_addStep_16 : decode cX12_addStep 16 = .ok (.getfield 53, 3) := by decide +kernel
theorem dX12_addStep_19 : decode cX12_addStep 19 = .ok (.sipush 130, 3) := by decide +kernel
theorem dX12_addStep_22 : decode cX12_addStep 22 = .ok (.aload_n 0, 1) := by decide +kernel
theorem dX12_addStep_23 : decode cX12_addStep 23 = .ok (.getfield 188, 3) := by decide +kernel
theorem dX12_addStep_26 : decode cX12_addStep 26 = .ok (.iadd, 1) := by decide +kernel
theorem dX12_addStep_27 : decode cX12_addStep 27 = .ok (.iload_n 2, 1) := by decide +kernel
theorem dX12_addStep_28 : decode cX12_addStep 28 = .ok (.iastore, 1) := by decide +kernel
theorem dX12_addStep_29 : decode cX12_addStep 29 = .ok (.aload_n 0, 1) := by decide +kernel
theorem dX12_addStep_30 : decode cX12_addStep 30 = .ok (.dup, 1) := by decide +kernel
theorem dX12_addStep_31 : decode cX12_addStep 31 = .ok (.getfield 188, 3) := by decide +kernel
theorem dX12_addStep_34 : decode cX12_addStep 34 = .ok (.iconst 1, 1) := by decide +kernel
theorem dX12_addStep_35 : decode cX12_addStep 35 = .ok (.iadd, 1) := by decide +kernel
theorem dX12_addStep_36 : decode cX12_addStep 36 = .ok (.putfield 188, 3) := by decide +kernel
theorem dX12_addStep_39 : decode cX12_addStep 39 = .ok (.return_, 1) := by decide +kernel
theorem dX12_nameOf_0 : decode cX12_nameOf 0 = .ok (.iload_n 0, 1) := by decide +kernel
theorem dX12_nameOf_1 : decode cX12_nameOf 1 = .ok (.lookupswitch 61 #[(97, 51), (98, 53), (116, 57), (118, 59), (119, 55)], 51) := by decide +kernel
theorem dX12_nameOf_52 : decode cX12_nameOf 52 = .ok (.iconst 0, 1) := by decide +kernel
theorem dX12_nameOf_53 : decode cX12_nameOf 53 = .ok (.ireturn, 1) := by decide +kernel
theorem dX12_nameOf_54 : decode cX12_nameOf 54 = .ok (.iconst 1, 1) := by decide +kernel
theorem dX12_nameOf_55 : decode cX12_nameOf 55 = .ok (.ireturn, 1) := by decide +kernel
theorem dX12_nameOf_56 : decode cX12_nameOf 56 = .ok (.iconst 2, 1) := by decide +kernel
theorem dX12_nameOf_57 : decode cX12_nameOf 57 = .ok (.ireturn, 1) := by decide +kernel
theorem dX12_nameOf_58 : decode cX12_nameOf 58 = .ok (.iconst 3, 1) := by decide +kernel
theorem dX12_nameOf_59 : decode cX12_nameOf 59 = .ok (.ireturn, 1) := by decide +kernel
theorem dX12_nameOf_60 : decode cX12_nameOf 60 = .ok (.iconst 4, 1) := by decide +kernel
theorem dX12_nameOf_61 : decode cX12_nameOf 61 = .ok (.ireturn, 1) := by decide +kernel
theorem dX12_nameOf_62 : decode cX12_nameOf 62 = .ok (.iconst (-1), 1) := by decide +kernel
theorem dX12_nameOf_63 : decode cX12_nameOf 63 = .ok (.ireturn, 1) := by decide +kernel
theorem dX12_opens_0 : decode cX12_opens 0 = .ok (.aload_n 0, 1) := by decide +kernel
theorem dX12_opens_1 : decode cX12_opens 1 = .ok (.getfield 191, 3) := by decide +kernel
theorem dX12_opens_4 : decode cX12_opens 4 = .ok (.bipush 6, 2) := by decide +kernel
theorem dX12_opens_6 : decode cX12_opens 6 = .ok (.if_icmp .ne 9, 3) := by decide +kernel
theorem dX12_opens_9 : decode cX12_opens 9 = .ok (.aload_n 0, 1) := by decide +kernel
theorem dX12_opens_10 : decode cX12_opens 10 = .ok (.invokevirtual 194, 3) := by decide +kernel
theorem dX12_opens_13 : decode cX12_opens 13 = .ok (.iconst 0, 1) := by decide +kernel
theorem dX12_opens_14 : decode cX12_opens 14 = .ok (.ireturn, 1) := by decide +kernel
theorem dX12_opens_15 : decode cX12_opens 15 = .ok (.aload_n 0, 1) := by decide +kernel
theorem dX12_opens_16 : decode cX12_opens 16 = .ok (.dup, 1) := by decide +kernel
theorem dX12_opens_17 : decode cX12_opens 17 = .ok (.getfield 191, 3) := by decide +kernel
theorem dX12_opens_20 : decode cX12_opens 20 = .ok (.iconst 1, 1) := by decide +kernel
theorem dX12_opens_21 : decode cX12_opens 21 = .ok (.iadd, 1) := by decide +kernel
theorem dX12_opens_22 : decode cX12_opens 22 = .ok (.putfield 191, 3) := by decide +kernel
theorem dX12_opens_25 : decode cX12_opens 25 = .ok (.aload_n 0, 1) := by decide +kernel
theorem dX12_opens_26 : decode cX12_opens 26 = .ok (.dup, 1) := by decide +kernel
theorem dX12_opens_27 : decode cX12_opens 27 = .ok (.getfield 182, 3) := by decide +kernel
theorem dX12_opens_30 : decode cX12_opens 30 = .ok (.iconst 1, 1) := by decide +kernel
theorem dX12_opens_31 : decode cX12_opens 31 = .ok (.iadd, 1) := by decide +kernel
theorem dX12_opens_32 : decode cX12_opens 32 = .ok (.putfield 182, 3) := by decide +kernel
theorem dX12_opens_35 : decode cX12_opens 35 = .ok (.iconst 1, 1) := by decide +kernel
theorem dX12_opens_36 : decode cX12_opens 36 = .ok (.ireturn, 1) := by decide +kernel
theorem dX12_figure_0 : decode cX12_figure 0 = .ok (.iconst 0, 1) := by decide +kernel
theorem dX12_figure_1 : decode cX12_figure 1 = .ok (.istore_n 1, 1) := by decide +kernel
theorem dX12_figure_2 : decode cX12_figure 2 = .ok (.iconst 0, 1) := by decide +kernel
theorem dX12_figure_3 : decode cX12_figure 3 = .ok (.istore_n 2, 1) := by decide +kernel
theorem dX12_figure_4 : decode cX12_figure 4 = .ok (.iload_n 2, 1) := by decide +kernel
theorem dX12_figure_5 : decode cX12_figure 5 = .ok (.iconst 4, 1) := by decide +kernel
theorem dX12_figure_6 : decode cX12_figure 6 = .ok (.if_icmp .ge 46, 3) := by decide +kernel
theorem dX12_figure_9 : decode cX12_figure 9 = .ok (.aload_n 0, 1) := by decide +kernel
theorem dX12_figure_10 : decode cX12_figure 10 = .ok (.invokevirtual 197, 3) := by decide +kernel
theorem dX12_figure_13 : decode cX12_figure 13 = .ok (.bipush 48, 2) := by decide +kernel
theorem dX12_figure_15 : decode cX12_figure 15 = .ok (.bipush 57, 2) := by decide +kernel
theorem dX12_figure_17 : decode cX12_figure 17 = .ok (.invokestatic 140, 3) := by decide +kernel
theorem dX12_figure_20 : decode cX12_figure 20 = .ok (.ifCond .eq 32, 3) := by decide +kernel
theorem dX12_figure_23 : decode cX12_figure 23 = .ok (.bipush 10, 2) := by decide +kernel
theorem dX12_figure_25 : decode cX12_figure 25 = .ok (.iload_n 1, 1) := by decide +kernel
theorem dX12_figure_26 : decode cX12_figure 26 = .ok (.imul, 1) := by decide +kernel
theorem dX12_figure_27 : decode cX12_figure 27 = .ok (.aload_n 0, 1) := by decide +kernel
theorem dX12_figure_28 : decode cX12_figure 28 = .ok (.invokevirtual 197, 3) := by decide +kernel
theorem dX12_figure_31 : decode cX12_figure 31 = .ok (.iadd, 1) := by decide +kernel
theorem dX12_figure_32 : decode cX12_figure 32 = .ok (.bipush 48, 2) := by decide +kernel
theorem dX12_figure_34 : decode cX12_figure 34 = .ok (.isub, 1) := by decide +kernel
theorem dX12_figure_35 : decode cX12_figure 35 = .ok (.istore_n 1, 1) := by decide +kernel
theorem dX12_figure_36 : decode cX12_figure 36 = .ok (.iinc 2 1, 3) := by decide +kernel
theorem dX12_figure_39 : decode cX12_figure 39 = .ok (.aload_n 0, 1) := by decide +kernel
theorem dX12_figure_40 : decode cX12_figure 40 = .ok (.dup, 1) := by decide +kernel
theorem dX12_figure_41 : decode cX12_figure 41 = .ok (.getfield 182, 3) := by decide +kernel
theorem dX12_figure_44 : decode cX12_figure 44 = .ok (.iconst 1, 1) := by decide +kernel
theorem dX12_figure_45 : decode cX12_figure 45 = .ok (.iadd, 1) := by decide +kernel
theorem dX12_figure_46 : decode cX12_figure 46 = .ok (.putfield 182, 3) := by decide +kernel
theorem dX12_figure_49 : decode cX12_figure 49 = .ok (.goto (-45), 3) := by decide +kernel
theorem dX12_figure_52 : decode cX12_figure 52 = .ok (.iload_n 2, 1) := by decide +kernel
theorem dX12_figure_53 : decode cX12_figure 53 = .ok (.ifCond .eq 17, 3) := by decide +kernel
theorem dX12_figure_56 : decode cX12_figure 56 = .ok (.aload_n 0, 1) := by decide +kernel
theorem dX12_figure_57 : decode cX12_figure 57 = .ok (.invokevirtual 197, 3) := by decide +kernel
theorem dX12_figure_60 : decode cX12_figure 60 = .ok (.bipush 48, 2) := by decide +kernel
theorem dX12_figure_62 : decode cX12_figure 62 = .ok (.bipush 57, 2) := by decide +kernel
theorem dX12_figure_64 : decode cX12_figure 64 = .ok (.invokestatic 140, 3) := by decide +kernel
theorem dX12_figure_67 : decode cX12_figure 67 = .ok (.ifCond .eq 7, 3) := by decide +kernel
theorem dX12_figure_70 : decode cX12_figure 70 = .ok (.aload_n 0, 1) := by decide +kernel
theorem dX12_figure_71 : decode cX12_figure 71 = .ok (.invokevirtual 194, 3) := by decide +kernel
theorem dX12_figure_74 : decode cX12_figure 74 = .ok (.aload_n 0, 1) := by decide +kernel
theorem dX12_figure_75 : decode cX12_figure 75 = .ok (.iconst 1, 1) := by decide +kernel
theorem dX12_figure_76 : decode cX12_figure 76 = .ok (.iload_n 1, 1) := by decide +kernel
theorem dX12_figure_77 : decode cX12_figure 77 = .ok (.invokevirtual 201, 3) := by decide +kernel
theorem dX12_figure_80 : decode cX12_figure 80 = .ok (.return_, 1) := by decide +kernel
theorem dX12_operand_0 : decode cX12_operand 0 = .ok (.aload_n 0, 1) := by decide +kernel
theorem dX12_operand_1 : decode cX12_operand 1 = .ok (.invokevirtual 197, 3) := by decide +kernel
theorem dX12_operand_4 : decode cX12_operand 4 = .ok (.istore_n 1, 1) := by decide +kernel
theorem dX12_operand_5 : decode cX12_operand 5 = .ok (.iload_n 1, 1) := by decide +kernel
theorem dX12_operand_6 : decode cX12_operand 6 = .ok (.invokestatic 205, 3) := by decide +kernel
theorem dX12_operand_9 : decode cX12_operand 9 = .ok (.ifCond .lt 25, 3) := by decide +kernel
theorem dX12_operand_12 : decode cX12_operand 12 = .ok (.aload_n 0, 1) := by decide +kernel
theorem dX12_operand_13 : decode cX12_operand 13 = .ok (.iconst 2, 1) := by decide +kernel
theorem dX12_operand_14 : decode cX12_operand 14 = .ok (.iload_n 1, 1) := by decide +kernel
theorem dX12_operand_15 : decode cX12_operand 15 = .ok (.invokestatic 205, 3) := by decide +kernel
theorem dX12_operand_18 : decode cX12_operand 18 = .ok (.invokevirtual 201, 3) := by decide +kernel
theorem dX12_operand_21 : decode cX12_operand 21 = .ok (.aload_n 0, 1) := by decide +kernel
theorem dX12_operand_22 : decode cX12_operand 22 = .ok (.dup, 1) := by decide +kernel
theorem dX12_operand_23 : decode cX12_operand 23 = .ok (.getfield 182, 3) := by decide +kernel
theorem dX12_operand_26 : decode cX12_operand 26 = .ok (.iconst 1, 1) := by decide +kernel
theorem dX12_operand_27 : decode cX12_operand 27 = .ok (.iadd, 1) := by decide +kernel
theorem dX12_operand_28 : decode cX12_operand 28 = .ok (.putfield 182, 3) := by decide +kernel
theorem dX12_operand_31 : decode cX12_operand 31 = .ok (.goto 123, 3) := by decide +kernel
theorem dX12_operand_34 : decode cX12_operand 34 = .ok (.iload_n 1, 1) := by decide +kernel
theorem dX12_operand_35 : decode cX12_operand 35 = .ok (.bipush 33, 2) := by decide +kernel
theorem dX12_operand_37 : decode cX12_operand 37 = .ok (.if_icmp .eq 9, 3) := by decide +kernel
theorem dX12_operand_40 : decode cX12_operand 40 = .ok (.iload_n 1, 1) := by decide +kernel
theorem dX12_operand_41 : decode cX12_operand 41 = .ok (.bipush 45, 2) := by decide +kernel
theorem dX12_operand_43 : decode cX12_operand 43 = .ok (.if_icmp .ne 44, 3) := by decide +kernel
theorem dX12_operand_46 : decode cX12_operand 46 = .ok (.aload_n 0, 1) := by decide +kernel
theorem dX12_operand_47 : decode cX12_operand 47 = .ok (.invokevirtual 209, 3) := by decide +kernel
theorem dX12_operand_50 : decode cX12_operand 50 = .ok (.ifCond .ne 4, 3) := by decide +kernel
theorem dX12_operand_53 : decode cX12_operand 53 = .ok (.return_, 1) := by decide +kernel
theorem dX12_operand_54 : decode cX12_operand 54 = .ok (.aload_n 0, 1) := by decide +kernel
theorem dX12_operand_55 : decode cX12_operand 55 = .ok (.invokevirtual 213, 3) := by decide +kernel
theorem dX12_operand_58 : decode cX12_operand 58 = .ok (.aload_n 0, 1) := by decide +kernel
theorem dX12_operand_59 : decode cX12_operand 59 = .ok (.dup, 1) := by decide +kernel
theorem dX12_operand_60 : decode cX12_operand 60 = .ok (.getfield 191, 3) := by decide +kernel
theorem dX12_operand_63 : decode cX12_operand 63 = .ok (.iconst 1, 1) := by decide +kernel
theorem dX12_operand_64 : decode cX12_operand 64 = .ok (.isub, 1) := by decide +kernel
theorem dX12_operand_65 : decode cX12_operand 65 = .ok (.putfield 191, 3) := by decide +kernel
theorem dX12_operand_68 : decode cX12_operand 68 = .ok (.aload_n 0, 1) := by decide +kernel
theorem dX12_operand_69 : decode cX12_operand 69 = .ok (.iload_n 1, 1) := by decide +kernel
theorem dX12_operand_70 : decode cX12_operand 70 = .ok (.bipush 33, 2) := by decide +kernel
theorem dX12_operand_72 : decode cX12_operand 72 = .ok (.if_icmp .ne 7, 3) := by decide +kernel
theorem dX12_operand_75 : decode cX12_operand 75 = .ok (.iconst 3, 1) := by decide +kernel
theorem dX12_operand_76 : decode cX12_operand 76 = .ok (.goto 4, 3) := by decide +kernel
theorem dX12_operand_79 : decode cX12_operand 79 = .ok (.iconst 4, 1) := by decide +kernel
theorem dX12_operand_80 : decode cX12_operand 80 = .ok (.iconst 0, 1) := by decide +kernel
theorem dX12_operand_81 : decode cX12_operand 81 = .ok (.invokevirtual 201, 3) := by decide +kernel
theorem dX12_operand_84 : decode cX12_operand 84 = .ok (.goto 70, 3) := by decide +kernel
theorem dX12_operand_87 : decode cX12_operand 87 = .ok (.iload_n 1, 1) := by decide +kernel
theorem dX12_operand_88 : decode cX12_operand 88 = .ok (.bipush 40, 2) := by decide +kernel
theorem dX12_operand_90 : decode cX12_operand 90 = .ok (.if_icmp .ne 60, 3) := by decide +kernel
theorem dX12_operand_93 : decode cX12_operand 93 = .ok (.aload_n 0, 1) := by decide +kernel
theorem dX12_operand_94 : decode cX12_operand 94 = .ok (.invokevirtual 209, 3) := by decide +kernel
theorem dX12_operand_97 : decode cX12_operand 97 = .ok (.ifCond .ne 4, 3) := by decide +kernel
theorem dX12_operand_100 : decode cX12_operand 100 = .ok (.return_, 1) := by decide +kernel
theorem dX12_operand_101 : decode cX12_operand 101 = .ok (.aload_n 0, 1) := by decide +kernel
theorem dX12_operand_102 : decode cX12_operand 102 = .ok (.invokevirtual 216, 3) := by decide +kernel
theorem dX12_operand_105 : decode cX12_operand 105 = .ok (.aload_n 0, 1) := by decide +kernel
theorem dX12_operand_106 : decode cX12_operand 106 = .ok (.getfield 185, 3) := by decide +kernel
theorem dX12_operand_109 : decode cX12_operand 109 = .ok (.ifCond .lt 4, 3) := by decide +kernel
theorem dX12_operand_112 : decode cX12_operand 112 = .ok (.return_, 1) := by decide +kernel
theorem dX12_operand_113 : decode cX12_operand 113 = .ok (.aload_n 0, 1) := by decide +kernel
theorem dX12_operand_114 : decode cX12_operand 114 = .ok (.invokevirtual 197, 3) := by decide +kernel
theorem dX12_operand_117 : decode cX12_operand 117 = .ok (.bipush 41, 2) := by decide +kernel
theorem dX12_operand_119 : decode cX12_operand 119 = .ok (.if_icmp .eq 8, 3) := by decide +kernel
theorem dX12_operand_122 : decode cX12_operand 122 = .ok (.aload_n 0, 1) := by decide +kernel
theorem dX12_operand_123 : decode cX12_operand 123 = .ok (.invokevirtual 194, 3) := by decide +kernel
theorem dX12_operand_126 : decode cX12_operand 126 = .ok (.return_, 1) := by decide +kernel
theorem dX12_operand_127 : decode cX12_operand 127 = .ok (.aload_n 0, 1) := by decide +kernel
theorem dX12_operand_128 : decode cX12_operand 128 = .ok (.dup, 1) := by decide +kernel
theorem dX12_operand_129 : decode cX12_operand 129 = .ok (.getfield 182, 3) := by decide +kernel
theorem dX12_operand_132 : decode cX12_operand 132 = .ok (.iconst 1, 1) := by decide +kernel
theorem dX12_operand_133 : decode cX12_operand 133 = .ok (.iadd, 1) := by decide +kernel
theorem dX12_operand_134 : decode cX12_operand 134 = .ok (.putfield 182, 3) := by decide +kernel
theorem dX12_operand_137 : decode cX12_operand 137 = .ok (.aload_n 0, 1) := by decide +kernel
theorem dX12_operand_138 : decode cX12_operand 138 = .ok (.dup, 1) := by decide +kernel
theorem dX12_operand_139 : decode cX12_operand 139 = .ok (.getfield 191, 3) := by decide +kernel
theorem dX12_operand_142 : decode cX12_operand 142 = .ok (.iconst 1, 1) := by decide +kernel
theorem dX12_operand_143 : decode cX12_operand 143 = .ok (.isub, 1) := by decide +kernel
theorem dX12_operand_144 : decode cX12_operand 144 = .ok (.putfield 191, 3) := by decide +kernel
theorem dX12_operand_147 : decode cX12_operand 147 = .ok (.goto 7, 3) := by decide +kernel
theorem dX12_operand_150 : decode cX12_operand 150 = .ok (.aload_n 0, 1) := by decide +kernel
theorem dX12_operand_151 : decode cX12_operand 151 = .ok (.invokevirtual 219, 3) := by decide +kernel
theorem dX12_operand_154 : decode cX12_operand 154 = .ok (.return_, 1) := by decide +kernel
theorem dX12_product_0 : decode cX12_product 0 = .ok (.aload_n 0, 1) := by decide +kernel
theorem dX12_product_1 : decode cX12_product 1 = .ok (.invokevirtual 213, 3) := by decide +kernel
theorem dX12_product_4 : decode cX12_product 4 = .ok (.aload_n 0, 1) := by decide +kernel
theorem dX12_product_5 : decode cX12_product 5 = .ok (.getfield 185, 3) := by decide +kernel
theorem dX12_product_8 : decode cX12_product 8 = .ok (.ifCond .ge 58, 3) := by decide +kernel
theorem dX12_product_11 : decode cX12_product 11 = .ok (.aload_n 0, 1) := by decide +kernel
theorem dX12_product_12 : decode cX12_product 12 = .ok (.invokevirtual 197, 3) := by decide +kernel
theorem dX12_product_15 : decode cX12_product 15 = .ok (.bipush 42, 2) := by decide +kernel
theorem dX12_product_17 : decode cX12_product 17 = .ok (.if_icmp .eq 21, 3) := by decide +kernel
theorem dX12_product_20 : decode cX12_product 20 = .ok (.aload_n 0, 1) := by decide +kernel
theorem dX12_product_21 : decode cX12_product 21 = .ok (.invokevirtual 197, 3) := by decide +kernel
theorem dX12_product_24 : decode cX12_product 24 = .ok (.bipush 47, 2) := by decide +kernel
theorem dX12_product_26 : decode cX12_product 26 = .ok (.if_icmp .eq 12, 3) := by decide +kernel
theorem dX12_product_29 : decode cX12_product 29 = .ok (.aload_n 0, 1) := by decide +kernel
theorem dX12_product_30 : decode cX12_product 30 = .ok (.invokevirtual 197, 3) := by decide +kernel
theorem dX12_product_33 : decode cX12_product 33 = .ok (.bipush 37, 2) := by decide +kernel
theorem dX12_product_35 : decode cX12_product 35 = .ok (.if_icmp .ne 31, 3) := by decide +kernel
theorem dX12_product_38 : decode cX12_product 38 = .ok (.aload_n 0, 1) := by decide +kernel
theorem dX12_product_39 : decode cX12_product 39 = .ok (.invokevirtual 197, 3) := by decide +kernel
theorem dX12_product_42 : decode cX12_product 42 = .ok (.istore_n 1, 1) := by decide +kernel
theorem dX12_product_43 : decode cX12_product 43 = .ok (.aload_n 0, 1) := by decide +kernel
theorem dX12_product_44 : decode cX12_product 44 = .ok (.dup, 1) := by decide +kernel
theorem dX12_product_45 : decode cX12_product 45 = .ok (.getfield 182, 3) := by decide +kernel
theorem dX12_product_48 : decode cX12_product 48 = .ok (.iconst 1, 1) := by decide +kernel
theorem dX12_product_49 : decode cX12_product 49 = .ok (.iadd, 1) := by decide +kernel
theorem dX12_product_50 : decode cX12_product 50 = .ok (.putfield 182, 3) := by decide +kernel
theorem dX12_product_53 : decode cX12_product 53 = .ok (.aload_n 0, 1) := by decide +kernel
theorem dX12_product_54 : decode cX12_product 54 = .ok (.invokevirtual 213, 3) := by decide +kernel
theorem dX12_product_57 : decode cX12_product 57 = .ok (.aload_n 0, 1) := by decide +kernel
theorem dX12_product_58 : decode cX12_product 58 = .ok (.iload_n 1, 1) := by decide +kernel
theorem dX12_product_59 : decode cX12_product 59 = .ok (.iconst 0, 1) := by decide +kernel
theorem dX12_product_60 : decode cX12_product 60 = .ok (.invokevirtual 201, 3) := by decide +kernel
theorem dX12_product_63 : decode cX12_product 63 = .ok (.goto (-59), 3) := by decide +kernel
theorem dX12_product_66 : decode cX12_product 66 = .ok (.return_, 1) := by decide +kernel
theorem dX12_sum_0 : decode cX12_sum 0 = .ok (.aload_n 0, 1) := by decide +kernel
theorem dX12_sum_1 : decode cX12_sum 1 = .ok (.invokevirtual 222, 3) := by decide +kernel
theorem dX12_sum_4 : decode cX12_sum 4 = .ok (.aload_n 0, 1) := by decide +kernel
theorem dX12_sum_5 : decode cX12_sum 5 = .ok (.getfield 185, 3) := by decide +kernel
theorem dX12_sum_8 : decode cX12_sum 8 = .ok (.ifCond .ge 49, 3) := by decide +kernel
theorem dX12_sum_11 : decode cX12_sum 11 = .ok (.aload_n 0, 1) := by decide +kernel
theorem dX12_sum_12 : decode cX12_sum 12 = .ok (.invokevirtual 197, 3) := by decide +kernel
theorem dX12_sum_15 : decode cX12_sum 15 = .ok (.bipush 43, 2) := by decide +kernel
theorem dX12_sum_17 : decode cX12_sum 17 = .ok (.if_icmp .eq 12, 3) := by decide +kernel
theorem dX12_sum_20 : decode cX12_sum 20 = .ok (.aload_n 0, 1) := by decide +kernel
theorem dX12_sum_21 : decode cX12_sum 21 = .ok (.invokevirtual 197, 3) := by decide +kernel
theorem dX12_sum_24 : decode cX12_sum 24 = .ok (.bipush 45, 2) := by decide +kernel
theorem dX12_sum_26 : decode cX12_sum 26 = .ok (.if_icmp .ne 31, 3) := by decide +kernel
theorem dX12_sum_29 : decode cX12_sum 29 = .ok (.aload_n 0, 1) := by decide +kernel
theorem dX12_sum_30 : decode cX12_sum 30 = .ok (.invokevirtual 197, 3) := by decide +kernel
theorem dX12_sum_33 : decode cX12_sum 33 = .ok (.istore_n 1, 1) := by decide +kernel
theorem dX12_sum_34 : decode cX12_sum 34 = .ok (.aload_n 0, 1) := by decide +kernel
theorem dX12_sum_35 : decode cX12_sum 35 = .ok (.dup, 1) := by decide +kernel
theorem dX12_sum_36 : decode cX12_sum 36 = .ok (.getfield 182, 3) := by decide +kernel
theorem dX12_sum_39 : decode cX12_sum 39 = .ok (.iconst 1, 1) := by decide +kernel
theorem dX12_sum_40 : decode cX12_sum 40 = .ok (.iadd, 1) := by decide +kernel
theorem dX12_sum_41 : decode cX12_sum 41 = .ok (.putfield 182, 3) := by decide +kernel
theorem dX12_sum_44 : decode cX12_sum 44 = .ok (.aload_n 0, 1) := by decide +kernel
theorem dX12_sum_45 : decode cX12_sum 45 = .ok (.invokevirtual 222, 3) := by decide +kernel
theorem dX12_sum_48 : decode cX12_sum 48 = .ok (.aload_n 0, 1) := by decide +kernel
theorem dX12_sum_49 : decode cX12_sum 49 = .ok (.iload_n 1, 1) := by decide +kernel
theorem dX12_sum_50 : decode cX12_sum 50 = .ok (.iconst 0, 1) := by decide +kernel
theorem dX12_sum_51 : decode cX12_sum 51 = .ok (.invokevirtual 201, 3) := by decide +kernel
theorem dX12_sum_54 : decode cX12_sum 54 = .ok (.goto (-50), 3) := by decide +kernel
theorem dX12_sum_57 : decode cX12_sum 57 = .ok (.return_, 1) := by decide +kernel
theorem dX12_compared_0 : decode cX12_compared 0 = .ok (.aload_n 0, 1) := by decide +kernel
theorem dX12_compared_1 : decode cX12_compared 1 = .ok (.invokevirtual 225, 3) := by decide +kernel
theorem dX12_compared_4 : decode cX12_compared 4 = .ok (.aload_n 0, 1) := by decide +kernel
theorem dX12_compared_5 : decode cX12_compared 5 = .ok (.invokevirtual 197, 3) := by decide +kernel
theorem dX12_compared_8 : decode cX12_compared 8 = .ok (.istore_n 1, 1) := by decide +kernel
theorem dX12_compared_9 : decode cX12_compared 9 = .ok (.aload_n 0, 1) := by decide +kernel
theorem dX12_compared_10 : decode cX12_compared 10 = .ok (.getfield 185, 3) := by decide +kernel
theorem dX12_compared_13 : decode cX12_compared 13 = .ok (.ifCond .ge 21, 3) := by decide +kernel
theorem dX12_compared_16 : decode cX12_compared 16 = .ok (.iload_n 1, 1) := by decide +kernel
theorem dX12_compared_17 : decode cX12_compared 17 = .ok (.bipush 60, 2) := by decide +kernel
theorem dX12_compared_19 : decode cX12_compared 19 = .ok (.if_icmp .eq 16, 3) := by decide +kernel
theorem dX12_compared_22 : decode cX12_compared 22 = .ok (.iload_n 1, 1) := by decide +kernel
theorem dX12_compared_23 : decode cX12_compared 23 = .ok (.bipush 61, 2) := by decide +kernel
theorem dX12_compared_25 : decode cX12_compared 25 = .ok (.if_icmp .eq 10, 3) := by decide +kernel
theorem dX12_compared_28 : decode cX12_compared 28 = .ok (.iload_n 1, 1) := by decide +kernel
theorem dX12_compared_29 : decode cX12_compared 29 = .ok (.bipush 62, 2) := by decide +kernel
theorem dX12_compared_31 : decode cX12_compared 31 = .ok (.if_icmp .eq 4, 3) := by decide +kernel
theorem dX12_compared_34 : decode cX12_compared 34 = .ok (.return_, 1) := by decide +kernel
theorem dX12_compared_35 : decode cX12_compared 35 = .ok (.aload_n 0, 1) := by decide +kernel
theorem dX12_compared_36 : decode cX12_compared 36 = .ok (.dup, 1) := by decide +kernel
theorem dX12_compared_37 : decode cX12_compared 37 = .ok (.getfield 182, 3) := by decide +kernel
theorem dX12_compared_40 : decode cX12_compared 40 = .ok (.iconst 1, 1) := by decide +kernel
theorem dX12_compared_41 : decode cX12_compared 41 = .ok (.iadd, 1) := by decide +kernel
theorem dX12_compared_42 : decode cX12_compared 42 = .ok (.putfield 182, 3) := by decide +kernel
theorem dX12_compared_45 : decode cX12_compared 45 = .ok (.aload_n 0, 1) := by decide +kernel
theorem dX12_compared_46 : decode cX12_compared 46 = .ok (.invokevirtual 225, 3) := by decide +kernel
theorem dX12_compared_49 : decode cX12_compared 49 = .ok (.aload_n 0, 1) := by decide +kernel
theorem dX12_compared_50 : decode cX12_compared 50 = .ok (.iload_n 1, 1) := by decide +kernel
theorem dX12_compared_51 : decode cX12_compared 51 = .ok (.iconst 0, 1) := by decide +kernel
theorem dX12_compared_52 : decode cX12_compared 52 = .ok (.invokevirtual 201, 3) := by decide +kernel
theorem dX12_compared_55 : decode cX12_compared 55 = .ok (.return_, 1) := by decide +kernel
theorem dX12_both_0 : decode cX12_both 0 = .ok (.aload_n 0, 1) := by decide +kernel
theorem dX12_both_1 : decode cX12_both 1 = .ok (.invokevirtual 228, 3) := by decide +kernel
theorem dX12_both_4 : decode cX12_both 4 = .ok (.aload_n 0, 1) := by decide +kernel
theorem dX12_both_5 : decode cX12_both 5 = .ok (.getfield 185, 3) := by decide +kernel
theorem dX12_both_8 : decode cX12_both 8 = .ok (.ifCond .ge 36, 3) := by decide +kernel
theorem dX12_both_11 : decode cX12_both 11 = .ok (.aload_n 0, 1) := by decide +kernel
theorem dX12_both_12 : decode cX12_both 12 = .ok (.invokevirtual 197, 3) := by decide +kernel
theorem dX12_both_15 : decode cX12_both 15 = .ok (.bipush 38, 2) := by decide +kernel
theorem dX12_both_17 : decode cX12_both 17 = .ok (.if_icmp .ne 27, 3) := by decide +kernel
theorem dX12_both_20 : decode cX12_both 20 = .ok (.aload_n 0, 1) := by decide +kernel
theorem dX12_both_21 : decode cX12_both 21 = .ok (.dup, 1) := by decide +kernel
theorem dX12_both_22 : decode cX12_both 22 = .ok (.getfield 182, 3) := by decide +kernel
theorem dX12_both_25 : decode cX12_both 25 = .ok (.iconst 1, 1) := by decide +kernel
theorem dX12_both_26 : decode cX12_both 26 = .ok (.iadd, 1) := by decide +kernel
theorem dX12_both_27 : decode cX12_both 27 = .ok (.putfield 182, 3) := by decide +kernel
theorem dX12_both_30 : decode cX12_both 30 = .ok (.aload_n 0, 1) := by decide +kernel
theorem dX12_both_31 : decode cX12_both 31 = .ok (.invokevirtual 228, 3) := by decide +kernel
theorem dX12_both_34 : decode cX12_both 34 = .ok (.aload_n 0, 1) := by decide +kernel
theorem dX12_both_35 : decode cX12_both 35 = .ok (.bipush 38, 2) := by decide +kernel
theorem dX12_both_37 : decode cX12_both 37 = .ok (.iconst 0, 1) := by decide +kernel
theorem dX12_both_38 : decode cX12_both 38 = .ok (.invokevirtual 201, 3) := by decide +kernel
theorem dX12_both_41 : decode cX12_both 41 = .ok (.goto (-37), 3) := by decide +kernel
theorem dX12_both_44 : decode cX12_both 44 = .ok (.return_, 1) := by decide +kernel
theorem dX12_either_0 : decode cX12_either 0 = .ok (.aload_n 0, 1) := by decide +kernel
theorem dX12_either_1 : decode cX12_either 1 = .ok (.invokevirtual 231, 3) := by decide +kernel
theorem dX12_either_4 : decode cX12_either 4 = .ok (.aload_n 0, 1) := by decide +kernel
theorem dX12_either_5 : decode cX12_either 5 = .ok (.getfield 185, 3) := by decide +kernel
theorem dX12_either_8 : decode cX12_either 8 = .ok (.ifCond .ge 36, 3) := by decide +kernel
theorem dX12_either_11 : decode cX12_either 11 = .ok (.aload_n 0, 1) := by decide +kernel
theorem dX12_either_12 : decode cX12_either 12 = .ok (.invokevirtual 197, 3) := by decide +kernel
theorem dX12_either_15 : decode cX12_either 15 = .ok (.bipush 124, 2) := by decide +kernel
theorem dX12_either_17 : decode cX12_either 17 = .ok (.if_icmp .ne 27, 3) := by decide +kernel
theorem dX12_either_20 : decode cX12_either 20 = .ok (.aload_n 0, 1) := by decide +kernel
theorem dX12_either_21 : decode cX12_either 21 = .ok (.dup, 1) := by decide +kernel
theorem dX12_either_22 : decode cX12_either 22 = .ok (.getfield 182, 3) := by decide +kernel
theorem dX12_either_25 : decode cX12_either 25 = .ok (.iconst 1, 1) := by decide +kernel
theorem dX12_either_26 : decode cX12_either 26 = .ok (.iadd, 1) := by decide +kernel
theorem dX12_either_27 : decode cX12_either 27 = .ok (.putfield 182, 3) := by decide +kernel
theorem dX12_either_30 : decode cX12_either 30 = .ok (.aload_n 0, 1) := by decide +kernel
theorem dX12_either_31 : decode cX12_either 31 = .ok (.invokevirtual 231, 3) := by decide +kernel
theorem dX12_either_34 : decode cX12_either 34 = .ok (.aload_n 0, 1) := by decide +kernel
theorem dX12_either_35 : decode cX12_either 35 = .ok (.bipush 124, 2) := by decide +kernel
theorem dX12_either_37 : decode cX12_either 37 = .ok (.iconst 0, 1) := by decide +kernel
theorem dX12_either_38 : decode cX12_either 38 = .ok (.invokevirtual 201, 3) := by decide +kernel
theorem dX12_either_41 : decode cX12_either 41 = .ok (.goto (-37), 3) := by decide +kernel
theorem dX12_either_44 : decode cX12_either 44 = .ok (.return_, 1) := by decide +kernel
theorem dX12_oneLine_0 : decode cX12_oneLine 0 = .ok (.bipush 61, 2) := by decide +kernel
theorem dX12_oneLine_2 : decode cX12_oneLine 2 = .ok (.aload_n 0, 1) := by decide +kernel
theorem dX12_oneLine_3 : decode cX12_oneLine 3 = .ok (.getfield 56, 3) := by decide +kernel
theorem dX12_oneLine_6 : decode cX12_oneLine 6 = .ok (.iconst 1, 1) := by decide +kernel
theorem dX12_oneLine_7 : decode cX12_oneLine 7 = .ok (.iaload, 1) := by decide +kernel
theorem dX12_oneLine_8 : decode cX12_oneLine 8 = .ok (.iadd, 1) := by decide +kernel
theorem dX12_oneLine_9 : decode cX12_oneLine 9 = .ok (.istore_n 1, 1) := by decide +kernel
theorem dX12_oneLine_10 : decode cX12_oneLine 10 = .ok (.aload_n 0, 1) := by decide +kernel
theorem dX12_oneLine_11 : decode cX12_oneLine 11 = .ok (.getfield 59, 3) := by decide +kernel
theorem dX12_oneLine_14 : decode cX12_oneLine 14 = .ok (.iload_n 1, 1) := by decide +kernel
theorem dX12_oneLine_15 : decode cX12_oneLine 15 = .ok (.aload_n 0, 1) := by decide +kernel
theorem dX12_oneLine_16 : decode cX12_oneLine 16 = .ok (.getfield 188, 3) := by decide +kernel
theorem dX12_oneLine_19 : decode cX12_oneLine 19 = .ok (.i2s, 1) := by decide +kernel
theorem dX12_oneLine_20 : decode cX12_oneLine 20 = .ok (.sastore, 1) := by decide +kernel
theorem dX12_oneLine_21 : decode cX12_oneLine 21 = .ok (.aload_n 0, 1) := by decide +kernel
theorem dX12_oneLine_22 : decode cX12_oneLine 22 = .ok (.invokevirtual 216, 3) := by decide +kernel
theorem dX12_oneLine_25 : decode cX12_oneLine 25 = .ok (.aload_n 0, 1) := by decide +kernel
theorem dX12_oneLine_26 : decode cX12_oneLine 26 = .ok (.getfield 185, 3) := by decide +kernel
theorem dX12_oneLine_29 : decode cX12_oneLine 29 = .ok (.ifCond .ge 37, 3) := by decide +kernel
theorem dX12_oneLine_32 : decode cX12_oneLine 32 = .ok (.aload_n 0, 1) := by decide +kernel
theorem dX12_oneLine_33 : decode cX12_oneLine 33 = .ok (.invokevirtual 197, 3) := by decide +kernel
theorem dX12_oneLine_36 : decode cX12_oneLine 36 = .ok (.bipush 63, 2) := by decide +kernel
theorem dX12_oneLine_38 : decode cX12_oneLine 38 = .ok (.if_icmp .ne 28, 3) := by decide +kernel
theorem dX12_oneLine_41 : decode cX12_oneLine 41 = .ok (.aload_n 0, 1) := by decide +kernel
theorem dX12_oneLine_42 : decode cX12_oneLine 42 = .ok (.dup, 1) := by decide +kernel
theorem dX12_oneLine_43 : decode cX12_oneLine 43 = .ok (.getfield 182, 3) := by decide +kernel
theorem dX12_oneLine_46 : decode cX12_oneLine 46 = .ok (.iconst 1, 1) := by decide +kernel
theorem dX12_oneLine_47 : decode cX12_oneLine 47 = .ok (.iadd, 1) := by decide +kernel
theorem dX12_oneLine_48 : decode cX12_oneLine 48 = .ok (.putfield 182, 3) := by decide +kernel
theorem dX12_oneLine_51 : decode cX12_oneLine 51 = .ok (.aload_n 0, 1) := by decide +kernel
theorem dX12_oneLine_52 : decode cX12_oneLine 52 = .ok (.getfield 59, 3) := by decide +kernel
theorem dX12_oneLine_55 : decode cX12_oneLine 55 = .ok (.iload_n 1, 1) := by decide +kernel
theorem dX12_oneLine_56 : decode cX12_oneLine 56 = .ok (.aload_n 0, 1) := by decide +kernel
theorem dX12_oneLine_57 : decode cX12_oneLine 57 = .ok (.getfield 188, 3) := by decide +kernel
theorem dX12_oneLine_60 : decode cX12_oneLine 60 = .ok (.i2s, 1) := by decide +kernel
theorem dX12_oneLine_61 : decode cX12_oneLine 61 = .ok (.sastore, 1) := by decide +kernel
theorem dX12_oneLine_62 : decode cX12_oneLine 62 = .ok (.aload_n 0, 1) := by decide +kernel
theorem dX12_oneLine_63 : decode cX12_oneLine 63 = .ok (.invokevirtual 216, 3) := by decide +kernel
theorem dX12_oneLine_66 : decode cX12_oneLine 66 = .ok (.aload_n 0, 1) := by decide +kernel
theorem dX12_oneLine_67 : decode cX12_oneLine 67 = .ok (.getfield 63, 3) := by decide +kernel
theorem dX12_oneLine_70 : decode cX12_oneLine 70 = .ok (.iload_n 1, 1) := by decide +kernel
theorem dX12_oneLine_71 : decode cX12_oneLine 71 = .ok (.aload_n 0, 1) := by decide +kernel
theorem dX12_oneLine_72 : decode cX12_oneLine 72 = .ok (.getfield 188, 3) := by decide +kernel
theorem dX12_oneLine_75 : decode cX12_oneLine 75 = .ok (.i2s, 1) := by decide +kernel
theorem dX12_oneLine_76 : decode cX12_oneLine 76 = .ok (.sastore, 1) := by decide +kernel
theorem dX12_oneLine_77 : decode cX12_oneLine 77 = .ok (.aload_n 0, 1) := by decide +kernel
theorem dX12_oneLine_78 : decode cX12_oneLine 78 = .ok (.getfield 56, 3) := by decide +kernel
theorem dX12_oneLine_81 : decode cX12_oneLine 81 = .ok (.iconst 1, 1) := by decide +kernel
theorem dX12_oneLine_82 : decode cX12_oneLine 82 = .ok (.dup2, 1) := by decide +kernel
theorem dX12_oneLine_83 : decode cX12_oneLine 83 = .ok (.iaload, 1) := by decide +kernel
theorem dX12_oneLine_84 : decode cX12_oneLine 84 = .ok (.iconst 1, 1) := by decide +kernel
theorem dX12_oneLine_85 : decode cX12_oneLine 85 = .ok (.iadd, 1) := by decide +kernel
theorem dX12_oneLine_86 : decode cX12_oneLine 86 = .ok (.iastore, 1) := by decide +kernel
theorem dX12_oneLine_87 : decode cX12_oneLine 87 = .ok (.return_, 1) := by decide +kernel
theorem dX12_readText_0 : decode cX12_readText 0 = .ok (.aload_n 0, 1) := by decide +kernel
theorem dX12_readText_1 : decode cX12_readText 1 = .ok (.iconst 0, 1) := by decide +kernel
theorem dX12_readText_2 : decode cX12_readText 2 = .ok (.putfield 182, 3) := by decide +kernel
theorem dX12_readText_5 : decode cX12_readText 5 = .ok (.aload_n 0, 1) := by decide +kernel
theorem dX12_readText_6 : decode cX12_readText 6 = .ok (.iconst (-1), 1) := by decide +kernel
theorem dX12_readText_7 : decode cX12_readText 7 = .ok (.putfield 185, 3) := by decide +kernel
theorem dX12_readText_10 : decode cX12_readText 10 = .ok (.aload_n 0, 1) := by decide +kernel
theorem dX12_readText_11 : decode cX12_readText 11 = .ok (.iconst 0, 1) := by decide +kernel
theorem dX12_readText_12 : decode cX12_readText 12 = .ok (.putfield 191, 3) := by decide +kernel
theorem dX12_readText_15 : decode cX12_readText 15 = .ok (.aload_n 0, 1) := by decide +kernel
theorem dX12_readText_16 : decode cX12_readText 16 = .ok (.iconst 0, 1) := by decide +kernel
theorem dX12_readText_17 : decode cX12_readText 17 = .ok (.putfield 188, 3) := by decide +kernel
theorem dX12_readText_20 : decode cX12_readText 20 = .ok (.aload_n 0, 1) := by decide +kernel
theorem dX12_readText_21 : decode cX12_readText 21 = .ok (.getfield 56, 3) := by decide +kernel
theorem dX12_readText_24 : decode cX12_readText 24 = .ok (.iconst 1, 1) := by decide +kernel
theorem dX12_readText_25 : decode cX12_readText 25 = .ok (.iconst 0, 1) := by decide +kernel
theorem dX12_readText_26 : decode cX12_readText 26 = .ok (.iastore, 1) := by decide +kernel
theorem dX12_readText_27 : decode cX12_readText 27 = .ok (.aload_n 0, 1) := by decide +kernel
theorem dX12_readText_28 : decode cX12_readText 28 = .ok (.invokevirtual 234, 3) := by decide +kernel
theorem dX12_readText_31 : decode cX12_readText 31 = .ok (.aload_n 0, 1) := by decide +kernel
theorem dX12_readText_32 : decode cX12_readText 32 = .ok (.getfield 185, 3) := by decide +kernel
theorem dX12_readText_35 : decode cX12_readText 35 = .ok (.ifCond .ge 29, 3) := by decide +kernel
theorem dX12_readText_38 : decode cX12_readText 38 = .ok (.aload_n 0, 1) := by decide +kernel
theorem dX12_readText_39 : decode cX12_readText 39 = .ok (.invokevirtual 197, 3) := by decide +kernel
theorem dX12_readText_42 : decode cX12_readText 42 = .ok (.bipush 59, 2) := by decide +kernel
theorem dX12_readText_44 : decode cX12_readText 44 = .ok (.if_icmp .ne 20, 3) := by decide +kernel
theorem dX12_readText_47 : decode cX12_readText 47 = .ok (.aload_n 0, 1) := by decide +kernel
theorem dX12_readText_48 : decode cX12_readText 48 = .ok (.dup, 1) := by decide +kernel
theorem dX12_readText_49 : decode cX12_readText 49 = .ok (.getfield 182, 3) := by decide +kernel
theorem dX12_readText_52 : decode cX12_readText 52 = .ok (.iconst 1, 1) := by decide +kernel
theorem dX12_readText_53 : decode cX12_readText 53 = .ok (.iadd, 1) := by decide +kernel
theorem dX12_readText_54 : decode cX12_readText 54 = .ok (.putfield 182, 3) := by decide +kernel
theorem dX12_readText_57 : decode cX12_readText 57 = .ok (.aload_n 0, 1) := by decide +kernel
theorem dX12_readText_58 : decode cX12_readText 58 = .ok (.invokevirtual 234, 3) := by decide +kernel
theorem dX12_readText_61 : decode cX12_readText 61 = .ok (.goto (-30), 3) := by decide +kernel
theorem dX12_readText_64 : decode cX12_readText 64 = .ok (.aload_n 0, 1) := by decide +kernel
theorem dX12_readText_65 : decode cX12_readText 65 = .ok (.getfield 185, 3) := by decide +kernel
theorem dX12_readText_68 : decode cX12_readText 68 = .ok (.ifCond .ge 18, 3) := by decide +kernel
theorem dX12_readText_71 : decode cX12_readText 71 = .ok (.aload_n 0, 1) := by decide +kernel
theorem dX12_readText_72 : decode cX12_readText 72 = .ok (.getfield 182, 3) := by decide +kernel
theorem dX12_readText_75 : decode cX12_readText 75 = .ok (.aload_n 0, 1) := by decide +kernel
theorem dX12_readText_76 : decode cX12_readText 76 = .ok (.getfield 179, 3) := by decide +kernel
theorem dX12_readText_79 : decode cX12_readText 79 = .ok (.if_icmp .ge 7, 3) := by decide +kernel
theorem dX12_readText_82 : decode cX12_readText 82 = .ok (.aload_n 0, 1) := by decide +kernel
theorem dX12_readText_83 : decode cX12_readText 83 = .ok (.invokevirtual 194, 3) := by decide +kernel
theorem dX12_readText_86 : decode cX12_readText 86 = .ok (.aload_n 0, 1) := by decide +kernel
theorem dX12_readText_87 : decode cX12_readText 87 = .ok (.iconst 0, 1) := by decide +kernel
theorem dX12_readText_88 : decode cX12_readText 88 = .ok (.putfield 179, 3) := by decide +kernel
theorem dX12_readText_91 : decode cX12_readText 91 = .ok (.aload_n 0, 1) := by decide +kernel
theorem dX12_readText_92 : decode cX12_readText 92 = .ok (.getfield 185, 3) := by decide +kernel
theorem dX12_readText_95 : decode cX12_readText 95 = .ok (.ifCond .lt 8, 3) := by decide +kernel
theorem dX12_readText_98 : decode cX12_readText 98 = .ok (.aload_n 0, 1) := by decide +kernel
theorem dX12_readText_99 : decode cX12_readText 99 = .ok (.getfield 185, 3) := by decide +kernel
theorem dX12_readText_102 : decode cX12_readText 102 = .ok (.ireturn, 1) := by decide +kernel
theorem dX12_readText_103 : decode cX12_readText 103 = .ok (.iconst 0, 1) := by decide +kernel
theorem dX12_readText_104 : decode cX12_readText 104 = .ok (.istore_n 2, 1) := by decide +kernel
theorem dX12_readText_105 : decode cX12_readText 105 = .ok (.iload_n 2, 1) := by decide +kernel
theorem dX12_readText_106 : decode cX12_readText 106 = .ok (.aload_n 0, 1) := by decide +kernel
theorem dX12_readText_107 : decode cX12_readText 107 = .ok (.getfield 188, 3) := by decide +kernel
theorem dX12_readText_110 : decode cX12_readText 110 = .ok (.if_icmp .ge 53, 3) := by decide +kernel
theorem dX12_readText_113 : decode cX12_readText 113 = .ok (.aload_n 0, 1) := by decide +kernel
theorem dX12_readText_114 : decode cX12_readText 114 = .ok (.getfield 50, 3) := by decide +kernel
theorem dX12_readText_117 : decode cX12_readText 117 = .ok (.sipush 130, 3) := by decide +kernel
theorem dX12_readText_120 : decode cX12_readText 120 = .ok (.iload_n 1, 1) := by decide +kernel
theorem dX12_readText_121 : decode cX12_readText 121 = .ok (.imul, 1) := by decide +kernel
theorem dX12_readText_122 : decode cX12_readText 122 = .ok (.iload_n 2, 1) := by decide +kernel
theorem dX12_readText_123 : decode cX12_readText 123 = .ok (.iadd, 1) := by decide +kernel
theorem dX12_readText_124 : decode cX12_readText 124 = .ok (.aload_n 0, 1) := by decide +kernel
theorem dX12_readText_125 : decode cX12_readText 125 = .ok (.getfield 50, 3) := by decide +kernel
theorem dX12_readText_128 : decode cX12_readText 128 = .ok (.sipush 130, 3) := by decide +kernel
theorem dX12_readText_131 : decode cX12_readText 131 = .ok (.iload_n 2, 1) := by decide +kernel
theorem dX12_readText_132 : decode cX12_readText 132 = .ok (.iadd, 1) := by decide +kernel
theorem dX12_readText_133 : decode cX12_readText 133 = .ok (.baload, 1) := by decide +kernel
theorem dX12_readText_134 : decode cX12_readText 134 = .ok (.bastore, 1) := by decide +kernel
theorem dX12_readText_135 : decode cX12_readText 135 = .ok (.aload_n 0, 1) := by decide +kernel
theorem dX12_readText_136 : decode cX12_readText 136 = .ok (.getfield 53, 3) := by decide +kernel
theorem dX12_readText_139 : decode cX12_readText 139 = .ok (.sipush 130, 3) := by decide +kernel
theorem dX12_readText_142 : decode cX12_readText 142 = .ok (.iload_n 1, 1) := by decide +kernel
theorem dX12_readText_143 : decode cX12_readText 143 = .ok (.imul, 1) := by decide +kernel
theorem dX12_readText_144 : decode cX12_readText 144 = .ok (.iload_n 2, 1) := by decide +kernel
theorem dX12_readText_145 : decode cX12_readText 145 = .ok (.iadd, 1) := by decide +kernel
theorem dX12_readText_146 : decode cX12_readText 146 = .ok (.aload_n 0, 1) := by decide +kernel
theorem dX12_readText_147 : decode cX12_readText 147 = .ok (.getfield 53, 3) := by decide +kernel
theorem dX12_readText_150 : decode cX12_readText 150 = .ok (.sipush 130, 3) := by decide +kernel
theorem dX12_readText_153 : decode cX12_readText 153 = .ok (.iload_n 2, 1) := by decide +kernel
theorem dX12_readText_154 : decode cX12_readText 154 = .ok (.iadd, 1) := by decide +kernel
theorem dX12_readText_155 : decode cX12_readText 155 = .ok (.iaload, 1) := by decide +kernel
theorem dX12_readText_156 : decode cX12_readText 156 = .ok (.iastore, 1) := by decide +kernel
theorem dX12_readText_157 : decode cX12_readText 157 = .ok (.iinc 2 1, 3) := by decide +kernel
theorem dX12_readText_160 : decode cX12_readText 160 = .ok (.goto (-55), 3) := by decide +kernel
theorem dX12_readText_163 : decode cX12_readText 163 = .ok (.aload_n 0, 1) := by decide +kernel
theorem dX12_readText_164 : decode cX12_readText 164 = .ok (.getfield 56, 3) := by decide +kernel
theorem dX12_readText_167 : decode cX12_readText 167 = .ok (.iload_n 1, 1) := by decide +kernel
theorem dX12_readText_168 : decode cX12_readText 168 = .ok (.aload_n 0, 1) := by decide +kernel
theorem dX12_readText_169 : decode cX12_readText 169 = .ok (.getfield 56, 3) := by decide +kernel
theorem dX12_readText_172 : decode cX12_readText 172 = .ok (.iconst 1, 1) := by decide +kernel
theorem dX12_readText_173 : decode cX12_readText 173 = .ok (.iaload, 1) := by decide +kernel
theorem dX12_readText_174 : decode cX12_readText 174 = .ok (.iastore, 1) := by decide +kernel
theorem dX12_readText_175 : decode cX12_readText 175 = .ok (.iconst 0, 1) := by decide +kernel
theorem dX12_readText_176 : decode cX12_readText 176 = .ok (.istore_n 2, 1) := by decide +kernel
theorem dX12_readText_177 : decode cX12_readText 177 = .ok (.iload_n 2, 1) := by decide +kernel
theorem dX12_readText_178 : decode cX12_readText 178 = .ok (.aload_n 0, 1) := by decide +kernel
theorem dX12_readText_179 : decode cX12_readText 179 = .ok (.getfield 56, 3) := by decide +kernel
theorem dX12_readText_182 : decode cX12_readText 182 = .ok (.iload_n 1, 1) := by decide +kernel
theorem dX12_readText_183 : decode cX12_readText 183 = .ok (.iaload, 1) := by decide +kernel
theorem dX12_readText_184 : decode cX12_readText 184 = .ok (.if_icmp .ge 49, 3) := by decide +kernel
theorem dX12_readText_187 : decode cX12_readText 187 = .ok (.aload_n 0, 1) := by decide +kernel
theorem dX12_readText_188 : decode cX12_readText 188 = .ok (.getfield 59, 3) := by decide +kernel
theorem dX12_readText_191 : decode cX12_readText 191 = .ok (.bipush 61, 2) := by decide +kernel
theorem dX12_readText_193 : decode cX12_readText 193 = .ok (.iload_n 1, 1) := by decide +kernel
theorem dX12_readText_194 : decode cX12_readText 194 = .ok (.imul, 1) := by decide +kernel
theorem dX12_readText_195 : decode cX12_readText 195 = .ok (.iload_n 2, 1) := by decide +kernel
theorem dX12_readText_196 : decode cX12_readText 196 = .ok (.iadd, 1) := by decide +kernel
theorem dX12_readText_197 : decode cX12_readText 197 = .ok (.aload_n 0, 1) := by decide +kernel
theorem dX12_readText_198 : decode cX12_readText 198 = .ok (.getfield 59, 3) := by decide +kernel
theorem dX12_readText_201 : decode cX12_readText 201 = .ok (.bipush 61, 2) := by decide +kernel
theorem dX12_readText_203 : decode cX12_readText 203 = .ok (.iload_n 2, 1) := by decide +kernel
theorem dX12_readText_204 : decode cX12_readText 204 = .ok (.iadd, 1) := by decide +kernel
theorem dX12_readText_205 : decode cX12_readText 205 = .ok (.saload, 1) := by decide +kernel
theorem dX12_readText_206 : decode cX12_readText 206 = .ok (.sastore, 1) := by decide +kernel
theorem dX12_readText_207 : decode cX12_readText 207 = .ok (.aload_n 0, 1) := by decide +kernel
theorem dX12_readText_208 : decode cX12_readText 208 = .ok (.getfield 63, 3) := by decide +kernel
theorem dX12_readText_211 : decode cX12_readText 211 = .ok (.bipush 61, 2) := by decide +kernel
theorem dX12_readText_213 : decode cX12_readText 213 = .ok (.iload_n 1, 1) := by decide +kernel
theorem dX12_readText_214 : decode cX12_readText 214 = .ok (.imul, 1) := by decide +kernel
theorem dX12_readText_215 : decode cX12_readText 215 = .ok (.iload_n 2, 1) := by decide +kernel
theorem dX12_readText_216 : decode cX12_readText 216 = .ok (.iadd, 1) := by decide +kernel
theorem dX12_readText_217 : decode cX12_readText 217 = .ok (.aload_n 0, 1) := by decide +kernel
theorem dX12_readText_218 : decode cX12_readText 218 = .ok (.getfield 63, 3) := by decide +kernel
theorem dX12_readText_221 : decode cX12_readText 221 = .ok (.bipush 61, 2) := by decide +kernel
theorem dX12_readText_223 : decode cX12_readText 223 = .ok (.iload_n 2, 1) := by decide +kernel
theorem dX12_readText_224 : decode cX12_readText 224 = .ok (.iadd, 1) := by decide +kernel
theorem dX12_readText_225 : decode cX12_readText 225 = .ok (.saload, 1) := by decide +kernel
theorem dX12_readText_226 : decode cX12_readText 226 = .ok (.sastore, 1) := by decide +kernel
theorem dX12_readText_227 : decode cX12_readText 227 = .ok (.iinc 2 1, 3) := by decide +kernel
theorem dX12_readText_230 : decode cX12_readText 230 = .ok (.goto (-53), 3) := by decide +kernel
theorem dX12_readText_233 : decode cX12_readText 233 = .ok (.iconst (-1), 1) := by decide +kernel
theorem dX12_readText_234 : decode cX12_readText 234 = .ok (.ireturn, 1) := by decide +kernel
theorem dX12_twoOf_0 : decode cX12_twoOf 0 = .ok (.iload_n 0, 1) := by decide +kernel
theorem dX12_twoOf_1 : decode cX12_twoOf 1 = .ok (.tableswitch 217 37 62 #[153, 203, 217, 217, 217, 127, 119, 217, 123, 217, 131, 217, 217, 217, 217, 217, 217, 217, 217, 217, 217, 217, 217, 170, 181, 192], 119) := by decide +kernel
theorem dX12_twoOf_120 : decode cX12_twoOf 120 = .ok (.iload_n 1, 1) := by decide +kernel
theorem dX12_twoOf_121 : decode cX12_twoOf 121 = .ok (.iload_n 2, 1) := by decide +kernel
theorem dX12_twoOf_122 : decode cX12_twoOf 122 = .ok (.iadd, 1) := by decide +kernel
theorem dX12_twoOf_123 : decode cX12_twoOf 123 = .ok (.ireturn, 1) := by decide +kernel
theorem dX12_twoOf_124 : decode cX12_twoOf 124 = .ok (.iload_n 1, 1) := by decide +kernel
theorem dX12_twoOf_125 : decode cX12_twoOf 125 = .ok (.iload_n 2, 1) := by decide +kernel
theorem dX12_twoOf_126 : decode cX12_twoOf 126 = .ok (.isub, 1) := by decide +kernel
theorem dX12_twoOf_127 : decode cX12_twoOf 127 = .ok (.ireturn, 1) := by decide +kernel
theorem dX12_twoOf_128 : decode cX12_twoOf 128 = .ok (.iload_n 1, 1) := by decide +kernel
theorem dX12_twoOf_129 : decode cX12_twoOf 129 = .ok (.iload_n 2, 1) := by decide +kernel
theorem dX12_twoOf_130 : decode cX12_twoOf 130 = .ok (.imul, 1) := by decide +kernel
theorem dX12_twoOf_131 : decode cX12_twoOf 131 = .ok (.ireturn, 1) := by decide +kernel
theorem dX12_twoOf_132 : decode cX12_twoOf 132 = .ok (.iload_n 2, 1) := by decide +kernel
theorem dX12_twoOf_133 : decode cX12_twoOf 133 = .ok (.ifCond .ne 7, 3) := by decide +kernel
theorem dX12_twoOf_136 : decode cX12_twoOf 136 = .ok (.iconst 0, 1) := by decide +kernel
theorem dX12_twoOf_137 : decode cX12_twoOf 137 = .ok (.goto 16, 3) := by decide +kernel
theorem dX12_twoOf_140 : decode cX12_twoOf 140 = .ok (.iload_n 2, 1) := by decide +kernel
theorem dX12_twoOf_141 : decode cX12_twoOf 141 = .ok (.iconst (-1), 1) := by decide +kernel
theorem dX12_twoOf_142 : decode cX12_twoOf 142 = .ok (.if_icmp .ne 8, 3) := by decide +kernel
theorem dX12_twoOf_145 : decode cX12_twoOf 145 = .ok (.iload_n 1, 1) := by decide +kernel
theorem dX12_twoOf_146 : decode cX12_twoOf 146 = .ok (.ineg, 1) := by decide +kernel
theorem dX12_twoOf_147 : decode cX12_twoOf 147 = .ok (.goto 6, 3) := by decide +kernel
theorem dX12_twoOf_150 : decode cX12_twoOf 150 = .ok (.iload_n 1, 1) := by decide +kernel
theorem dX12_twoOf_151 : decode cX12_twoOf 151 = .ok (.iload_n 2, 1) := by decide +kernel
theorem dX12_twoOf_152 : decode cX12_twoOf 152 = .ok (.idiv, 1) := by decide +kernel
theorem dX12_twoOf_153 : decode cX12_twoOf 153 = .ok (.ireturn, 1) := by decide +kernel
theorem dX12_twoOf_154 : decode cX12_twoOf 154 = .ok (.iload_n 2, 1) := by decide +kernel
theorem dX12_twoOf_155 : decode cX12_twoOf 155 = .ok (.ifCond .eq 8, 3) := by decide +kernel
theorem dX12_twoOf_158 : decode cX12_twoOf 158 = .ok (.iload_n 2, 1) := by decide +kernel
theorem dX12_twoOf_159 : decode cX12_twoOf 159 = .ok (.iconst (-1), 1) := by decide +kernel
theorem dX12_twoOf_160 : decode cX12_twoOf 160 = .ok (.if_icmp .ne 7, 3) := by decide +kernel
theorem dX12_twoOf_163 : decode cX12_twoOf 163 = .ok (.iconst 0, 1) := by decide +kernel
theorem dX12_twoOf_164 : decode cX12_twoOf 164 = .ok (.goto 6, 3) := by decide +kernel
theorem dX12_twoOf_167 : decode cX12_twoOf 167 = .ok (.iload_n 1, 1) := by decide +kernel
theorem dX12_twoOf_168 : decode cX12_twoOf 168 = .ok (.iload_n 2, 1) := by decide +kernel
theorem dX12_twoOf_169 : decode cX12_twoOf 169 = .ok (.irem, 1) := by decide +kernel
theorem dX12_twoOf_170 : decode cX12_twoOf 170 = .ok (.ireturn, 1) := by decide +kernel
theorem dX12_twoOf_171 : decode cX12_twoOf 171 = .ok (.iload_n 1, 1) := by decide +kernel
theorem dX12_twoOf_172 : decode cX12_twoOf 172 = .ok (.iload_n 2, 1) := by decide +kernel
theorem dX12_twoOf_173 : decode cX12_twoOf 173 = .ok (.if_icmp .ge 7, 3) := by decide +kernel
theorem dX12_twoOf_176 : decode cX12_twoOf 176 = .ok (.iconst 1, 1) := by decide +kernel
theorem dX12_twoOf_177 : decode cX12_twoOf 177 = .ok (.goto 4, 3) := by decide +kernel
theorem dX12_twoOf_180 : decode cX12_twoOf 180 = .ok (.iconst 0, 1) := by decide +kernel
theorem dX12_twoOf_181 : decode cX12_twoOf 181 = .ok (.ireturn, 1) := by decide +kernel
theorem dX12_twoOf_182 : decode cX12_twoOf 182 = .ok (.iload_n 1, 1) := by decide +kernel
theorem dX12_twoOf_183 : decode cX12_twoOf 183 = .ok (.iload_n 2, 1) := by decide +kernel
theorem dX12_twoOf_184 : decode cX12_twoOf 184 = .ok (.if_icmp .ne 7, 3) := by decide +kernel
theorem dX12_twoOf_187 : decode cX12_twoOf 187 = .ok (.iconst 1, 1) := by decide +kernel
theorem dX12_twoOf_188 : decode cX12_twoOf 188 = .ok (.goto 4, 3) := by decide +kernel
theorem dX12_twoOf_191 : decode cX12_twoOf 191 = .ok (.iconst 0, 1) := by decide +kernel
theorem dX12_twoOf_192 : decode cX12_twoOf 192 = .ok (.ireturn, 1) := by decide +kernel
theorem dX12_twoOf_193 : decode cX12_twoOf 193 = .ok (.iload_n 1, 1) := by decide +kernel
theorem dX12_twoOf_194 : decode cX12_twoOf 194 = .ok (.iload_n 2, 1) := by decide +kernel
theorem dX12_twoOf_195 : decode cX12_twoOf 195 = .ok (.if_icmp .le 7, 3) := by decide +kernel
theorem dX12_twoOf_198 : decode cX12_twoOf 198 = .ok (.iconst 1, 1) := by decide +kernel
theorem dX12_twoOf_199 : decode cX12_twoOf 199 = .ok (.goto 4, 3) := by decide +kernel
theorem dX12_twoOf_202 : decode cX12_twoOf 202 = .ok (.iconst 0, 1) := by decide +kernel
theorem dX12_twoOf_203 : decode cX12_twoOf 203 = .ok (.ireturn, 1) := by decide +kernel
theorem dX12_twoOf_204 : decode cX12_twoOf 204 = .ok (.iload_n 1, 1) := by decide +kernel
theorem dX12_twoOf_205 : decode cX12_twoOf 205 = .ok (.ifCond .eq 11, 3) := by decide +kernel
theorem dX12_twoOf_208 : decode cX12_twoOf 208 = .ok (.iload_n 2, 1) := by decide +kernel
theorem dX12_twoOf_209 : decode cX12_twoOf 209 = .ok (.ifCond .eq 7, 3) := by decide +kernel
theorem dX12_twoOf_212 : decode cX12_twoOf 212 = .ok (.iconst 1, 1) := by decide +kernel
theorem dX12_twoOf_213 : decode cX12_twoOf 213 = .ok (.goto 4, 3) := by decide +kernel
theorem dX12_twoOf_216 : decode cX12_twoOf 216 = .ok (.iconst 0, 1) := by decide +kernel
theorem dX12_twoOf_217 : decode cX12_twoOf 217 = .ok (.ireturn, 1) := by decide +kernel
theorem dX12_twoOf_218 : decode cX12_twoOf 218 = .ok (.iload_n 1, 1) := by decide +kernel
theorem dX12_twoOf_219 : decode cX12_twoOf 219 = .ok (.ifCond .ne 7, 3) := by decide +kernel
theorem dX12_twoOf_222 : decode cX12_twoOf 222 = .ok (.iload_n 2, 1) := by decide +kernel
theorem dX12_twoOf_223 : decode cX12_twoOf 223 = .ok (.ifCond .eq 7, 3) := by decide +kernel
theorem dX12_twoOf_226 : decode cX12_twoOf 226 = .ok (.iconst 1, 1) := by decide +kernel
theorem dX12_twoOf_227 : decode cX12_twoOf 227 = .ok (.goto 4, 3) := by decide +kernel
theorem dX12_twoOf_230 : decode cX12_twoOf 230 = .ok (.iconst 0, 1) := by decide +kernel
theorem dX12_twoOf_231 : decode cX12_twoOf 231 = .ok (.ireturn, 1) := by decide +kernel
theorem dX12_worked_0 : decode cX12_worked 0 = .ok (.iconst 0, 1) := by decide +kernel
theorem dX12_worked_1 : decode cX12_worked 1 = .ok (.istore 4, 2) := by decide +kernel
theorem dX12_worked_3 : decode cX12_worked 3 = .ok (.sipush 130, 3) := by decide +kernel
theorem dX12_worked_6 : decode cX12_worked 6 = .ok (.iload_n 1, 1) := by decide +kernel
theorem dX12_worked_7 : decode cX12_worked 7 = .ok (.imul, 1) := by decide +kernel
theorem dX12_worked_8 : decode cX12_worked 8 = .ok (.iload_n 2, 1) := by decide +kernel
theorem dX12_worked_9 : decode cX12_worked 9 = .ok (.iadd, 1) := by decide +kernel
theorem dX12_worked_10 : decode cX12_worked 10 = .ok (.istore 5, 2) := by decide +kernel
theorem dX12_worked_12 : decode cX12_worked 12 = .ok (.iload 5, 2) := by decide +kernel
theorem dX12_worked_14 : decode cX12_worked 14 = .ok (.sipush 130, 3) := by decide +kernel
theorem dX12_worked_17 : decode cX12_worked 17 = .ok (.iload_n 1, 1) := by decide +kernel
theorem dX12_worked_18 : decode cX12_worked 18 = .ok (.imul, 1) := by decide +kernel
theorem dX12_worked_19 : decode cX12_worked 19 = .ok (.iload_n 3, 1) := by decide +kernel
theorem dX12_worked_20 : decode cX12_worked 20 = .ok (.iadd, 1) := by decide +kernel
theorem dX12_worked_21 : decode cX12_worked 21 = .ok (.if_icmp .ge 167, 3) := by decide +kernel
theorem dX12_worked_24 : decode cX12_worked 24 = .ok (.aload_n 0, 1) := by decide +kernel
theorem dX12_worked_25 : decode cX12_worked 25 = .ok (.getfield 50, 3) := by decide +kernel
theorem dX12_worked_28 : decode cX12_worked 28 = .ok (.iload 5, 2) := by decide +kernel
theorem dX12_worked_30 : decode cX12_worked 30 = .ok (.baload, 1) := by decide +kernel
theorem dX12_worked_31 : decode cX12_worked 31 = .ok (.istore 6, 2) := by decide +kernel
theorem dX12_worked_33 : decode cX12_worked 33 = .ok (.iload 6, 2) := by decide +kernel
theorem dX12_worked_35 : decode cX12_worked 35 = .ok (.iconst 1, 1) := by decide +kernel
theorem dX12_worked_36 : decode cX12_worked 36 = .ok (.if_icmp .eq 9, 3) := by decide +kernel
theorem dX12_worked_39 : decode cX12_worked 39 = .ok (.iload 6, 2) := by decide +kernel
theorem dX12_worked_41 : decode cX12_worked 41 = .ok (.iconst 2, 1) := by decide +kernel
theorem dX12_worked_42 : decode cX12_worked 42 = .ok (.if_icmp .ne 44, 3) := by decide +kernel
theorem dX12_worked_45 : decode cX12_worked 45 = .ok (.aload_n 0, 1) := by decide +kernel
theorem dX12_worked_46 : decode cX12_worked 46 = .ok (.getfield 69, 3) := by decide +kernel
theorem dX12_worked_49 : decode cX12_worked 49 = .ok (.iload 4, 2) := by decide +kernel
theorem dX12_worked_51 : decode cX12_worked 51 = .ok (.iload 6, 2) := by decide +kernel
theorem dX12_worked_53 : decode cX12_worked 53 = .ok (.iconst 1, 1) := by decide +kernel
theorem dX12_worked_54 : decode cX12_worked 54 = .ok (.if_icmp .ne 13, 3) := by decide +kernel
theorem dX12_worked_57 : decode cX12_worked 57 = .ok (.aload_n 0, 1) := by decide +kernel
theorem dX12_worked_58 : decode cX12_worked 58 = .ok (.getfield 53, 3) := by decide +kernel
theorem dX12_worked_61 : decode cX12_worked 61 = .ok (.iload 5, 2) := by decide +kernel
theorem dX12_worked_63 : decode cX12_worked 63 = .ok (.iaload, 1) := by decide +kernel
theorem dX12_worked_64 : decode cX12_worked 64 = .ok (.goto 15, 3) := by decide +kernel
theorem dX12_worked_67 : decode cX12_worked 67 = .ok (.aload_n 0, 1) := by decide +kernel
theorem dX12_worked_68 : decode cX12_worked 68 = .ok (.getfield 66, 3) := by decide +kernel
theorem dX12_worked_71 : decode cX12_worked 71 = .ok (.aload_n 0, 1) := by decide +kernel
theorem dX12_worked_72 : decode cX12_worked 72 = .ok (.getfield 53, 3) := by decide +kernel
theorem dX12_worked_75 : decode cX12_worked 75 = .ok (.iload 5, 2) := by decide +kernel
theorem dX12_worked_77 : decode cX12_worked 77 = .ok (.iaload, 1) := by decide +kernel
theorem dX12_worked_78 : decode cX12_worked 78 = .ok (.iaload, 1) := by decide +kernel
theorem dX12_worked_79 : decode cX12_worked 79 = .ok (.iastore, 1) := by decide +kernel
theorem dX12_worked_80 : decode cX12_worked 80 = .ok (.iinc 4 1, 3) := by decide +kernel
theorem dX12_worked_83 : decode cX12_worked 83 = .ok (.goto 99, 3) := by decide +kernel
theorem dX12_worked_86 : decode cX12_worked 86 = .ok (.iload 6, 2) := by decide +kernel
theorem dX12_worked_88 : decode cX12_worked 88 = .ok (.iconst 3, 1) := by decide +kernel
theorem dX12_worked_89 : decode cX12_worked 89 = .ok (.if_icmp .ne 32, 3) := by decide +kernel
theorem dX12_worked_92 : decode cX12_worked 92 = .ok (.aload_n 0, 1) := by decide +kernel
theorem dX12_worked_93 : decode cX12_worked 93 = .ok (.getfield 69, 3) := by decide +kernel
theorem dX12_worked_96 : decode cX12_worked 96 = .ok (.iload 4, 2) := by decide +kernel
theorem dX12_worked_98 : decode cX12_worked 98 = .ok (.iconst 1, 1) := by decide +kernel
theorem dX12_worked_99 : decode cX12_worked 99 = .ok (.isub, 1) := by decide +kernel
theorem dX12_worked_100 : decode cX12_worked 100 = .ok (.aload_n 0, 1) := by decide +kernel
theorem dX12_worked_101 : decode cX12_worked 101 = .ok (.getfield 69, 3) := by decide +kernel
theorem dX12_worked_104 : decode cX12_worked 104 = .ok (.iload 4, 2) := by decide +kernel
theorem dX12_worked_106 : decode cX12_worked 106 = .ok (.iconst 1, 1) := by decide +kernel
theorem dX12_worked_107 : decode cX12_worked 107 = .ok (.isub, 1) := by decide +kernel
theorem dX12_worked_108 : decode cX12_worked 108 = .ok (.iaload, 1) := by decide +kernel
theorem dX12_worked_109 : decode cX12_worked 109 = .ok (.ifCond .ne 7, 3) := by decide +kernel
theorem dX12_worked_112 : decode cX12_worked 112 = .ok (.iconst 1, 1) := by decide +kernel
theorem dX12_worked_113 : decode cX12_worked 113 = .ok (.goto 4, 3) := by decide +kernel
theorem dX12_worked_116 : decode cX12_worked 116 = .ok (.iconst 0, 1) := by decide +kernel
theorem dX12_worked_117 : decode cX12_worked 117 = .ok (.iastore, 1) := by decide +kernel
theorem dX12_worked_118 : decode cX12_worked 118 = .ok (.goto 64, 3) := by decide +kernel
theorem dX12_worked_121 : decode cX12_worked 121 = .ok (.iload 6, 2) := by decide +kernel
theorem dX12_worked_123 : decode cX12_worked 123 = .ok (.iconst 4, 1) := by decide +kernel
theorem dX12_worked_124 : decode cX12_worked 124 = .ok (.if_icmp .ne 25, 3) := by decide +kernel
theorem dX12_worked_127 : decode cX12_worked 127 = .ok (.aload_n 0, 1) := by decide +kernel
theorem dX12_worked_128 : decode cX12_worked 128 = .ok (.getfield 69, 3) := by decide +kernel
theorem dX12_worked_131 : decode cX12_worked 131 = .ok (.iload 4, 2) := by decide +kernel
theorem dX12_worked_133 : decode cX12_worked 133 = .ok (.iconst 1, 1) := by decide +kernel
theorem dX12_worked_134 : decode cX12_worked 134 = .ok (.isub, 1) := by decide +kernel
theorem dX12_worked_135 : decode cX12_worked 135 = .ok (.aload_n 0, 1) := by decide +kernel
theorem dX12_worked_136 : decode cX12_worked 136 = .ok (.getfield 69, 3) := by decide +kernel
theorem dX12_worked_139 : decode cX12_worked 139 = .ok (.iload 4, 2) := by decide +kernel
theorem dX12_worked_141 : decode cX12_worked 141 = .ok (.iconst 1, 1) := by decide +kernel
theorem dX12_worked_142 : decode cX12_worked 142 = .ok (.isub, 1) := by decide +kernel
theorem dX12_worked_143 : decode cX12_worked 143 = .ok (.iaload, 1) := by decide +kernel
theorem dX12_worked_144 : decode cX12_worked 144 = .ok (.ineg, 1) := by decide +kernel
theorem dX12_worked_145 : decode cX12_worked 145 = .ok (.iastore, 1) := by decide +kernel
theorem dX12_worked_146 : decode cX12_worked 146 = .ok (.goto 36, 3) := by decide +kernel
theorem dX12_worked_149 : decode cX12_worked 149 = .ok (.iinc 4 (-1), 3) := by decide +kernel
theorem dX12_worked_152 : decode cX12_worked 152 = .ok (.aload_n 0, 1) := by decide +kernel
theorem dX12_worked_153 : decode cX12_worked 153 = .ok (.getfield 69, 3) := by decide +kernel
theorem dX12_worked_156 : decode cX12_worked 156 = .ok (.iload 4, 2) := by decide +kernel
theorem dX12_worked_158 : decode cX12_worked 158 = .ok (.iconst 1, 1) := by decide +kernel
theorem dX12_worked_159 : decode cX12_worked 159 = .ok (.isub, 1) := by decide +kernel
theorem dX12_worked_160 : decode cX12_worked 160 = .ok (.iload 6, 2) := by decide +kernel
theorem dX12_worked_162 : decode cX12_worked 162 = .ok (.aload_n 0, 1) := by decide +kernel
theorem dX12_worked_163 : decode cX12_worked 163 = .ok (.getfield 69, 3) := by decide +kernel
theorem dX12_worked_166 : decode cX12_worked 166 = .ok (.iload 4, 2) := by decide +kernel
theorem dX12_worked_168 : decode cX12_worked 168 = .ok (.iconst 1, 1) := by decide +kernel
theorem dX12_worked_169 : decode cX12_worked 169 = .ok (.isub, 1) := by decide +kernel
theorem dX12_worked_170 : decode cX12_worked 170 = .ok (.iaload, 1) := by decide +kernel
theorem dX12_worked_171 : decode cX12_worked 171 = .ok (.aload_n 0, 1) := by decide +kernel
theorem dX12_worked_172 : decode cX12_worked 172 = .ok (.getfield 69, 3) := by decide +kernel
theorem dX12_worked_175 : decode cX12_worked 175 = .ok (.iload 4, 2) := by decide +kernel
theorem dX12_worked_177 : decode cX12_worked 177 = .ok (.iaload, 1) := by decide +kernel
theorem dX12_worked_178 : decode cX12_worked 178 = .ok (.invokestatic 237, 3) := by decide +kernel
theorem dX12_worked_181 : decode cX12_worked 181 = .ok (.iastore, 1) := by decide +kernel
theorem dX12_worked_182 : decode cX12_worked 182 = .ok (.iinc 5 1, 3) := by decide +kernel
theorem dX12_worked_185 : decode cX12_worked 185 = .ok (.goto (-173), 3) := by decide +kernel
theorem dX12_worked_188 : decode cX12_worked 188 = .ok (.aload_n 0, 1) := by decide +kernel
theorem dX12_worked_189 : decode cX12_worked 189 = .ok (.getfield 69, 3) := by decide +kernel
theorem dX12_worked_192 : decode cX12_worked 192 = .ok (.iconst 0, 1) := by decide +kernel
theorem dX12_worked_193 : decode cX12_worked 193 = .ok (.iaload, 1) := by decide +kernel
theorem dX12_worked_194 : decode cX12_worked 194 = .ok (.ireturn, 1) := by decide +kernel
theorem dX12_gives_0 : decode cX12_gives 0 = .ok (.iconst 0, 1) := by decide +kernel
theorem dX12_gives_1 : decode cX12_gives 1 = .ok (.istore_n 2, 1) := by decide +kernel
theorem dX12_gives_2 : decode cX12_gives 2 = .ok (.bipush 61, 2) := by decide +kernel
theorem dX12_gives_4 : decode cX12_gives 4 = .ok (.iload_n 1, 1) := by decide +kernel
theorem dX12_gives_5 : decode cX12_gives 5 = .ok (.imul, 1) := by decide +kernel
theorem dX12_gives_6 : decode cX12_gives 6 = .ok (.istore_n 3, 1) := by decide +kernel
theorem dX12_gives_7 : decode cX12_gives 7 = .ok (.iload_n 3, 1) := by decide +kernel
theorem dX12_gives_8 : decode cX12_gives 8 = .ok (.bipush 61, 2) := by decide +kernel
theorem dX12_gives_10 : decode cX12_gives 10 = .ok (.iload_n 1, 1) := by decide +kernel
theorem dX12_gives_11 : decode cX12_gives 11 = .ok (.imul, 1) := by decide +kernel
theorem dX12_gives_12 : decode cX12_gives 12 = .ok (.aload_n 0, 1) := by decide +kernel
theorem dX12_gives_13 : decode cX12_gives 13 = .ok (.getfield 56, 3) := by decide +kernel
theorem dX12_gives_16 : decode cX12_gives 16 = .ok (.iload_n 1, 1) := by decide +kernel
theorem dX12_gives_17 : decode cX12_gives 17 = .ok (.iaload, 1) := by decide +kernel
theorem dX12_gives_18 : decode cX12_gives 18 = .ok (.iadd, 1) := by decide +kernel
theorem dX12_gives_19 : decode cX12_gives 19 = .ok (.if_icmp .ge 59, 3) := by decide +kernel
theorem dX12_gives_22 : decode cX12_gives 22 = .ok (.aload_n 0, 1) := by decide +kernel
theorem dX12_gives_23 : decode cX12_gives 23 = .ok (.getfield 59, 3) := by decide +kernel
theorem dX12_gives_26 : decode cX12_gives 26 = .ok (.iload_n 3, 1) := by decide +kernel
theorem dX12_gives_27 : decode cX12_gives 27 = .ok (.saload, 1) := by decide +kernel
theorem dX12_gives_28 : decode cX12_gives 28 = .ok (.iload_n 2, 1) := by decide +kernel
theorem dX12_gives_29 : decode cX12_gives 29 = .ok (.if_icmp .eq 18, 3) := by decide +kernel
theorem dX12_gives_32 : decode cX12_gives 32 = .ok (.aload_n 0, 1) := by decide +kernel
theorem dX12_gives_33 : decode cX12_gives 33 = .ok (.iload_n 1, 1) := by decide +kernel
theorem dX12_gives_34 : decode cX12_gives 34 = .ok (.iload_n 2, 1) := by decide +kernel
theorem dX12_gives_35 : decode cX12_gives 35 = .ok (.aload_n 0, 1) := by decide +kernel
theorem dX12_gives_36 : decode cX12_gives 36 = .ok (.getfield 59, 3) := by decide +kernel
theorem dX12_gives_39 : decode cX12_gives 39 = .ok (.iload_n 3, 1) := by decide +kernel
theorem dX12_gives_40 : decode cX12_gives 40 = .ok (.saload, 1) := by decide +kernel
theorem dX12_gives_41 : decode cX12_gives 41 = .ok (.invokevirtual 240, 3) := by decide +kernel
theorem dX12_gives_44 : decode cX12_gives 44 = .ok (.ifCond .eq 21, 3) := by decide +kernel
theorem dX12_gives_47 : decode cX12_gives 47 = .ok (.aload_n 0, 1) := by decide +kernel
theorem dX12_gives_48 : decode cX12_gives 48 = .ok (.iload_n 1, 1) := by decide +kernel
theorem dX12_gives_49 : decode cX12_gives 49 = .ok (.aload_n 0, 1) := by decide +kernel
theorem dX12_gives_50 : decode cX12_gives 50 = .ok (.getfield 59, 3) := by decide +kernel
theorem dX12_gives_53 : decode cX12_gives 53 = .ok (.iload_n 3, 1) := by decide +kernel
theorem dX12_gives_54 : decode cX12_gives 54 = .ok (.saload, 1) := by decide +kernel
theorem dX12_gives_55 : decode cX12_gives 55 = .ok (.aload_n 0, 1) := by decide +kernel
theorem dX12_gives_56 : decode cX12_gives 56 = .ok (.getfield 63, 3) := by decide +kernel
theorem dX12_gives_59 : decode cX12_gives 59 = .ok (.iload_n 3, 1) := by decide +kernel
theorem dX12_gives_60 : decode cX12_gives 60 = .ok (.saload, 1) := by decide +kernel
theorem dX12_gives_61 : decode cX12_gives 61 = .ok (.invokevirtual 240, 3) := by decide +kernel
theorem dX12_gives_64 : decode cX12_gives 64 = .ok (.ireturn, 1) := by decide +kernel
theorem dX12_gives_65 : decode cX12_gives 65 = .ok (.aload_n 0, 1) := by decide +kernel
theorem dX12_gives_66 : decode cX12_gives 66 = .ok (.getfield 63, 3) := by decide +kernel
theorem dX12_gives_69 : decode cX12_gives 69 = .ok (.iload_n 3, 1) := by decide +kernel
theorem dX12_gives_70 : decode cX12_gives 70 = .ok (.saload, 1) := by decide +kernel
theorem dX12_gives_71 : decode cX12_gives 71 = .ok (.istore_n 2, 1) := by decide +kernel
theorem dX12_gives_72 : decode cX12_gives 72 = .ok (.iinc 3 1, 3) := by decide +kernel
theorem dX12_gives_75 : decode cX12_gives 75 = .ok (.goto (-68), 3) := by decide +kernel
theorem dX12_gives_78 : decode cX12_gives 78 = .ok (.iconst 0, 1) := by decide +kernel
theorem dX12_gives_79 : decode cX12_gives 79 = .ok (.ireturn, 1) := by decide +kernel
theorem dX12_law_0 : decode cX12_law 0 = .ok (.aload_n 0, 1) := by decide +kernel
theorem dX12_law_1 : decode cX12_law 1 = .ok (.iconst 0, 1) := by decide +kernel
theorem dX12_law_2 : decode cX12_law 2 = .ok (.invokevirtual 243, 3) := by decide +kernel
theorem dX12_law_5 : decode cX12_law 5 = .ok (.istore_n 1, 1) := by decide +kernel
theorem dX12_law_6 : decode cX12_law 6 = .ok (.iload_n 1, 1) := by decide +kernel
theorem dX12_law_7 : decode cX12_law 7 = .ok (.ifCond .lt 8, 3) := by decide +kernel
theorem dX12_law_10 : decode cX12_law 10 = .ok (.bipush (-100), 2) := by decide +kernel
theorem dX12_law_12 : decode cX12_law 12 = .ok (.iload_n 1, 1) := by decide +kernel
theorem dX12_law_13 : decode cX12_law 13 = .ok (.isub, 1) := by decide +kernel
theorem dX12_law_14 : decode cX12_law 14 = .ok (.ireturn, 1) := by decide +kernel
theorem dX12_law_15 : decode cX12_law 15 = .ok (.aload_n 0, 1) := by decide +kernel
theorem dX12_law_16 : decode cX12_law 16 = .ok (.iconst 1, 1) := by decide +kernel
theorem dX12_law_17 : decode cX12_law 17 = .ok (.putfield 246, 3) := by decide +kernel
theorem dX12_law_20 : decode cX12_law 20 = .ok (.iconst 1, 1) := by decide +kernel
theorem dX12_law_21 : decode cX12_law 21 = .ok (.ireturn, 1) := by decide +kernel
theorem dX12_hasBy_0 : decode cX12_hasBy 0 = .ok (.aload_n 0, 1) := by decide +kernel
theorem dX12_hasBy_1 : decode cX12_hasBy 1 = .ok (.getfield 246, 3) := by decide +kernel
theorem dX12_hasBy_4 : decode cX12_hasBy 4 = .ok (.ifCond .eq 75, 3) := by decide +kernel
theorem dX12_hasBy_7 : decode cX12_hasBy 7 = .ok (.aload_n 0, 1) := by decide +kernel
theorem dX12_hasBy_8 : decode cX12_hasBy 8 = .ok (.getfield 66, 3) := by decide +kernel
theorem dX12_hasBy_11 : decode cX12_hasBy 11 = .ok (.iconst 0, 1) := by decide +kernel
theorem dX12_hasBy_12 : decode cX12_hasBy 12 = .ok (.iload_n 2, 1) := by decide +kernel
theorem dX12_hasBy_13 : decode cX12_hasBy 13 = .ok (.iastore, 1) := by decide +kernel
theorem dX12_hasBy_14 : decode cX12_hasBy 14 = .ok (.aload_n 0, 1) := by decide +kernel
theorem dX12_hasBy_15 : decode cX12_hasBy 15 = .ok (.getfield 66, 3) := by decide +kernel
theorem dX12_hasBy_18 : decode cX12_hasBy 18 = .ok (.iconst 1, 1) := by decide +kernel
theorem dX12_hasBy_19 : decode cX12_hasBy 19 = .ok (.iload_n 3, 1) := by decide +kernel
theorem dX12_hasBy_20 : decode cX12_hasBy 20 = .ok (.iastore, 1) := by decide +kernel
theorem dX12_hasBy_21 : decode cX12_hasBy 21 = .ok (.aload_n 0, 1) := by decide +kernel
theorem dX12_hasBy_22 : decode cX12_hasBy 22 = .ok (.getfield 66, 3) := by decide +kernel
theorem dX12_hasBy_25 : decode cX12_hasBy 25 = .ok (.iconst 2, 1) := by decide +kernel
theorem dX12_hasBy_26 : decode cX12_hasBy 26 = .ok (.aload_n 0, 1) := by decide +kernel
theorem dX12_hasBy_27 : decode cX12_hasBy 27 = .ok (.getfield 7, 3) := by decide +kernel
theorem dX12_hasBy_30 : decode cX12_hasBy 30 = .ok (.iload_n 1, 1) := by decide +kernel
theorem dX12_hasBy_31 : decode cX12_hasBy 31 = .ok (.iaload, 1) := by decide +kernel
theorem dX12_hasBy_32 : decode cX12_hasBy 32 = .ok (.iastore, 1) := by decide +kernel
theorem dX12_hasBy_33 : decode cX12_hasBy 33 = .ok (.aload_n 0, 1) := by decide +kernel
theorem dX12_hasBy_34 : decode cX12_hasBy 34 = .ok (.getfield 66, 3) := by decide +kernel
theorem dX12_hasBy_37 : decode cX12_hasBy 37 = .ok (.iconst 3, 1) := by decide +kernel
theorem dX12_hasBy_38 : decode cX12_hasBy 38 = .ok (.aload_n 0, 1) := by decide +kernel
theorem dX12_hasBy_39 : decode cX12_hasBy 39 = .ok (.getfield 13, 3) := by decide +kernel
theorem dX12_hasBy_42 : decode cX12_hasBy 42 = .ok (.iload_n 1, 1) := by decide +kernel
theorem dX12_hasBy_43 : decode cX12_hasBy 43 = .ok (.iaload, 1) := by decide +kernel
theorem dX12_hasBy_44 : decode cX12_hasBy 44 = .ok (.iastore, 1) := by decide +kernel
theorem dX12_hasBy_45 : decode cX12_hasBy 45 = .ok (.aload_n 0, 1) := by decide +kernel
theorem dX12_hasBy_46 : decode cX12_hasBy 46 = .ok (.getfield 66, 3) := by decide +kernel
theorem dX12_hasBy_49 : decode cX12_hasBy 49 = .ok (.iconst 4, 1) := by decide +kernel
theorem dX12_hasBy_50 : decode cX12_hasBy 50 = .ok (.iload_n 1, 1) := by decide +kernel
theorem dX12_hasBy_51 : decode cX12_hasBy 51 = .ok (.iastore, 1) := by decide +kernel
theorem dX12_hasBy_52 : decode cX12_hasBy 52 = .ok (.aload_n 0, 1) := by decide +kernel
theorem dX12_hasBy_53 : decode cX12_hasBy 53 = .ok (.iconst 0, 1) := by decide +kernel
theorem dX12_hasBy_54 : decode cX12_hasBy 54 = .ok (.invokevirtual 250, 3) := by decide +kernel
theorem dX12_hasBy_57 : decode cX12_hasBy 57 = .ok (.istore 4, 2) := by decide +kernel
theorem dX12_hasBy_59 : decode cX12_hasBy 59 = .ok (.iload 4, 2) := by decide +kernel
theorem dX12_hasBy_61 : decode cX12_hasBy 61 = .ok (.ifCond .le 7, 3) := by decide +kernel
theorem dX12_hasBy_64 : decode cX12_hasBy 64 = .ok (.iconst 1, 1) := by decide +kernel
theorem dX12_hasBy_65 : decode cX12_hasBy 65 = .ok (.goto 13, 3) := by decide +kernel
theorem dX12_hasBy_68 : decode cX12_hasBy 68 = .ok (.iload 4, 2) := by decide +kernel
theorem dX12_hasBy_70 : decode cX12_hasBy 70 = .ok (.ifCond .ge 7, 3) := by decide +kernel
theorem dX12_hasBy_73 : decode cX12_hasBy 73 = .ok (.iconst (-1), 1) := by decide +kernel
theorem dX12_hasBy_74 : decode cX12_hasBy 74 = .ok (.goto 4, 3) := by decide +kernel
theorem dX12_hasBy_77 : decode cX12_hasBy 77 = .ok (.iconst 0, 1) := by decide +kernel
theorem dX12_hasBy_78 : decode cX12_hasBy 78 = .ok (.ireturn, 1) := by decide +kernel
theorem dX12_hasBy_79 : decode cX12_hasBy 79 = .ok (.iload_n 2, 1) := by decide +kernel
theorem dX12_hasBy_80 : decode cX12_hasBy 80 = .ok (.aload_n 0, 1) := by decide +kernel
theorem dX12_hasBy_81 : decode cX12_hasBy 81 = .ok (.getfield 13, 3) := by decide +kernel
theorem dX12_hasBy_84 : decode cX12_hasBy 84 = .ok (.iload_n 1, 1) := by decide +kernel
theorem dX12_hasBy_85 : decode cX12_hasBy 85 = .ok (.iaload, 1) := by decide +kernel
theorem dX12_hasBy_86 : decode cX12_hasBy 86 = .ok (.if_icmp .ge 15, 3) := by decide +kernel
theorem dX12_hasBy_89 : decode cX12_hasBy 89 = .ok (.iload_n 3, 1) := by decide +kernel
theorem dX12_hasBy_90 : decode cX12_hasBy 90 = .ok (.aload_n 0, 1) := by decide +kernel
theorem dX12_hasBy_91 : decode cX12_hasBy 91 = .ok (.getfield 13, 3) := by decide +kernel
theorem dX12_hasBy_94 : decode cX12_hasBy 94 = .ok (.iload_n 1, 1) := by decide +kernel
theorem dX12_hasBy_95 : decode cX12_hasBy 95 = .ok (.iaload, 1) := by decide +kernel
theorem dX12_hasBy_96 : decode cX12_hasBy 96 = .ok (.if_icmp .ge 5, 3) := by decide +kernel
theorem dX12_hasBy_99 : decode cX12_hasBy 99 = .ok (.iconst 0, 1) := by decide +kernel
theorem dX12_hasBy_100 : decode cX12_hasBy 100 = .ok (.ireturn, 1) := by decide +kernel
theorem dX12_hasBy_101 : decode cX12_hasBy 101 = .ok (.iload_n 2, 1) := by decide +kernel
theorem dX12_hasBy_102 : decode cX12_hasBy 102 = .ok (.iload_n 3, 1) := by decide +kernel
theorem dX12_hasBy_103 : decode cX12_hasBy 103 = .ok (.if_icmp .eq 14, 3) := by decide +kernel
theorem dX12_hasBy_106 : decode cX12_hasBy 106 = .ok (.iload_n 2, 1) := by decide +kernel
theorem dX12_hasBy_107 : decode cX12_hasBy 107 = .ok (.iload_n 3, 1) := by decide +kernel
theorem dX12_hasBy_108 : decode cX12_hasBy 108 = .ok (.if_icmp .le 7, 3) := by decide +kernel
theorem dX12_hasBy_111 : decode cX12_hasBy 111 = .ok (.iconst 1, 1) := by decide +kernel
theorem dX12_hasBy_112 : decode cX12_hasBy 112 = .ok (.goto 4, 3) := by decide +kernel
theorem dX12_hasBy_115 : decode cX12_hasBy 115 = .ok (.iconst (-1), 1) := by decide +kernel
theorem dX12_hasBy_116 : decode cX12_hasBy 116 = .ok (.ireturn, 1) := by decide +kernel
theorem dX12_hasBy_117 : decode cX12_hasBy 117 = .ok (.aload_n 0, 1) := by decide +kernel
theorem dX12_hasBy_118 : decode cX12_hasBy 118 = .ok (.getfield 16, 3) := by decide +kernel
theorem dX12_hasBy_121 : decode cX12_hasBy 121 = .ok (.iload_n 1, 1) := by decide +kernel
theorem dX12_hasBy_122 : decode cX12_hasBy 122 = .ok (.iaload, 1) := by decide +kernel
theorem dX12_hasBy_123 : decode cX12_hasBy 123 = .ok (.ifCond .ne 7, 3) := by decide +kernel
theorem dX12_hasBy_126 : decode cX12_hasBy 126 = .ok (.iconst 1, 1) := by decide +kernel
theorem dX12_hasBy_127 : decode cX12_hasBy 127 = .ok (.goto 18, 3) := by decide +kernel
theorem dX12_hasBy_130 : decode cX12_hasBy 130 = .ok (.aload_n 0, 1) := by decide +kernel
theorem dX12_hasBy_131 : decode cX12_hasBy 131 = .ok (.getfield 16, 3) := by decide +kernel
theorem dX12_hasBy_134 : decode cX12_hasBy 134 = .ok (.iload_n 1, 1) := by decide +kernel
theorem dX12_hasBy_135 : decode cX12_hasBy 135 = .ok (.iaload, 1) := by decide +kernel
theorem dX12_hasBy_136 : decode cX12_hasBy 136 = .ok (.iconst 1, 1) := by decide +kernel
theorem dX12_hasBy_137 : decode cX12_hasBy 137 = .ok (.if_icmp .ne 7, 3) := by decide +kernel
theorem dX12_hasBy_140 : decode cX12_hasBy 140 = .ok (.iconst (-1), 1) := by decide +kernel
theorem dX12_hasBy_141 : decode cX12_hasBy 141 = .ok (.goto 4, 3) := by decide +kernel
theorem dX12_hasBy_144 : decode cX12_hasBy 144 = .ok (.iconst 0, 1) := by decide +kernel
theorem dX12_hasBy_145 : decode cX12_hasBy 145 = .ok (.ireturn, 1) := by decide +kernel
theorem dX12_won_0 : decode cX12_won 0 = .ok (.aload_n 0, 1) := by decide +kernel
theorem dX12_won_1 : decode cX12_won 1 = .ok (.iload_n 1, 1) := by decide +kernel
theorem dX12_won_2 : decode cX12_won 2 = .ok (.invokevirtual 166, 3) := by decide +kernel
theorem dX12_won_5 : decode cX12_won 5 = .ok (.ifCond .eq 13, 3) := by decide +kernel
theorem dX12_won_8 : decode cX12_won 8 = .ok (.iload_n 2, 1) := by decide +kernel
theorem dX12_won_9 : decode cX12_won 9 = .ok (.iconst 0, 1) := by decide +kernel
theorem dX12_won_10 : decode cX12_won 10 = .ok (.bipush 99, 2) := by decide +kernel
theorem dX12_won_12 : decode cX12_won 12 = .ok (.invokestatic 140, 3) := by decide +kernel
theorem dX12_won_15 : decode cX12_won 15 = .ok (.ifCond .ne 5, 3) := by decide +kernel
theorem dX12_won_18 : decode cX12_won 18 = .ok (.iconst (-1), 1) := by decide +kernel
theorem dX12_won_19 : decode cX12_won 19 = .ok (.ireturn, 1) := by decide +kernel
theorem dX12_won_20 : decode cX12_won 20 = .ok (.aload_n 0, 1) := by decide +kernel
theorem dX12_won_21 : decode cX12_won 21 = .ok (.iload_n 1, 1) := by decide +kernel
theorem dX12_won_22 : decode cX12_won 22 = .ok (.iload_n 2, 1) := by decide +kernel
theorem dX12_won_23 : decode cX12_won 23 = .ok (.bipush 10, 2) := by decide +kernel
theorem dX12_won_25 : decode cX12_won 25 = .ok (.idiv, 1) := by decide +kernel
theorem dX12_won_26 : decode cX12_won 26 = .ok (.iload_n 2, 1) := by decide +kernel
theorem dX12_won_27 : decode cX12_won 27 = .ok (.bipush 10, 2) := by decide +kernel
theorem dX12_won_29 : decode cX12_won 29 = .ok (.irem, 1) := by decide +kernel
theorem dX12_won_30 : decode cX12_won 30 = .ok (.invokevirtual 253, 3) := by decide +kernel
theorem dX12_won_33 : decode cX12_won 33 = .ok (.istore_n 3, 1) := by decide +kernel
theorem dX12_won_34 : decode cX12_won 34 = .ok (.iload_n 3, 1) := by decide +kernel
theorem dX12_won_35 : decode cX12_won 35 = .ok (.iconst 1, 1) := by decide +kernel
theorem dX12_won_36 : decode cX12_won 36 = .ok (.if_icmp .ne 7, 3) := by decide +kernel
theorem dX12_won_39 : decode cX12_won 39 = .ok (.iconst 1, 1) := by decide +kernel
theorem dX12_won_40 : decode cX12_won 40 = .ok (.goto 13, 3) := by decide +kernel
theorem dX12_won_43 : decode cX12_won 43 = .ok (.iload_n 3, 1) := by decide +kernel
theorem dX12_won_44 : decode cX12_won 44 = .ok (.iconst (-1), 1) := by decide +kernel
theorem dX12_won_45 : decode cX12_won 45 = .ok (.if_icmp .ne 7, 3) := by decide +kernel
theorem dX12_won_48 : decode cX12_won 48 = .ok (.iconst 2, 1) := by decide +kernel
theorem dX12_won_49 : decode cX12_won 49 = .ok (.goto 4, 3) := by decide +kernel
theorem dX12_won_52 : decode cX12_won 52 = .ok (.iconst 0, 1) := by decide +kernel
theorem dX12_won_53 : decode cX12_won 53 = .ok (.ireturn, 1) := by decide +kernel
theorem dX12_findHas_0 : decode cX12_findHas 0 = .ok (.iconst 0, 1) := by decide +kernel
theorem dX12_findHas_1 : decode cX12_findHas 1 = .ok (.istore_n 1, 1) := by decide +kernel
theorem dX12_findHas_2 : decode cX12_findHas 2 = .ok (.iload_n 1, 1) := by decide +kernel
theorem dX12_findHas_3 : decode cX12_findHas 3 = .ok (.aload_n 0, 1) := by decide +kernel
theorem dX12_findHas_4 : decode cX12_findHas 4 = .ok (.getfield 137, 3) := by decide +kernel
theorem dX12_findHas_7 : decode cX12_findHas 7 = .ok (.if_icmp .ge 61, 3) := by decide +kernel
theorem dX12_findHas_10 : decode cX12_findHas 10 = .ok (.iconst 0, 1) := by decide +kernel
theorem dX12_findHas_11 : decode cX12_findHas 11 = .ok (.istore_n 2, 1) := by decide +kernel
theorem dX12_findHas_12 : decode cX12_findHas 12 = .ok (.iload_n 2, 1) := by decide +kernel
theorem dX12_findHas_13 : decode cX12_findHas 13 = .ok (.bipush 9, 2) := by decide +kernel
theorem dX12_findHas_15 : decode cX12_findHas 15 = .ok (.if_icmp .gt 47, 3) := by decide +kernel
theorem dX12_findHas_18 : decode cX12_findHas 18 = .ok (.iconst 0, 1) := by decide +kernel
theorem dX12_findHas_19 : decode cX12_findHas 19 = .ok (.istore_n 3, 1) := by decide +kernel
theorem dX12_findHas_20 : decode cX12_findHas 20 = .ok (.iload_n 3, 1) := by decide +kernel
theorem dX12_findHas_21 : decode cX12_findHas 21 = .ok (.bipush 9, 2) := by decide +kernel
theorem dX12_findHas_23 : decode cX12_findHas 23 = .ok (.if_icmp .gt 33, 3) := by decide +kernel
theorem dX12_findHas_26 : decode cX12_findHas 26 = .ok (.aload_n 0, 1) := by decide +kernel
theorem dX12_findHas_27 : decode cX12_findHas 27 = .ok (.getfield 72, 3) := by decide +kernel
theorem dX12_findHas_30 : decode cX12_findHas 30 = .ok (.bipush 100, 2) := by decide +kernel
theorem dX12_findHas_32 : decode cX12_findHas 32 = .ok (.iload_n 1, 1) := by decide +kernel
theorem dX12_findHas_33 : decode cX12_findHas 33 = .ok (.imul, 1) := by decide +kernel
theorem dX12_findHas_34 : decode cX12_findHas 34 = .ok (.bipush 10, 2) := by decide +kernel
theorem dX12_findHas_36 : decode cX12_findHas 36 = .ok (.iload_n 2, 1) := by decide +kernel
theorem dX12_findHas_37 : decode cX12_findHas 37 = .ok (.imul, 1) := by decide +kernel
theorem dX12_findHas_38 : decode cX12_findHas 38 = .ok (.iadd, 1) := by decide +kernel
theorem dX12_findHas_39 : decode cX12_findHas 39 = .ok (.iload_n 3, 1) := by decide +kernel
theorem dX12_findHas_40 : decode cX12_findHas 40 = .ok (.iadd, 1) := by decide +kernel
theorem dX12_findHas_41 : decode cX12_findHas 41 = .ok (.aload_n 0, 1) := by decide +kernel
theorem dX12_findHas_42 : decode cX12_findHas 42 = .ok (.iload_n 1, 1) := by decide +kernel
theorem dX12_findHas_43 : decode cX12_findHas 43 = .ok (.iload_n 2, 1) := by decide +kernel
theorem dX12_findHas_44 : decode cX12_findHas 44 = .ok (.iload_n 3, 1) := by decide +kernel
theorem dX12_findHas_45 : decode cX12_findHas 45 = .ok (.invokevirtual 253, 3) := by decide +kernel
theorem dX12_findHas_48 : decode cX12_findHas 48 = .ok (.i2b, 1) := by decide +kernel
theorem dX12_findHas_49 : decode cX12_findHas 49 = .ok (.bastore, 1) := by decide +kernel
theorem dX12_findHas_50 : decode cX12_findHas 50 = .ok (.iinc 3 1, 3) := by decide +kernel
theorem dX12_findHas_53 : decode cX12_findHas 53 = .ok (.goto (-33), 3) := by decide +kernel
theorem dX12_findHas_56 : decode cX12_findHas 56 = .ok (.iinc 2 1, 3) := by decide +kernel
theorem dX12_findHas_59 : decode cX12_findHas 59 = .ok (.goto (-47), 3) := by decide +kernel
theorem dX12_findHas_62 : decode cX12_findHas 62 = .ok (.iinc 1 1, 3) := by decide +kernel
theorem dX12_findHas_65 : decode cX12_findHas 65 = .ok (.goto (-63), 3) := by decide +kernel
theorem dX12_findHas_68 : decode cX12_findHas 68 = .ok (.return_, 1) := by decide +kernel
theorem dX12_valueOf_0 : decode cX12_valueOf 0 = .ok (.aload_n 0, 1) := by decide +kernel
theorem dX12_valueOf_1 : decode cX12_valueOf 1 = .ok (.getfield 7, 3) := by decide +kernel
theorem dX12_valueOf_4 : decode cX12_valueOf 4 = .ok (.iload_n 1, 1) := by decide +kernel
theorem dX12_valueOf_5 : decode cX12_valueOf 5 = .ok (.iaload, 1) := by decide +kernel
theorem dX12_valueOf_6 : decode cX12_valueOf 6 = .ok (.aload_n 0, 1) := by decide +kernel
theorem dX12_valueOf_7 : decode cX12_valueOf 7 = .ok (.getfield 72, 3) := by decide +kernel
theorem dX12_valueOf_10 : decode cX12_valueOf 10 = .ok (.bipush 100, 2) := by decide +kernel
theorem dX12_valueOf_12 : decode cX12_valueOf 12 = .ok (.iload_n 1, 1) := by decide +kernel
theorem dX12_valueOf_13 : decode cX12_valueOf 13 = .ok (.imul, 1) := by decide +kernel
theorem dX12_valueOf_14 : decode cX12_valueOf 14 = .ok (.bipush 10, 2) := by decide +kernel
theorem dX12_valueOf_16 : decode cX12_valueOf 16 = .ok (.iload_n 2, 1) := by decide +kernel
theorem dX12_valueOf_17 : decode cX12_valueOf 17 = .ok (.imul, 1) := by decide +kernel
theorem dX12_valueOf_18 : decode cX12_valueOf 18 = .ok (.iadd, 1) := by decide +kernel
theorem dX12_valueOf_19 : decode cX12_valueOf 19 = .ok (.iload_n 3, 1) := by decide +kernel
theorem dX12_valueOf_20 : decode cX12_valueOf 20 = .ok (.iadd, 1) := by decide +kernel
theorem dX12_valueOf_21 : decode cX12_valueOf 21 = .ok (.baload, 1) := by decide +kernel
theorem dX12_valueOf_22 : decode cX12_valueOf 22 = .ok (.imul, 1) := by decide +kernel
theorem dX12_valueOf_23 : decode cX12_valueOf 23 = .ok (.ireturn, 1) := by decide +kernel
theorem dX12_score_0 : decode cX12_score 0 = .ok (.aload_n 0, 1) := by decide +kernel
theorem dX12_score_1 : decode cX12_score 1 = .ok (.iload_n 1, 1) := by decide +kernel
theorem dX12_score_2 : decode cX12_score 2 = .ok (.iconst 0, 1) := by decide +kernel
theorem dX12_score_3 : decode cX12_score 3 = .ok (.invokevirtual 169, 3) := by decide +kernel
theorem dX12_score_6 : decode cX12_score 6 = .ok (.ifCond .ne 7, 3) := by decide +kernel
theorem dX12_score_9 : decode cX12_score 9 = .ok (.ldc_w 256, 3) := by decide +kernel
theorem dX12_score_12 : decode cX12_score 12 = .ok (.ireturn, 1) := by decide +kernel
theorem dX12_score_13 : decode cX12_score 13 = .ok (.iconst 0, 1) := by decide +kernel
theorem dX12_score_14 : decode cX12_score 14 = .ok (.istore_n 3, 1) := by decide +kernel
theorem dX12_score_15 : decode cX12_score 15 = .ok (.iload_n 3, 1) := by decide +kernel
theorem dX12_score_16 : decode cX12_score 16 = .ok (.aload_n 0, 1) := by decide +kernel
theorem dX12_score_17 : decode cX12_score 17 = .ok (.getfield 137, 3) := by decide +kernel
theorem dX12_score_20 : decode cX12_score 20 = .ok (.if_icmp .ge 21, 3) := by decide +kernel
theorem dX12_score_23 : decode cX12_score 23 = .ok (.aload_n 0, 1) := by decide +kernel
theorem dX12_score_24 : decode cX12_score 24 = .ok (.getfield 75, 3) := by decide +kernel
theorem dX12_score_27 : decode cX12_score 27 = .ok (.iload_n 3, 1) := by decide +kernel
theorem dX12_score_28 : decode cX12_score 28 = .ok (.aload_n 0, 1) := by decide +kernel
theorem dX12_score_29 : decode cX12_score 29 = .ok (.getfield 44, 3) := by decide +kernel
theorem dX12_score_32 : decode cX12_score 32 = .ok (.iload_n 3, 1) := by decide +kernel
theorem dX12_score_33 : decode cX12_score 33 = .ok (.iaload, 1) := by decide +kernel
theorem dX12_score_34 : decode cX12_score 34 = .ok (.iastore, 1) := by decide +kernel
theorem dX12_score_35 : decode cX12_score 35 = .ok (.iinc 3 1, 3) := by decide +kernel
theorem dX12_score_38 : decode cX12_score 38 = .ok (.goto (-23), 3) := by decide +kernel
theorem dX12_score_41 : decode cX12_score 41 = .ok (.aload_n 0, 1) := by decide +kernel
theorem dX12_score_42 : decode cX12_score 42 = .ok (.iload_n 2, 1) := by decide +kernel
theorem dX12_score_43 : decode cX12_score 43 = .ok (.iconst 1, 1) := by decide +kernel
theorem dX12_score_44 : decode cX12_score 44 = .ok (.invokevirtual 169, 3) := by decide +kernel
theorem dX12_score_47 : decode cX12_score 47 = .ok (.ifCond .ne 7, 3) := by decide +kernel
theorem dX12_score_50 : decode cX12_score 50 = .ok (.ldc_w 256, 3) := by decide +kernel
theorem dX12_score_53 : decode cX12_score 53 = .ok (.ireturn, 1) := by decide +kernel
theorem dX12_score_54 : decode cX12_score 54 = .ok (.aload_n 0, 1) := by decide +kernel
theorem dX12_score_55 : decode cX12_score 55 = .ok (.invokevirtual 257, 3) := by decide +kernel
theorem dX12_score_58 : decode cX12_score 58 = .ok (.iconst 0, 1) := by decide +kernel
theorem dX12_score_59 : decode cX12_score 59 = .ok (.istore_n 3, 1) := by decide +kernel
theorem dX12_score_60 : decode cX12_score 60 = .ok (.iconst 0, 1) := by decide +kernel
theorem dX12_score_61 : decode cX12_score 61 = .ok (.istore 4, 2) := by decide +kernel
theorem dX12_score_63 : decode cX12_score 63 = .ok (.iload 4, 2) := by decide +kernel
theorem dX12_score_65 : decode cX12_score 65 = .ok (.aload_n 0, 1) := by decide +kernel
theorem dX12_score_66 : decode cX12_score 66 = .ok (.getfield 137, 3) := by decide +kernel
theorem dX12_score_69 : decode cX12_score 69 = .ok (.if_icmp .ge 32, 3) := by decide +kernel
theorem dX12_score_72 : decode cX12_score 72 = .ok (.iload_n 3, 1) := by decide +kernel
theorem dX12_score_73 : decode cX12_score 73 = .ok (.aload_n 0, 1) := by decide +kernel
theorem dX12_score_74 : decode cX12_score 74 = .ok (.iload 4, 2) := by decide +kernel
theorem dX12_score_76 : decode cX12_score 76 = .ok (.aload_n 0, 1) := by decide +kernel
theorem dX12_score_77 : decode cX12_score 77 = .ok (.getfield 75, 3) := by decide +kernel
theorem dX12_score_80 : decode cX12_score 80 = .ok (.iload 4, 2) := by decide +kernel
theorem dX12_score_82 : decode cX12_score 82 = .ok (.iaload, 1) := by decide +kernel
theorem dX12_score_83 : decode cX12_score 83 = .ok (.aload_n 0, 1) := by decide +kernel
theorem dX12_score_84 : decode cX12_score 84 = .ok (.getfield 44, 3) := by decide +kernel
theorem dX12_score_87 : decode cX12_score 87 = .ok (.iload 4, 2) := by decide +kernel
theorem dX12_score_89 : decode cX12_score 89 = .ok (.iaload, 1) := by decide +kernel
theorem dX12_score_90 : decode cX12_score 90 = .ok (.invokevirtual 260, 3) := by decide +kernel
theorem dX12_score_93 : decode cX12_score 93 = .ok (.iadd, 1) := by decide +kernel
theorem dX12_score_94 : decode cX12_score 94 = .ok (.istore_n 3, 1) := by decide +kernel
theorem dX12_score_95 : decode cX12_score 95 = .ok (.iinc 4 1, 3) := by decide +kernel
theorem dX12_score_98 : decode cX12_score 98 = .ok (.goto (-35), 3) := by decide +kernel
theorem dX12_score_101 : decode cX12_score 101 = .ok (.iload_n 3, 1) := by decide +kernel
theorem dX12_score_102 : decode cX12_score 102 = .ok (.ireturn, 1) := by decide +kernel
theorem dX12_layRows_0 : decode cX12_layRows 0 = .ok (.iload_n 1, 1) := by decide +kernel
theorem dX12_layRows_1 : decode cX12_layRows 1 = .ok (.aload_n 0, 1) := by decide +kernel
theorem dX12_layRows_2 : decode cX12_layRows 2 = .ok (.getfield 137, 3) := by decide +kernel
theorem dX12_layRows_5 : decode cX12_layRows 5 = .ok (.if_icmp .ne 63, 3) := by decide +kernel
theorem dX12_layRows_8 : decode cX12_layRows 8 = .ok (.iload_n 3, 1) := by decide +kernel
theorem dX12_layRows_9 : decode cX12_layRows 9 = .ok (.ifCond .eq 8, 3) := by decide +kernel
theorem dX12_layRows_12 : decode cX12_layRows 12 = .ok (.iload_n 2, 1) := by decide +kernel
theorem dX12_layRows_13 : decode cX12_layRows 13 = .ok (.ifCond .le 4, 3) := by decide +kernel
theorem dX12_layRows_16 : decode cX12_layRows 16 = .ok (.return_, 1) := by decide +kernel
theorem dX12_layRows_17 : decode cX12_layRows 17 = .ok (.iconst 0, 1) := by decide +kernel
theorem dX12_layRows_18 : decode cX12_layRows 18 = .ok (.istore 4, 2) := by decide +kernel
theorem dX12_layRows_20 : decode cX12_layRows 20 = .ok (.iload 4, 2) := by decide +kernel
theorem dX12_layRows_22 : decode cX12_layRows 22 = .ok (.aload_n 0, 1) := by decide +kernel
theorem dX12_layRows_23 : decode cX12_layRows 23 = .ok (.getfield 137, 3) := by decide +kernel
theorem dX12_layRows_26 : decode cX12_layRows 26 = .ok (.if_icmp .ge 31, 3) := by decide +kernel
theorem dX12_layRows_29 : decode cX12_layRows 29 = .ok (.aload_n 0, 1) := by decide +kernel
theorem dX12_layRows_30 : decode cX12_layRows 30 = .ok (.getfield 78, 3) := by decide +kernel
theorem dX12_layRows_33 : decode cX12_layRows 33 = .ok (.iconst 5, 1) := by decide +kernel
theorem dX12_layRows_34 : decode cX12_layRows 34 = .ok (.aload_n 0, 1) := by decide +kernel
theorem dX12_layRows_35 : decode cX12_layRows 35 = .ok (.getfield 263, 3) := by decide +kernel
theorem dX12_layRows_38 : decode cX12_layRows 38 = .ok (.imul, 1) := by decide +kernel
theorem dX12_layRows_39 : decode cX12_layRows 39 = .ok (.iload 4, 2) := by decide +kernel
theorem dX12_layRows_41 : decode cX12_layRows 41 = .ok (.iadd, 1) := by decide +kernel
theorem dX12_layRows_42 : decode cX12_layRows 42 = .ok (.aload_n 0, 1) := by decide +kernel
theorem dX12_layRows_43 : decode cX12_layRows 43 = .ok (.getfield 81, 3) := by decide +kernel
theorem dX12_layRows_46 : decode cX12_layRows 46 = .ok (.iload 4, 2) := by decide +kernel
theorem dX12_layRows_48 : decode cX12_layRows 48 = .ok (.iaload, 1) := by decide +kernel
theorem dX12_layRows_49 : decode cX12_layRows 49 = .ok (.i2b, 1) := by decide +kernel
theorem dX12_layRows_50 : decode cX12_layRows 50 = .ok (.bastore, 1) := by decide +kernel
theorem dX12_layRows_51 : decode cX12_layRows 51 = .ok (.iinc 4 1, 3) := by decide +kernel
theorem dX12_layRows_54 : decode cX12_layRows 54 = .ok (.goto (-34), 3) := by decide +kernel
theorem dX12_layRows_57 : decode cX12_layRows 57 = .ok (.aload_n 0, 1) := by decide +kernel
theorem dX12_layRows_58 : decode cX12_layRows 58 = .ok (.dup, 1) := by decide +kernel
theorem dX12_layRows_59 : decode cX12_layRows 59 = .ok (.getfield 263, 3) := by decide +kernel
theorem dX12_layRows_62 : decode cX12_layRows 62 = .ok (.iconst 1, 1) := by decide +kernel
theorem dX12_layRows_63 : decode cX12_layRows 63 = .ok (.iadd, 1) := by decide +kernel
theorem dX12_layRows_64 : decode cX12_layRows 64 = .ok (.putfield 263, 3) := by decide +kernel
theorem dX12_layRows_67 : decode cX12_layRows 67 = .ok (.return_, 1) := by decide +kernel
theorem dX12_layRows_68 : decode cX12_layRows 68 = .ok (.iconst 0, 1) := by decide +kernel
theorem dX12_layRows_69 : decode cX12_layRows 69 = .ok (.istore 4, 2) := by decide +kernel
theorem dX12_layRows_71 : decode cX12_layRows 71 = .ok (.iload 4, 2) := by decide +kernel
theorem dX12_layRows_73 : decode cX12_layRows 73 = .ok (.iload_n 2, 1) := by decide +kernel
theorem dX12_layRows_74 : decode cX12_layRows 74 = .ok (.if_icmp .gt 29, 3) := by decide +kernel
theorem dX12_layRows_77 : decode cX12_layRows 77 = .ok (.aload_n 0, 1) := by decide +kernel
theorem dX12_layRows_78 : decode cX12_layRows 78 = .ok (.getfield 81, 3) := by decide +kernel
theorem dX12_layRows_81 : decode cX12_layRows 81 = .ok (.iload_n 1, 1) := by decide +kernel
theorem dX12_layRows_82 : decode cX12_layRows 82 = .ok (.iload 4, 2) := by decide +kernel
theorem dX12_layRows_84 : decode cX12_layRows 84 = .ok (.iastore, 1) := by decide +kernel
theorem dX12_layRows_85 : decode cX12_layRows 85 = .ok (.aload_n 0, 1) := by decide +kernel
theorem dX12_layRows_86 : decode cX12_layRows 86 = .ok (.iload_n 1, 1) := by decide +kernel
theorem dX12_layRows_87 : decode cX12_layRows 87 = .ok (.iconst 1, 1) := by decide +kernel
theorem dX12_layRows_88 : decode cX12_layRows 88 = .ok (.iadd, 1) := by decide +kernel
theorem dX12_layRows_89 : decode cX12_layRows 89 = .ok (.iload_n 2, 1) := by decide +kernel
theorem dX12_layRows_90 : decode cX12_layRows 90 = .ok (.iload 4, 2) := by decide +kernel
theorem dX12_layRows_92 : decode cX12_layRows 92 = .ok (.isub, 1) := by decide +kernel
theorem dX12_layRows_93 : decode cX12_layRows 93 = .ok (.iload_n 3, 1) := by decide +kernel
theorem dX12_layRows_94 : decode cX12_layRows 94 = .ok (.invokevirtual 266, 3) := by decide +kernel
theorem dX12_layRows_97 : decode cX12_layRows 97 = .ok (.iinc 4 1, 3) := by decide +kernel
theorem dX12_layRows_100 : decode cX12_layRows 100 = .ok (.goto (-29), 3) := by decide +kernel
theorem dX12_layRows_103 : decode cX12_layRows 103 = .ok (.return_, 1) := by decide +kernel
theorem dX12_findRows_0 : decode cX12_findRows 0 = .ok (.aload_n 0, 1) := by decide +kernel
theorem dX12_findRows_1 : decode cX12_findRows 1 = .ok (.iconst 0, 1) := by decide +kernel
theorem dX12_findRows_2 : decode cX12_findRows 2 = .ok (.putfield 263, 3) := by decide +kernel
theorem dX12_findRows_5 : decode cX12_findRows 5 = .ok (.aload_n 0, 1) := by decide +kernel
theorem dX12_findRows_6 : decode cX12_findRows 6 = .ok (.iconst 0, 1) := by decide +kernel
theorem dX12_findRows_7 : decode cX12_findRows 7 = .ok (.iload_n 1, 1) := by decide +kernel
theorem dX12_findRows_8 : decode cX12_findRows 8 = .ok (.iload_n 2, 1) := by decide +kernel
theorem dX12_findRows_9 : decode cX12_findRows 9 = .ok (.invokevirtual 266, 3) := by decide +kernel
theorem dX12_findRows_12 : decode cX12_findRows 12 = .ok (.return_, 1) := by decide +kernel
theorem dX12_numberOf_0 : decode cX12_numberOf 0 = .ok (.iconst 0, 1) := by decide +kernel
theorem dX12_numberOf_1 : decode cX12_numberOf 1 = .ok (.istore_n 2, 1) := by decide +kernel
theorem dX12_numberOf_2 : decode cX12_numberOf 2 = .ok (.iconst 0, 1) := by decide +kernel
theorem dX12_numberOf_3 : decode cX12_numberOf 3 = .ok (.istore_n 3, 1) := by decide +kernel
theorem dX12_numberOf_4 : decode cX12_numberOf 4 = .ok (.iload_n 3, 1) := by decide +kernel
theorem dX12_numberOf_5 : decode cX12_numberOf 5 = .ok (.aload_n 0, 1) := by decide +kernel
theorem dX12_numberOf_6 : decode cX12_numberOf 6 = .ok (.getfield 137, 3) := by decide +kernel
theorem dX12_numberOf_9 : decode cX12_numberOf 9 = .ok (.if_icmp .ge 25, 3) := by decide +kernel
theorem dX12_numberOf_12 : decode cX12_numberOf 12 = .ok (.bipush 10, 2) := by decide +kernel
theorem dX12_numberOf_14 : decode cX12_numberOf 14 = .ok (.iload_n 2, 1) := by decide +kernel
theorem dX12_numberOf_15 : decode cX12_numberOf 15 = .ok (.imul, 1) := by decide +kernel
theorem dX12_numberOf_16 : decode cX12_numberOf 16 = .ok (.aload_n 0, 1) := by decide +kernel
theorem dX12_numberOf_17 : decode cX12_numberOf 17 = .ok (.getfield 78, 3) := by decide +kernel
theorem dX12_numberOf_20 : decode cX12_numberOf 20 = .ok (.iconst 5, 1) := by decide +kernel
theorem dX12_numberOf_21 : decode cX12_numberOf 21 = .ok (.iload_n 1, 1) := by decide +kernel
theorem dX12_numberOf_22 : decode cX12_numberOf 22 = .ok (.imul, 1) := by decide +kernel
theorem dX12_numberOf_23 : decode cX12_numberOf 23 = .ok (.iload_n 3, 1) := by decide +kernel
theorem dX12_numberOf_24 : decode cX12_numberOf 24 = .ok (.iadd, 1) := by decide +kernel
theorem dX12_numberOf_25 : decode cX12_numberOf 25 = .ok (.baload, 1) := by decide +kernel
theorem dX12_numberOf_26 : decode cX12_numberOf 26 = .ok (.iadd, 1) := by decide +kernel
theorem dX12_numberOf_27 : decode cX12_numberOf 27 = .ok (.istore_n 2, 1) := by decide +kernel
theorem dX12_numberOf_28 : decode cX12_numberOf 28 = .ok (.iinc 3 1, 3) := by decide +kernel
theorem dX12_numberOf_31 : decode cX12_numberOf 31 = .ok (.goto (-27), 3) := by decide +kernel
theorem dX12_numberOf_34 : decode cX12_numberOf 34 = .ok (.iload_n 2, 1) := by decide +kernel
theorem dX12_numberOf_35 : decode cX12_numberOf 35 = .ok (.ireturn, 1) := by decide +kernel
theorem dX12_usesUp_0 : decode cX12_usesUp 0 = .ok (.aload_n 0, 1) := by decide +kernel
theorem dX12_usesUp_1 : decode cX12_usesUp 1 = .ok (.aload_n 0, 1) := by decide +kernel
theorem dX12_usesUp_2 : decode cX12_usesUp 2 = .ok (.getfield 19, 3) := by decide +kernel
theorem dX12_usesUp_5 : decode cX12_usesUp 5 = .ok (.iload_n 1, 1) := by decide +kernel
theorem dX12_usesUp_6 : decode cX12_usesUp 6 = .ok (.iaload, 1) := by decide +kernel
theorem dX12_usesUp_7 : decode cX12_usesUp 7 = .ok (.iconst 1, 1) := by decide +kernel
theorem dX12_usesUp_8 : decode cX12_usesUp 8 = .ok (.invokevirtual 270, 3) := by decide +kernel
theorem dX12_usesUp_11 : decode cX12_usesUp 11 = .ok (.aload_n 0, 1) := by decide +kernel
theorem dX12_usesUp_12 : decode cX12_usesUp 12 = .ok (.getfield 263, 3) := by decide +kernel
theorem dX12_usesUp_15 : decode cX12_usesUp 15 = .ok (.ireturn, 1) := by decide +kernel
theorem dX12_of_0 : decode cX12_of 0 = .ok (.iload_n 2, 1) := by decide +kernel
theorem dX12_of_1 : decode cX12_of 1 = .ok (.bipush 10, 2) := by decide +kernel
theorem dX12_of_3 : decode cX12_of 3 = .ok (.bipush 12, 2) := by decide +kernel
theorem dX12_of_5 : decode cX12_of 5 = .ok (.invokestatic 140, 3) := by decide +kernel
theorem dX12_of_8 : decode cX12_of 8 = .ok (.ifCond .eq 52, 3) := by decide +kernel
theorem dX12_of_11 : decode cX12_of 11 = .ok (.aload_n 0, 1) := by decide +kernel
theorem dX12_of_12 : decode cX12_of 12 = .ok (.iload_n 1, 1) := by decide +kernel
theorem dX12_of_13 : decode cX12_of 13 = .ok (.invokevirtual 166, 3) := by decide +kernel
theorem dX12_of_16 : decode cX12_of 16 = .ok (.ifCond .ne 7, 3) := by decide +kernel
theorem dX12_of_19 : decode cX12_of 19 = .ok (.iconst (-1), 1) := by decide +kernel
theorem dX12_of_20 : decode cX12_of 20 = .ok (.goto 39, 3) := by decide +kernel
theorem dX12_of_23 : decode cX12_of 23 = .ok (.iload_n 2, 1) := by decide +kernel
theorem dX12_of_24 : decode cX12_of 24 = .ok (.bipush 10, 2) := by decide +kernel
theorem dX12_of_26 : decode cX12_of 26 = .ok (.if_icmp .ne 12, 3) := by decide +kernel
theorem dX12_of_29 : decode cX12_of 29 = .ok (.aload_n 0, 1) := by decide +kernel
theorem dX12_of_30 : decode cX12_of 30 = .ok (.getfield 7, 3) := by decide +kernel
theorem dX12_of_33 : decode cX12_of 33 = .ok (.iload_n 1, 1) := by decide +kernel
theorem dX12_of_34 : decode cX12_of 34 = .ok (.iaload, 1) := by decide +kernel
theorem dX12_of_35 : decode cX12_of 35 = .ok (.goto 24, 3) := by decide +kernel
theorem dX12_of_38 : decode cX12_of 38 = .ok (.iload_n 2, 1) := by decide +kernel
theorem dX12_of_39 : decode cX12_of 39 = .ok (.bipush 11, 2) := by decide +kernel
theorem dX12_of_41 : decode cX12_of 41 = .ok (.if_icmp .ne 12, 3) := by decide +kernel
theorem dX12_of_44 : decode cX12_of 44 = .ok (.aload_n 0, 1) := by decide +kernel
theorem dX12_of_45 : decode cX12_of 45 = .ok (.getfield 13, 3) := by decide +kernel
theorem dX12_of_48 : decode cX12_of 48 = .ok (.iload_n 1, 1) := by decide +kernel
theorem dX12_of_49 : decode cX12_of 49 = .ok (.iaload, 1) := by decide +kernel
theorem dX12_of_50 : decode cX12_of 50 = .ok (.goto 9, 3) := by decide +kernel
theorem dX12_of_53 : decode cX12_of 53 = .ok (.aload_n 0, 1) := by decide +kernel
theorem dX12_of_54 : decode cX12_of 54 = .ok (.getfield 16, 3) := by decide +kernel
theorem dX12_of_57 : decode cX12_of 57 = .ok (.iload_n 1, 1) := by decide +kernel
theorem dX12_of_58 : decode cX12_of 58 = .ok (.iaload, 1) := by decide +kernel
theorem dX12_of_59 : decode cX12_of 59 = .ok (.ireturn, 1) := by decide +kernel
theorem dX12_of_60 : decode cX12_of 60 = .ok (.iload_n 1, 1) := by decide +kernel
theorem dX12_of_61 : decode cX12_of 61 = .ok (.invokestatic 158, 3) := by decide +kernel
theorem dX12_of_64 : decode cX12_of 64 = .ok (.ifCond .ne 5, 3) := by decide +kernel
theorem dX12_of_67 : decode cX12_of 67 = .ok (.iconst (-1), 1) := by decide +kernel
theorem dX12_of_68 : decode cX12_of 68 = .ok (.ireturn, 1) := by decide +kernel
theorem dX12_of_69 : decode cX12_of 69 = .ok (.iload_n 2, 1) := by decide +kernel
theorem dX12_of_70 : decode cX12_of 70 = .ok (.tableswitch 57 0 3 #[30, 37, 44, 51], 30) := by decide +kernel
theorem dX12_of_100 : decode cX12_of 100 = .ok (.aload_n 0, 1) := by decide +kernel
theorem dX12_of_101 : decode cX12_of 101 = .ok (.getfield 19, 3) := by decide +kernel
theorem dX12_of_104 : decode cX12_of 104 = .ok (.iload_n 1, 1) := by decide +kernel
theorem dX12_of_105 : decode cX12_of 105 = .ok (.iaload, 1) := by decide +kernel
theorem dX12_of_106 : decode cX12_of 106 = .ok (.ireturn, 1) := by decide +kernel
theorem dX12_of_107 : decode cX12_of 107 = .ok (.aload_n 0, 1) := by decide +kernel
theorem dX12_of_108 : decode cX12_of 108 = .ok (.getfield 22, 3) := by decide +kernel
theorem dX12_of_111 : decode cX12_of 111 = .ok (.iload_n 1, 1) := by decide +kernel
theorem dX12_of_112 : decode cX12_of 112 = .ok (.iaload, 1) := by decide +kernel
theorem dX12_of_113 : decode cX12_of 113 = .ok (.ireturn, 1) := by decide +kernel
theorem dX12_of_114 : decode cX12_of 114 = .ok (.aload_n 0, 1) := by decide +kernel
theorem dX12_of_115 : decode cX12_of 115 = .ok (.iload_n 1, 1) := by decide +kernel
theorem dX12_of_116 : decode cX12_of 116 = .ok (.iconst 0, 1) := by decide +kernel
theorem dX12_of_117 : decode cX12_of 117 = .ok (.invokevirtual 274, 3) := by decide +kernel
theorem dX12_of_120 : decode cX12_of 120 = .ok (.ireturn, 1) := by decide +kernel
theorem dX12_of_121 : decode cX12_of 121 = .ok (.aload_n 0, 1) := by decide +kernel
theorem dX12_of_122 : decode cX12_of 122 = .ok (.iload_n 1, 1) := by decide +kernel
theorem dX12_of_123 : decode cX12_of 123 = .ok (.invokevirtual 278, 3) := by decide +kernel
theorem dX12_of_126 : decode cX12_of 126 = .ok (.ireturn, 1) := by decide +kernel
theorem dX12_of_127 : decode cX12_of 127 = .ok (.iconst (-1), 1) := by decide +kernel
theorem dX12_of_128 : decode cX12_of 128 = .ok (.ireturn, 1) := by decide +kernel
theorem dX12_weights_0 : decode cX12_weights 0 = .ok (.iconst 0, 1) := by decide +kernel
theorem dX12_weights_1 : decode cX12_weights 1 = .ok (.istore_n 3, 1) := by decide +kernel
theorem dX12_weights_2 : decode cX12_weights 2 = .ok (.iconst 0, 1) := by decide +kernel
theorem dX12_weights_3 : decode cX12_weights 3 = .ok (.istore 4, 2) := by decide +kernel
theorem dX12_weights_5 : decode cX12_weights 5 = .ok (.iload 4, 2) := by decide +kernel
theorem dX12_weights_7 : decode cX12_weights 7 = .ok (.aload_n 0, 1) := by decide +kernel
theorem dX12_weights_8 : decode cX12_weights 8 = .ok (.getfield 22, 3) := by decide +kernel
theorem dX12_weights_11 : decode cX12_weights 11 = .ok (.iload_n 1, 1) := by decide +kernel
theorem dX12_weights_12 : decode cX12_weights 12 = .ok (.iaload, 1) := by decide +kernel
theorem dX12_weights_13 : decode cX12_weights 13 = .ok (.if_icmp .ge 24, 3) := by decide +kernel
theorem dX12_weights_16 : decode cX12_weights 16 = .ok (.iload_n 3, 1) := by decide +kernel
theorem dX12_weights_17 : decode cX12_weights 17 = .ok (.aload_n 0, 1) := by decide +kernel
theorem dX12_weights_18 : decode cX12_weights 18 = .ok (.getfield 25, 3) := by decide +kernel
theorem dX12_weights_21 : decode cX12_weights 21 = .ok (.bipush 8, 2) := by decide +kernel
theorem dX12_weights_23 : decode cX12_weights 23 = .ok (.iload_n 1, 1) := by decide +kernel
theorem dX12_weights_24 : decode cX12_weights 24 = .ok (.imul, 1) := by decide +kernel
