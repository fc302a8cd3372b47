theorem dX12_weights_25 : decode cX12_weights 25 = .ok (.iload 4, 2) := by decide +kernel
theorem dX12_weights_27 : decode cX12_weights 27 = .ok (.iadd, 1) := by decide +kernel
theorem dX12_weights_28 : decode cX12_weights 28 = .ok (.iaload, 1) := by decide +kernel
theorem dX12_weights_29 : decode cX12_weights 29 = .ok (.iadd, 1) := by decide +kernel
theorem dX12_weights_30 : decode cX12_weights 30 = .ok (.istore_n 3, 1) := by decide +kernel
theorem dX12_weights_31 : decode cX12_weights 31 = .ok (.iinc 4 1, 3) := by decide +kernel
theorem dX12_weights_34 : decode cX12_weights 34 = .ok (.goto (-29), 3) := by decide +kernel
theorem dX12_weights_37 : decode cX12_weights 37 = .ok (.iload_n 2, 1) := by decide +kernel
theorem dX12_weights_38 : decode cX12_weights 38 = .ok (.ifCond .eq 16, 3) := by decide +kernel
theorem dX12_weights_41 : decode cX12_weights 41 = .ok (.aload_n 0, 1) := by decide +kernel
theorem dX12_weights_42 : decode cX12_weights 42 = .ok (.getfield 22, 3) := by decide +kernel
theorem dX12_weights_45 : decode cX12_weights 45 = .ok (.iload_n 1, 1) := by decide +kernel
theorem dX12_weights_46 : decode cX12_weights 46 = .ok (.iaload, 1) := by decide +kernel
theorem dX12_weights_47 : decode cX12_weights 47 = .ok (.ifCond .ne 7, 3) := by decide +kernel
theorem dX12_weights_50 : decode cX12_weights 50 = .ok (.iconst 1, 1) := by decide +kernel
theorem dX12_weights_51 : decode cX12_weights 51 = .ok (.goto 4, 3) := by decide +kernel
theorem dX12_weights_54 : decode cX12_weights 54 = .ok (.iload_n 3, 1) := by decide +kernel
theorem dX12_weights_55 : decode cX12_weights 55 = .ok (.ireturn, 1) := by decide +kernel
theorem dX12_mixMany_0 : decode cX12_mixMany 0 = .ok (.aload_n 0, 1) := by decide +kernel
theorem dX12_mixMany_1 : decode cX12_mixMany 1 = .ok (.getfield 22, 3) := by decide +kernel
theorem dX12_mixMany_4 : decode cX12_mixMany 4 = .ok (.iload_n 1, 1) := by decide +kernel
theorem dX12_mixMany_5 : decode cX12_mixMany 5 = .ok (.iaload, 1) := by decide +kernel
theorem dX12_mixMany_6 : decode cX12_mixMany 6 = .ok (.ifCond .ne 7, 3) := by decide +kernel
theorem dX12_mixMany_9 : decode cX12_mixMany 9 = .ok (.iconst 1, 1) := by decide +kernel
theorem dX12_mixMany_10 : decode cX12_mixMany 10 = .ok (.goto 9, 3) := by decide +kernel
theorem dX12_mixMany_13 : decode cX12_mixMany 13 = .ok (.aload_n 0, 1) := by decide +kernel
theorem dX12_mixMany_14 : decode cX12_mixMany 14 = .ok (.getfield 22, 3) := by decide +kernel
theorem dX12_mixMany_17 : decode cX12_mixMany 17 = .ok (.iload_n 1, 1) := by decide +kernel
theorem dX12_mixMany_18 : decode cX12_mixMany 18 = .ok (.iaload, 1) := by decide +kernel
theorem dX12_mixMany_19 : decode cX12_mixMany 19 = .ok (.ireturn, 1) := by decide +kernel
theorem dX12_weightAt_0 : decode cX12_weightAt 0 = .ok (.aload_n 0, 1) := by decide +kernel
theorem dX12_weightAt_1 : decode cX12_weightAt 1 = .ok (.getfield 22, 3) := by decide +kernel
theorem dX12_weightAt_4 : decode cX12_weightAt 4 = .ok (.iload_n 1, 1) := by decide +kernel
theorem dX12_weightAt_5 : decode cX12_weightAt 5 = .ok (.iaload, 1) := by decide +kernel
theorem dX12_weightAt_6 : decode cX12_weightAt 6 = .ok (.ifCond .ne 7, 3) := by decide +kernel
theorem dX12_weightAt_9 : decode cX12_weightAt 9 = .ok (.iconst 1, 1) := by decide +kernel
theorem dX12_weightAt_10 : decode cX12_weightAt 10 = .ok (.goto 14, 3) := by decide +kernel
theorem dX12_weightAt_13 : decode cX12_weightAt 13 = .ok (.aload_n 0, 1) := by decide +kernel
theorem dX12_weightAt_14 : decode cX12_weightAt 14 = .ok (.getfield 25, 3) := by decide +kernel
theorem dX12_weightAt_17 : decode cX12_weightAt 17 = .ok (.bipush 8, 2) := by decide +kernel
theorem dX12_weightAt_19 : decode cX12_weightAt 19 = .ok (.iload_n 1, 1) := by decide +kernel
theorem dX12_weightAt_20 : decode cX12_weightAt 20 = .ok (.imul, 1) := by decide +kernel
theorem dX12_weightAt_21 : decode cX12_weightAt 21 = .ok (.iload_n 2, 1) := by decide +kernel
theorem dX12_weightAt_22 : decode cX12_weightAt 22 = .ok (.iadd, 1) := by decide +kernel
theorem dX12_weightAt_23 : decode cX12_weightAt 23 = .ok (.iaload, 1) := by decide +kernel
theorem dX12_weightAt_24 : decode cX12_weightAt 24 = .ok (.ireturn, 1) := by decide +kernel
theorem dX12_mixAt_0 : decode cX12_mixAt 0 = .ok (.aload_n 0, 1) := by decide +kernel
theorem dX12_mixAt_1 : decode cX12_mixAt 1 = .ok (.getfield 22, 3) := by decide +kernel
theorem dX12_mixAt_4 : decode cX12_mixAt 4 = .ok (.iload_n 1, 1) := by decide +kernel
theorem dX12_mixAt_5 : decode cX12_mixAt 5 = .ok (.iaload, 1) := by decide +kernel
theorem dX12_mixAt_6 : decode cX12_mixAt 6 = .ok (.ifCond .ne 7, 3) := by decide +kernel
theorem dX12_mixAt_9 : decode cX12_mixAt 9 = .ok (.iconst 0, 1) := by decide +kernel
theorem dX12_mixAt_10 : decode cX12_mixAt 10 = .ok (.goto 18, 3) := by decide +kernel
theorem dX12_mixAt_13 : decode cX12_mixAt 13 = .ok (.aload_n 0, 1) := by decide +kernel
theorem dX12_mixAt_14 : decode cX12_mixAt 14 = .ok (.getfield 28, 3) := by decide +kernel
theorem dX12_mixAt_17 : decode cX12_mixAt 17 = .ok (.iconst 5, 1) := by decide +kernel
theorem dX12_mixAt_18 : decode cX12_mixAt 18 = .ok (.bipush 8, 2) := by decide +kernel
theorem dX12_mixAt_20 : decode cX12_mixAt 20 = .ok (.iload_n 1, 1) := by decide +kernel
theorem dX12_mixAt_21 : decode cX12_mixAt 21 = .ok (.imul, 1) := by decide +kernel
theorem dX12_mixAt_22 : decode cX12_mixAt 22 = .ok (.iload_n 2, 1) := by decide +kernel
theorem dX12_mixAt_23 : decode cX12_mixAt 23 = .ok (.iadd, 1) := by decide +kernel
theorem dX12_mixAt_24 : decode cX12_mixAt 24 = .ok (.imul, 1) := by decide +kernel
theorem dX12_mixAt_25 : decode cX12_mixAt 25 = .ok (.iload_n 3, 1) := by decide +kernel
theorem dX12_mixAt_26 : decode cX12_mixAt 26 = .ok (.iadd, 1) := by decide +kernel
theorem dX12_mixAt_27 : decode cX12_mixAt 27 = .ok (.baload, 1) := by decide +kernel
theorem dX12_mixAt_28 : decode cX12_mixAt 28 = .ok (.ireturn, 1) := by decide +kernel
theorem dX12_noGains_0 : decode cX12_noGains 0 = .ok (.iconst 0, 1) := by decide +kernel
theorem dX12_noGains_1 : decode cX12_noGains 1 = .ok (.istore_n 1, 1) := by decide +kernel
theorem dX12_noGains_2 : decode cX12_noGains 2 = .ok (.iload_n 1, 1) := by decide +kernel
theorem dX12_noGains_3 : decode cX12_noGains 3 = .ok (.bipush 50, 2) := by decide +kernel
theorem dX12_noGains_5 : decode cX12_noGains 5 = .ok (.if_icmp .ge 16, 3) := by decide +kernel
theorem dX12_noGains_8 : decode cX12_noGains 8 = .ok (.aload_n 0, 1) := by decide +kernel
theorem dX12_noGains_9 : decode cX12_noGains 9 = .ok (.getfield 84, 3) := by decide +kernel
theorem dX12_noGains_12 : decode cX12_noGains 12 = .ok (.iload_n 1, 1) := by decide +kernel
theorem dX12_noGains_13 : decode cX12_noGains 13 = .ok (.iconst 0, 1) := by decide +kernel
theorem dX12_noGains_14 : decode cX12_noGains 14 = .ok (.iastore, 1) := by decide +kernel
theorem dX12_noGains_15 : decode cX12_noGains 15 = .ok (.iinc 1 1, 3) := by decide +kernel
theorem dX12_noGains_18 : decode cX12_noGains 18 = .ok (.goto (-16), 3) := by decide +kernel
theorem dX12_noGains_21 : decode cX12_noGains 21 = .ok (.return_, 1) := by decide +kernel
theorem dX12_addGains_0 : decode cX12_addGains 0 = .ok (.iconst 0, 1) := by decide +kernel
theorem dX12_addGains_1 : decode cX12_addGains 1 = .ok (.istore 5, 2) := by decide +kernel
theorem dX12_addGains_3 : decode cX12_addGains 3 = .ok (.iload 5, 2) := by decide +kernel
theorem dX12_addGains_5 : decode cX12_addGains 5 = .ok (.bipush 9, 2) := by decide +kernel
theorem dX12_addGains_7 : decode cX12_addGains 7 = .ok (.if_icmp .gt 54, 3) := by decide +kernel
theorem dX12_addGains_10 : decode cX12_addGains 10 = .ok (.aload_n 0, 1) := by decide +kernel
theorem dX12_addGains_11 : decode cX12_addGains 11 = .ok (.getfield 84, 3) := by decide +kernel
theorem dX12_addGains_14 : decode cX12_addGains 14 = .ok (.bipush 10, 2) := by decide +kernel
theorem dX12_addGains_16 : decode cX12_addGains 16 = .ok (.iload_n 2, 1) := by decide +kernel
theorem dX12_addGains_17 : decode cX12_addGains 17 = .ok (.imul, 1) := by decide +kernel
theorem dX12_addGains_18 : decode cX12_addGains 18 = .ok (.iload 5, 2) := by decide +kernel
theorem dX12_addGains_20 : decode cX12_addGains 20 = .ok (.iadd, 1) := by decide +kernel
theorem dX12_addGains_21 : decode cX12_addGains 21 = .ok (.dup2, 1) := by decide +kernel
theorem dX12_addGains_22 : decode cX12_addGains 22 = .ok (.iaload, 1) := by decide +kernel
theorem dX12_addGains_23 : decode cX12_addGains 23 = .ok (.iload_n 1, 1) := by decide +kernel
theorem dX12_addGains_24 : decode cX12_addGains 24 = .ok (.ifCond .ne 17, 3) := by decide +kernel
theorem dX12_addGains_27 : decode cX12_addGains 27 = .ok (.iload 4, 2) := by decide +kernel
theorem dX12_addGains_29 : decode cX12_addGains 29 = .ok (.aload_n 0, 1) := by decide +kernel
theorem dX12_addGains_30 : decode cX12_addGains 30 = .ok (.iload_n 2, 1) := by decide +kernel
theorem dX12_addGains_31 : decode cX12_addGains 31 = .ok (.iload 5, 2) := by decide +kernel
theorem dX12_addGains_33 : decode cX12_addGains 33 = .ok (.iload_n 3, 1) := by decide +kernel
theorem dX12_addGains_34 : decode cX12_addGains 34 = .ok (.invokevirtual 260, 3) := by decide +kernel
theorem dX12_addGains_37 : decode cX12_addGains 37 = .ok (.imul, 1) := by decide +kernel
theorem dX12_addGains_38 : decode cX12_addGains 38 = .ok (.goto 15, 3) := by decide +kernel
theorem dX12_addGains_41 : decode cX12_addGains 41 = .ok (.iload 4, 2) := by decide +kernel
theorem dX12_addGains_43 : decode cX12_addGains 43 = .ok (.ineg, 1) := by decide +kernel
theorem dX12_addGains_44 : decode cX12_addGains 44 = .ok (.aload_n 0, 1) := by decide +kernel
theorem dX12_addGains_45 : decode cX12_addGains 45 = .ok (.iload_n 2, 1) := by decide +kernel
theorem dX12_addGains_46 : decode cX12_addGains 46 = .ok (.iload_n 3, 1) := by decide +kernel
theorem dX12_addGains_47 : decode cX12_addGains 47 = .ok (.iload 5, 2) := by decide +kernel
theorem dX12_addGains_49 : decode cX12_addGains 49 = .ok (.invokevirtual 260, 3) := by decide +kernel
theorem dX12_addGains_52 : decode cX12_addGains 52 = .ok (.imul, 1) := by decide +kernel
theorem dX12_addGains_53 : decode cX12_addGains 53 = .ok (.iadd, 1) := by decide +kernel
theorem dX12_addGains_54 : decode cX12_addGains 54 = .ok (.iastore, 1) := by decide +kernel
theorem dX12_addGains_55 : decode cX12_addGains 55 = .ok (.iinc 5 1, 3) := by decide +kernel
theorem dX12_addGains_58 : decode cX12_addGains 58 = .ok (.goto (-55), 3) := by decide +kernel
theorem dX12_addGains_61 : decode cX12_addGains 61 = .ok (.return_, 1) := by decide +kernel
theorem dX12_findGains_0 : decode cX12_findGains 0 = .ok (.aload_n 0, 1) := by decide +kernel
theorem dX12_findGains_1 : decode cX12_findGains 1 = .ok (.invokevirtual 281, 3) := by decide +kernel
theorem dX12_findGains_4 : decode cX12_findGains 4 = .ok (.iconst 0, 1) := by decide +kernel
theorem dX12_findGains_5 : decode cX12_findGains 5 = .ok (.istore_n 2, 1) := by decide +kernel
theorem dX12_findGains_6 : decode cX12_findGains 6 = .ok (.iload_n 2, 1) := by decide +kernel
theorem dX12_findGains_7 : decode cX12_findGains 7 = .ok (.aload_n 0, 1) := by decide +kernel
theorem dX12_findGains_8 : decode cX12_findGains 8 = .ok (.iconst 1, 1) := by decide +kernel
theorem dX12_findGains_9 : decode cX12_findGains 9 = .ok (.iload_n 1, 1) := by decide +kernel
theorem dX12_findGains_10 : decode cX12_findGains 10 = .ok (.isub, 1) := by decide +kernel
theorem dX12_findGains_11 : decode cX12_findGains 11 = .ok (.invokevirtual 284, 3) := by decide +kernel
theorem dX12_findGains_14 : decode cX12_findGains 14 = .ok (.if_icmp .ge 48, 3) := by decide +kernel
theorem dX12_findGains_17 : decode cX12_findGains 17 = .ok (.iconst 0, 1) := by decide +kernel
theorem dX12_findGains_18 : decode cX12_findGains 18 = .ok (.istore_n 3, 1) := by decide +kernel
theorem dX12_findGains_19 : decode cX12_findGains 19 = .ok (.iload_n 3, 1) := by decide +kernel
theorem dX12_findGains_20 : decode cX12_findGains 20 = .ok (.aload_n 0, 1) := by decide +kernel
theorem dX12_findGains_21 : decode cX12_findGains 21 = .ok (.getfield 137, 3) := by decide +kernel
theorem dX12_findGains_24 : decode cX12_findGains 24 = .ok (.if_icmp .ge 32, 3) := by decide +kernel
theorem dX12_findGains_27 : decode cX12_findGains 27 = .ok (.aload_n 0, 1) := by decide +kernel
theorem dX12_findGains_28 : decode cX12_findGains 28 = .ok (.iload_n 1, 1) := by decide +kernel
theorem dX12_findGains_29 : decode cX12_findGains 29 = .ok (.iload_n 3, 1) := by decide +kernel
theorem dX12_findGains_30 : decode cX12_findGains 30 = .ok (.aload_n 0, 1) := by decide +kernel
theorem dX12_findGains_31 : decode cX12_findGains 31 = .ok (.iconst 1, 1) := by decide +kernel
theorem dX12_findGains_32 : decode cX12_findGains 32 = .ok (.iload_n 1, 1) := by decide +kernel
theorem dX12_findGains_33 : decode cX12_findGains 33 = .ok (.isub, 1) := by decide +kernel
theorem dX12_findGains_34 : decode cX12_findGains 34 = .ok (.iload_n 2, 1) := by decide +kernel
theorem dX12_findGains_35 : decode cX12_findGains 35 = .ok (.iload_n 3, 1) := by decide +kernel
theorem dX12_findGains_36 : decode cX12_findGains 36 = .ok (.invokevirtual 287, 3) := by decide +kernel
theorem dX12_findGains_39 : decode cX12_findGains 39 = .ok (.aload_n 0, 1) := by decide +kernel
theorem dX12_findGains_40 : decode cX12_findGains 40 = .ok (.iconst 1, 1) := by decide +kernel
theorem dX12_findGains_41 : decode cX12_findGains 41 = .ok (.iload_n 1, 1) := by decide +kernel
theorem dX12_findGains_42 : decode cX12_findGains 42 = .ok (.isub, 1) := by decide +kernel
theorem dX12_findGains_43 : decode cX12_findGains 43 = .ok (.iload_n 2, 1) := by decide +kernel
theorem dX12_findGains_44 : decode cX12_findGains 44 = .ok (.invokevirtual 290, 3) := by decide +kernel
theorem dX12_findGains_47 : decode cX12_findGains 47 = .ok (.invokevirtual 293, 3) := by decide +kernel
theorem dX12_findGains_50 : decode cX12_findGains 50 = .ok (.iinc 3 1, 3) := by decide +kernel
theorem dX12_findGains_53 : decode cX12_findGains 53 = .ok (.goto (-34), 3) := by decide +kernel
theorem dX12_findGains_56 : decode cX12_findGains 56 = .ok (.iinc 2 1, 3) := by decide +kernel
theorem dX12_findGains_59 : decode cX12_findGains 59 = .ok (.goto (-53), 3) := by decide +kernel
theorem dX12_findGains_62 : decode cX12_findGains 62 = .ok (.return_, 1) := by decide +kernel
theorem dX12_findBest_0 : decode cX12_findBest 0 = .ok (.aload_n 0, 1) := by decide +kernel
theorem dX12_findBest_1 : decode cX12_findBest 1 = .ok (.iconst (-1), 1) := by decide +kernel
theorem dX12_findBest_2 : decode cX12_findBest 2 = .ok (.putfield 297, 3) := by decide +kernel
theorem dX12_findBest_5 : decode cX12_findBest 5 = .ok (.aload_n 0, 1) := by decide +kernel
theorem dX12_findBest_6 : decode cX12_findBest 6 = .ok (.iconst 0, 1) := by decide +kernel
theorem dX12_findBest_7 : decode cX12_findBest 7 = .ok (.putfield 300, 3) := by decide +kernel
theorem dX12_findBest_10 : decode cX12_findBest 10 = .ok (.iconst 0, 1) := by decide +kernel
theorem dX12_findBest_11 : decode cX12_findBest 11 = .ok (.istore_n 1, 1) := by decide +kernel
theorem dX12_findBest_12 : decode cX12_findBest 12 = .ok (.iload_n 1, 1) := by decide +kernel
theorem dX12_findBest_13 : decode cX12_findBest 13 = .ok (.aload_n 0, 1) := by decide +kernel
theorem dX12_findBest_14 : decode cX12_findBest 14 = .ok (.getfield 263, 3) := by decide +kernel
theorem dX12_findBest_17 : decode cX12_findBest 17 = .ok (.if_icmp .ge 78, 3) := by decide +kernel
theorem dX12_findBest_20 : decode cX12_findBest 20 = .ok (.iconst 0, 1) := by decide +kernel
theorem dX12_findBest_21 : decode cX12_findBest 21 = .ok (.istore_n 2, 1) := by decide +kernel
theorem dX12_findBest_22 : decode cX12_findBest 22 = .ok (.iconst 0, 1) := by decide +kernel
theorem dX12_findBest_23 : decode cX12_findBest 23 = .ok (.istore_n 3, 1) := by decide +kernel
theorem dX12_findBest_24 : decode cX12_findBest 24 = .ok (.iload_n 3, 1) := by decide +kernel
theorem dX12_findBest_25 : decode cX12_findBest 25 = .ok (.aload_n 0, 1) := by decide +kernel
theorem dX12_findBest_26 : decode cX12_findBest 26 = .ok (.getfield 137, 3) := by decide +kernel
theorem dX12_findBest_29 : decode cX12_findBest 29 = .ok (.if_icmp .ge 32, 3) := by decide +kernel
theorem dX12_findBest_32 : decode cX12_findBest 32 = .ok (.iload_n 2, 1) := by decide +kernel
theorem dX12_findBest_33 : decode cX12_findBest 33 = .ok (.aload_n 0, 1) := by decide +kernel
theorem dX12_findBest_34 : decode cX12_findBest 34 = .ok (.getfield 84, 3) := by decide +kernel
theorem dX12_findBest_37 : decode cX12_findBest 37 = .ok (.bipush 10, 2) := by decide +kernel
theorem dX12_findBest_39 : decode cX12_findBest 39 = .ok (.iload_n 3, 1) := by decide +kernel
theorem dX12_findBest_40 : decode cX12_findBest 40 = .ok (.imul, 1) := by decide +kernel
theorem dX12_findBest_41 : decode cX12_findBest 41 = .ok (.aload_n 0, 1) := by decide +kernel
theorem dX12_findBest_42 : decode cX12_findBest 42 = .ok (.getfield 78, 3) := by decide +kernel
theorem dX12_findBest_45 : decode cX12_findBest 45 = .ok (.iconst 5, 1) := by decide +kernel
theorem dX12_findBest_46 : decode cX12_findBest 46 = .ok (.iload_n 1, 1) := by decide +kernel
theorem dX12_findBest_47 : decode cX12_findBest 47 = .ok (.imul, 1) := by decide +kernel
theorem dX12_findBest_48 : decode cX12_findBest 48 = .ok (.iload_n 3, 1) := by decide +kernel
theorem dX12_findBest_49 : decode cX12_findBest 49 = .ok (.iadd, 1) := by decide +kernel
theorem dX12_findBest_50 : decode cX12_findBest 50 = .ok (.baload, 1) := by decide +kernel
theorem dX12_findBest_51 : decode cX12_findBest 51 = .ok (.iadd, 1) := by decide +kernel
theorem dX12_findBest_52 : decode cX12_findBest 52 = .ok (.iaload, 1) := by decide +kernel
theorem dX12_findBest_53 : decode cX12_findBest 53 = .ok (.iadd, 1) := by decide +kernel
theorem dX12_findBest_54 : decode cX12_findBest 54 = .ok (.istore_n 2, 1) := by decide +kernel
theorem dX12_findBest_55 : decode cX12_findBest 55 = .ok (.iinc 3 1, 3) := by decide +kernel
theorem dX12_findBest_58 : decode cX12_findBest 58 = .ok (.goto (-34), 3) := by decide +kernel
theorem dX12_findBest_61 : decode cX12_findBest 61 = .ok (.aload_n 0, 1) := by decide +kernel
theorem dX12_findBest_62 : decode cX12_findBest 62 = .ok (.getfield 297, 3) := by decide +kernel
theorem dX12_findBest_65 : decode cX12_findBest 65 = .ok (.ifCond .lt 14, 3) := by decide +kernel
theorem dX12_findBest_68 : decode cX12_findBest 68 = .ok (.iload_n 2, 1) := by decide +kernel
theorem dX12_findBest_69 : decode cX12_findBest 69 = .ok (.aload_n 0, 1) := by decide +kernel
theorem dX12_findBest_70 : decode cX12_findBest 70 = .ok (.getfield 300, 3) := by decide +kernel
theorem dX12_findBest_73 : decode cX12_findBest 73 = .ok (.if_icmp .gt 6, 3) := by decide +kernel
theorem dX12_findBest_76 : decode cX12_findBest 76 = .ok (.goto 13, 3) := by decide +kernel
theorem dX12_findBest_79 : decode cX12_findBest 79 = .ok (.aload_n 0, 1) := by decide +kernel
theorem dX12_findBest_80 : decode cX12_findBest 80 = .ok (.iload_n 1, 1) := by decide +kernel
theorem dX12_findBest_81 : decode cX12_findBest 81 = .ok (.putfield 297, 3) := by decide +kernel
theorem dX12_findBest_84 : decode cX12_findBest 84 = .ok (.aload_n 0, 1) := by decide +kernel
theorem dX12_findBest_85 : decode cX12_findBest 85 = .ok (.iload_n 2, 1) := by decide +kernel
theorem dX12_findBest_86 : decode cX12_findBest 86 = .ok (.putfield 300, 3) := by decide +kernel
theorem dX12_findBest_89 : decode cX12_findBest 89 = .ok (.iinc 1 1, 3) := by decide +kernel
theorem dX12_findBest_92 : decode cX12_findBest 92 = .ok (.goto (-80), 3) := by decide +kernel
theorem dX12_findBest_95 : decode cX12_findBest 95 = .ok (.return_, 1) := by decide +kernel
theorem dX12_common_0 : decode cX12_common 0 = .ok (.lload_n 0, 1) := by decide +kernel
theorem dX12_common_1 : decode cX12_common 1 = .ok (.lconst 0, 1) := by decide +kernel
theorem dX12_common_2 : decode cX12_common 2 = .ok (.lcmp, 1) := by decide +kernel
theorem dX12_common_3 : decode cX12_common 3 = .ok (.ifCond .ge 8, 3) := by decide +kernel
theorem dX12_common_6 : decode cX12_common 6 = .ok (.lload_n 0, 1) := by decide +kernel
theorem dX12_common_7 : decode cX12_common 7 = .ok (.lneg, 1) := by decide +kernel
theorem dX12_common_8 : decode cX12_common 8 = .ok (.goto 4, 3) := by decide +kernel
theorem dX12_common_11 : decode cX12_common 11 = .ok (.lload_n 0, 1) := by decide +kernel
theorem dX12_common_12 : decode cX12_common 12 = .ok (.lstore 4, 2) := by decide +kernel
theorem dX12_common_14 : decode cX12_common 14 = .ok (.lload_n 2, 1) := by decide +kernel
theorem dX12_common_15 : decode cX12_common 15 = .ok (.lstore 6, 2) := by decide +kernel
theorem dX12_common_17 : decode cX12_common 17 = .ok (.lload 6, 2) := by decide +kernel
theorem dX12_common_19 : decode cX12_common 19 = .ok (.lconst 0, 1) := by decide +kernel
theorem dX12_common_20 : decode cX12_common 20 = .ok (.lcmp, 1) := by decide +kernel
theorem dX12_common_21 : decode cX12_common 21 = .ok (.ifCond .eq 21, 3) := by decide +kernel
theorem dX12_common_24 : decode cX12_common 24 = .ok (.lload 4, 2) := by decide +kernel
theorem dX12_common_26 : decode cX12_common 26 = .ok (.lload 6, 2) := by decide +kernel
theorem dX12_common_28 : decode cX12_common 28 = .ok (.lrem, 1) := by decide +kernel
theorem dX12_common_29 : decode cX12_common 29 = .ok (.lstore 8, 2) := by decide +kernel
theorem dX12_common_31 : decode cX12_common 31 = .ok (.lload 6, 2) := by decide +kernel
theorem dX12_common_33 : decode cX12_common 33 = .ok (.lstore 4, 2) := by decide +kernel
theorem dX12_common_35 : decode cX12_common 35 = .ok (.lload 8, 2) := by decide +kernel
theorem dX12_common_37 : decode cX12_common 37 = .ok (.lstore 6, 2) := by decide +kernel
theorem dX12_common_39 : decode cX12_common 39 = .ok (.goto (-22), 3) := by decide +kernel
theorem dX12_common_42 : decode cX12_common 42 = .ok (.lload 4, 2) := by decide +kernel
theorem dX12_common_44 : decode cX12_common 44 = .ok (.lreturn, 1) := by decide +kernel
theorem dX12_part_0 : decode cX12_part 0 = .ok (.lload_n 0, 1) := by decide +kernel
theorem dX12_part_1 : decode cX12_part 1 = .ok (.lload_n 2, 1) := by decide +kernel
theorem dX12_part_2 : decode cX12_part 2 = .ok (.invokestatic 303, 3) := by decide +kernel
theorem dX12_part_5 : decode cX12_part 5 = .ok (.lstore 5, 2) := by decide +kernel
theorem dX12_part_7 : decode cX12_part 7 = .ok (.iload 4, 2) := by decide +kernel
theorem dX12_part_9 : decode cX12_part 9 = .ok (.ifCond .ne 10, 3) := by decide +kernel
theorem dX12_part_12 : decode cX12_part 12 = .ok (.lload_n 0, 1) := by decide +kernel
theorem dX12_part_13 : decode cX12_part 13 = .ok (.lload 5, 2) := by decide +kernel
theorem dX12_part_15 : decode cX12_part 15 = .ok (.ldiv, 1) := by decide +kernel
theorem dX12_part_16 : decode cX12_part 16 = .ok (.goto 7, 3) := by decide +kernel
theorem dX12_part_19 : decode cX12_part 19 = .ok (.lload_n 2, 1) := by decide +kernel
theorem dX12_part_20 : decode cX12_part 20 = .ok (.lload 5, 2) := by decide +kernel
theorem dX12_part_22 : decode cX12_part 22 = .ok (.ldiv, 1) := by decide +kernel
theorem dX12_part_23 : decode cX12_part 23 = .ok (.lreturn, 1) := by decide +kernel
theorem dX12_mean_0 : decode cX12_mean 0 = .ok (.iload_n 1, 1) := by decide +kernel
theorem dX12_mean_1 : decode cX12_mean 1 = .ok (.iconst 0, 1) := by decide +kernel
theorem dX12_mean_2 : decode cX12_mean 2 = .ok (.iconst 1, 1) := by decide +kernel
theorem dX12_mean_3 : decode cX12_mean 3 = .ok (.invokestatic 140, 3) := by decide +kernel
theorem dX12_mean_6 : decode cX12_mean 6 = .ok (.ifCond .eq 12, 3) := by decide +kernel
theorem dX12_mean_9 : decode cX12_mean 9 = .ok (.aload_n 0, 1) := by decide +kernel
theorem dX12_mean_10 : decode cX12_mean 10 = .ok (.iconst 0, 1) := by decide +kernel
theorem dX12_mean_11 : decode cX12_mean 11 = .ok (.iload_n 1, 1) := by decide +kernel
theorem dX12_mean_12 : decode cX12_mean 12 = .ok (.invokevirtual 307, 3) := by decide +kernel
theorem dX12_mean_15 : decode cX12_mean 15 = .ok (.goto 6, 3) := by decide +kernel
theorem dX12_mean_18 : decode cX12_mean 18 = .ok (.ldc2_w 313, 3) := by decide +kernel
theorem dX12_mean_21 : decode cX12_mean 21 = .ok (.lreturn, 1) := by decide +kernel
theorem dX12_meanBroken_0 : decode cX12_meanBroken 0 = .ok (.aload_n 0, 1) := by decide +kernel
theorem dX12_meanBroken_1 : decode cX12_meanBroken 1 = .ok (.invokevirtual 257, 3) := by decide +kernel
theorem dX12_meanBroken_4 : decode cX12_meanBroken 4 = .ok (.lconst 0, 1) := by decide +kernel
theorem dX12_meanBroken_5 : decode cX12_meanBroken 5 = .ok (.lstore_n 3, 1) := by decide +kernel
theorem dX12_meanBroken_6 : decode cX12_meanBroken 6 = .ok (.iconst 0, 1) := by decide +kernel
theorem dX12_meanBroken_7 : decode cX12_meanBroken 7 = .ok (.istore 5, 2) := by decide +kernel
theorem dX12_meanBroken_9 : decode cX12_meanBroken 9 = .ok (.iload 5, 2) := by decide +kernel
theorem dX12_meanBroken_11 : decode cX12_meanBroken 11 = .ok (.aload_n 0, 1) := by decide +kernel
theorem dX12_meanBroken_12 : decode cX12_meanBroken 12 = .ok (.iconst 0, 1) := by decide +kernel
theorem dX12_meanBroken_13 : decode cX12_meanBroken 13 = .ok (.invokevirtual 284, 3) := by decide +kernel
theorem dX12_meanBroken_16 : decode cX12_meanBroken 16 = .ok (.if_icmp .ge 118, 3) := by decide +kernel
theorem dX12_meanBroken_19 : decode cX12_meanBroken 19 = .ok (.iconst 0, 1) := by decide +kernel
theorem dX12_meanBroken_20 : decode cX12_meanBroken 20 = .ok (.istore 6, 2) := by decide +kernel
theorem dX12_meanBroken_22 : decode cX12_meanBroken 22 = .ok (.iload 6, 2) := by decide +kernel
theorem dX12_meanBroken_24 : decode cX12_meanBroken 24 = .ok (.aload_n 0, 1) := by decide +kernel
theorem dX12_meanBroken_25 : decode cX12_meanBroken 25 = .ok (.iconst 1, 1) := by decide +kernel
theorem dX12_meanBroken_26 : decode cX12_meanBroken 26 = .ok (.invokevirtual 284, 3) := by decide +kernel
theorem dX12_meanBroken_29 : decode cX12_meanBroken 29 = .ok (.if_icmp .ge 99, 3) := by decide +kernel
theorem dX12_meanBroken_32 : decode cX12_meanBroken 32 = .ok (.aload_n 0, 1) := by decide +kernel
theorem dX12_meanBroken_33 : decode cX12_meanBroken 33 = .ok (.iconst 0, 1) := by decide +kernel
theorem dX12_meanBroken_34 : decode cX12_meanBroken 34 = .ok (.iload 5, 2) := by decide +kernel
theorem dX12_meanBroken_36 : decode cX12_meanBroken 36 = .ok (.invokevirtual 290, 3) := by decide +kernel
theorem dX12_meanBroken_39 : decode cX12_meanBroken 39 = .ok (.aload_n 0, 1) := by decide +kernel
theorem dX12_meanBroken_40 : decode cX12_meanBroken 40 = .ok (.iconst 1, 1) := by decide +kernel
theorem dX12_meanBroken_41 : decode cX12_meanBroken 41 = .ok (.iload 6, 2) := by decide +kernel
theorem dX12_meanBroken_43 : decode cX12_meanBroken 43 = .ok (.invokevirtual 290, 3) := by decide +kernel
theorem dX12_meanBroken_46 : decode cX12_meanBroken 46 = .ok (.imul, 1) := by decide +kernel
theorem dX12_meanBroken_47 : decode cX12_meanBroken 47 = .ok (.istore 7, 2) := by decide +kernel
theorem dX12_meanBroken_49 : decode cX12_meanBroken 49 = .ok (.iconst 0, 1) := by decide +kernel
theorem dX12_meanBroken_50 : decode cX12_meanBroken 50 = .ok (.istore 8, 2) := by decide +kernel
theorem dX12_meanBroken_52 : decode cX12_meanBroken 52 = .ok (.iload 8, 2) := by decide +kernel
theorem dX12_meanBroken_54 : decode cX12_meanBroken 54 = .ok (.aload_n 0, 1) := by decide +kernel
theorem dX12_meanBroken_55 : decode cX12_meanBroken 55 = .ok (.getfield 137, 3) := by decide +kernel
theorem dX12_meanBroken_58 : decode cX12_meanBroken 58 = .ok (.if_icmp .ge 64, 3) := by decide +kernel
theorem dX12_meanBroken_61 : decode cX12_meanBroken 61 = .ok (.lload_n 3, 1) := by decide +kernel
theorem dX12_meanBroken_62 : decode cX12_meanBroken 62 = .ok (.iload 7, 2) := by decide +kernel
theorem dX12_meanBroken_64 : decode cX12_meanBroken 64 = .ok (.bipush 12, 2) := by decide +kernel
theorem dX12_meanBroken_66 : decode cX12_meanBroken 66 = .ok (.iload_n 1, 1) := by decide +kernel
theorem dX12_meanBroken_67 : decode cX12_meanBroken 67 = .ok (.isub, 1) := by decide +kernel
theorem dX12_meanBroken_68 : decode cX12_meanBroken 68 = .ok (.aload_n 0, 1) := by decide +kernel
theorem dX12_meanBroken_69 : decode cX12_meanBroken 69 = .ok (.iload 8, 2) := by decide +kernel
theorem dX12_meanBroken_71 : decode cX12_meanBroken 71 = .ok (.aload_n 0, 1) := by decide +kernel
theorem dX12_meanBroken_72 : decode cX12_meanBroken 72 = .ok (.iconst 0, 1) := by decide +kernel
theorem dX12_meanBroken_73 : decode cX12_meanBroken 73 = .ok (.iload 5, 2) := by decide +kernel
theorem dX12_meanBroken_75 : decode cX12_meanBroken 75 = .ok (.iload 8, 2) := by decide +kernel
theorem dX12_meanBroken_77 : decode cX12_meanBroken 77 = .ok (.invokevirtual 287, 3) := by decide +kernel
theorem dX12_meanBroken_80 : decode cX12_meanBroken 80 = .ok (.aload_n 0, 1) := by decide +kernel
theorem dX12_meanBroken_81 : decode cX12_meanBroken 81 = .ok (.iconst 1, 1) := by decide +kernel
theorem dX12_meanBroken_82 : decode cX12_meanBroken 82 = .ok (.iload 6, 2) := by decide +kernel
theorem dX12_meanBroken_84 : decode cX12_meanBroken 84 = .ok (.iload 8, 2) := by decide +kernel
theorem dX12_meanBroken_86 : decode cX12_meanBroken 86 = .ok (.invokevirtual 287, 3) := by decide +kernel
theorem dX12_meanBroken_89 : decode cX12_meanBroken 89 = .ok (.invokevirtual 260, 3) := by decide +kernel
theorem dX12_meanBroken_92 : decode cX12_meanBroken 92 = .ok (.imul, 1) := by decide +kernel
theorem dX12_meanBroken_93 : decode cX12_meanBroken 93 = .ok (.iload_n 1, 1) := by decide +kernel
theorem dX12_meanBroken_94 : decode cX12_meanBroken 94 = .ok (.aload_n 0, 1) := by decide +kernel
theorem dX12_meanBroken_95 : decode cX12_meanBroken 95 = .ok (.iload 8, 2) := by decide +kernel
theorem dX12_meanBroken_97 : decode cX12_meanBroken 97 = .ok (.iconst 0, 1) := by decide +kernel
theorem dX12_meanBroken_98 : decode cX12_meanBroken 98 = .ok (.aload_n 0, 1) := by decide +kernel
theorem dX12_meanBroken_99 : decode cX12_meanBroken 99 = .ok (.iconst 1, 1) := by decide +kernel
theorem dX12_meanBroken_100 : decode cX12_meanBroken 100 = .ok (.iload 6, 2) := by decide +kernel
theorem dX12_meanBroken_102 : decode cX12_meanBroken 102 = .ok (.iload 8, 2) := by decide +kernel
theorem dX12_meanBroken_104 : decode cX12_meanBroken 104 = .ok (.invokevirtual 287, 3) := by decide +kernel
theorem dX12_meanBroken_107 : decode cX12_meanBroken 107 = .ok (.invokevirtual 260, 3) := by decide +kernel
theorem dX12_meanBroken_110 : decode cX12_meanBroken 110 = .ok (.imul, 1) := by decide +kernel
theorem dX12_meanBroken_111 : decode cX12_meanBroken 111 = .ok (.iadd, 1) := by decide +kernel
theorem dX12_meanBroken_112 : decode cX12_meanBroken 112 = .ok (.imul, 1) := by decide +kernel
theorem dX12_meanBroken_113 : decode cX12_meanBroken 113 = .ok (.i2l, 1) := by decide +kernel
theorem dX12_meanBroken_114 : decode cX12_meanBroken 114 = .ok (.ladd, 1) := by decide +kernel
theorem dX12_meanBroken_115 : decode cX12_meanBroken 115 = .ok (.lstore_n 3, 1) := by decide +kernel
theorem dX12_meanBroken_116 : decode cX12_meanBroken 116 = .ok (.iinc 8 1, 3) := by decide +kernel
theorem dX12_meanBroken_119 : decode cX12_meanBroken 119 = .ok (.goto (-67), 3) := by decide +kernel
theorem dX12_meanBroken_122 : decode cX12_meanBroken 122 = .ok (.iinc 6 1, 3) := by decide +kernel
theorem dX12_meanBroken_125 : decode cX12_meanBroken 125 = .ok (.goto (-103), 3) := by decide +kernel
theorem dX12_meanBroken_128 : decode cX12_meanBroken 128 = .ok (.iinc 5 1, 3) := by decide +kernel
theorem dX12_meanBroken_131 : decode cX12_meanBroken 131 = .ok (.goto (-122), 3) := by decide +kernel
theorem dX12_meanBroken_134 : decode cX12_meanBroken 134 = .ok (.lload_n 3, 1) := by decide +kernel
theorem dX12_meanBroken_135 : decode cX12_meanBroken 135 = .ok (.bipush 12, 2) := by decide +kernel
theorem dX12_meanBroken_137 : decode cX12_meanBroken 137 = .ok (.aload_n 0, 1) := by decide +kernel
theorem dX12_meanBroken_138 : decode cX12_meanBroken 138 = .ok (.iconst 0, 1) := by decide +kernel
theorem dX12_meanBroken_139 : decode cX12_meanBroken 139 = .ok (.iconst 1, 1) := by decide +kernel
theorem dX12_meanBroken_140 : decode cX12_meanBroken 140 = .ok (.invokevirtual 274, 3) := by decide +kernel
theorem dX12_meanBroken_143 : decode cX12_meanBroken 143 = .ok (.imul, 1) := by decide +kernel
theorem dX12_meanBroken_144 : decode cX12_meanBroken 144 = .ok (.aload_n 0, 1) := by decide +kernel
theorem dX12_meanBroken_145 : decode cX12_meanBroken 145 = .ok (.iconst 1, 1) := by decide +kernel
theorem dX12_meanBroken_146 : decode cX12_meanBroken 146 = .ok (.iconst 1, 1) := by decide +kernel
theorem dX12_meanBroken_147 : decode cX12_meanBroken 147 = .ok (.invokevirtual 274, 3) := by decide +kernel
theorem dX12_meanBroken_150 : decode cX12_meanBroken 150 = .ok (.imul, 1) := by decide +kernel
theorem dX12_meanBroken_151 : decode cX12_meanBroken 151 = .ok (.i2l, 1) := by decide +kernel
theorem dX12_meanBroken_152 : decode cX12_meanBroken 152 = .ok (.iload_n 2, 1) := by decide +kernel
theorem dX12_meanBroken_153 : decode cX12_meanBroken 153 = .ok (.invokestatic 315, 3) := by decide +kernel
theorem dX12_meanBroken_156 : decode cX12_meanBroken 156 = .ok (.lreturn, 1) := by decide +kernel
theorem dX12_broke_0 : decode cX12_broke 0 = .ok (.iload_n 1, 1) := by decide +kernel
theorem dX12_broke_1 : decode cX12_broke 1 = .ok (.iconst 0, 1) := by decide +kernel
theorem dX12_broke_2 : decode cX12_broke 2 = .ok (.bipush 12, 2) := by decide +kernel
theorem dX12_broke_4 : decode cX12_broke 4 = .ok (.invokestatic 140, 3) := by decide +kernel
theorem dX12_broke_7 : decode cX12_broke 7 = .ok (.ifCond .eq 21, 3) := by decide +kernel
theorem dX12_broke_10 : decode cX12_broke 10 = .ok (.iload_n 2, 1) := by decide +kernel
theorem dX12_broke_11 : decode cX12_broke 11 = .ok (.iconst 0, 1) := by decide +kernel
theorem dX12_broke_12 : decode cX12_broke 12 = .ok (.iconst 1, 1) := by decide +kernel
theorem dX12_broke_13 : decode cX12_broke 13 = .ok (.invokestatic 140, 3) := by decide +kernel
theorem dX12_broke_16 : decode cX12_broke 16 = .ok (.ifCond .eq 12, 3) := by decide +kernel
theorem dX12_broke_19 : decode cX12_broke 19 = .ok (.aload_n 0, 1) := by decide +kernel
theorem dX12_broke_20 : decode cX12_broke 20 = .ok (.iload_n 1, 1) := by decide +kernel
theorem dX12_broke_21 : decode cX12_broke 21 = .ok (.iload_n 2, 1) := by decide +kernel
theorem dX12_broke_22 : decode cX12_broke 22 = .ok (.invokevirtual 307, 3) := by decide +kernel
theorem dX12_broke_25 : decode cX12_broke 25 = .ok (.goto 6, 3) := by decide +kernel
theorem dX12_broke_28 : decode cX12_broke 28 = .ok (.ldc2_w 313, 3) := by decide +kernel
theorem dX12_broke_31 : decode cX12_broke 31 = .ok (.lreturn, 1) := by decide +kernel
theorem dX12_best_0 : decode cX12_best 0 = .ok (.iload_n 1, 1) := by decide +kernel
theorem dX12_best_1 : decode cX12_best 1 = .ok (.invokestatic 158, 3) := by decide +kernel
theorem dX12_best_4 : decode cX12_best 4 = .ok (.ifCond .ne 5, 3) := by decide +kernel
theorem dX12_best_7 : decode cX12_best 7 = .ok (.iconst (-1), 1) := by decide +kernel
theorem dX12_best_8 : decode cX12_best 8 = .ok (.ireturn, 1) := by decide +kernel
theorem dX12_best_9 : decode cX12_best 9 = .ok (.aload_n 0, 1) := by decide +kernel
theorem dX12_best_10 : decode cX12_best 10 = .ok (.invokevirtual 257, 3) := by decide +kernel
theorem dX12_best_13 : decode cX12_best 13 = .ok (.aload_n 0, 1) := by decide +kernel
theorem dX12_best_14 : decode cX12_best 14 = .ok (.iload_n 1, 1) := by decide +kernel
theorem dX12_best_15 : decode cX12_best 15 = .ok (.invokevirtual 319, 3) := by decide +kernel
theorem dX12_best_18 : decode cX12_best 18 = .ok (.aload_n 0, 1) := by decide +kernel
theorem dX12_best_19 : decode cX12_best 19 = .ok (.aload_n 0, 1) := by decide +kernel
theorem dX12_best_20 : decode cX12_best 20 = .ok (.getfield 19, 3) := by decide +kernel
theorem dX12_best_23 : decode cX12_best 23 = .ok (.iload_n 1, 1) := by decide +kernel
theorem dX12_best_24 : decode cX12_best 24 = .ok (.iaload, 1) := by decide +kernel
theorem dX12_best_25 : decode cX12_best 25 = .ok (.iconst 0, 1) := by decide +kernel
theorem dX12_best_26 : decode cX12_best 26 = .ok (.invokevirtual 270, 3) := by decide +kernel
theorem dX12_best_29 : decode cX12_best 29 = .ok (.aload_n 0, 1) := by decide +kernel
theorem dX12_best_30 : decode cX12_best 30 = .ok (.invokevirtual 323, 3) := by decide +kernel
theorem dX12_best_33 : decode cX12_best 33 = .ok (.aload_n 0, 1) := by decide +kernel
theorem dX12_best_34 : decode cX12_best 34 = .ok (.aload_n 0, 1) := by decide +kernel
theorem dX12_best_35 : decode cX12_best 35 = .ok (.getfield 297, 3) := by decide +kernel
theorem dX12_best_38 : decode cX12_best 38 = .ok (.invokevirtual 326, 3) := by decide +kernel
theorem dX12_best_41 : decode cX12_best 41 = .ok (.ireturn, 1) := by decide +kernel
theorem dX12_line_0 : decode cX12_line 0 = .ok (.iload_n 1, 1) := by decide +kernel
theorem dX12_line_1 : decode cX12_line 1 = .ok (.invokestatic 158, 3) := by decide +kernel
theorem dX12_line_4 : decode cX12_line 4 = .ok (.ifCond .eq 22, 3) := by decide +kernel
theorem dX12_line_7 : decode cX12_line 7 = .ok (.iload_n 2, 1) := by decide +kernel
theorem dX12_line_8 : decode cX12_line 8 = .ok (.iconst (-1), 1) := by decide +kernel
theorem dX12_line_9 : decode cX12_line 9 = .ok (.bipush 9, 2) := by decide +kernel
theorem dX12_line_11 : decode cX12_line 11 = .ok (.invokestatic 140, 3) := by decide +kernel
theorem dX12_line_14 : decode cX12_line 14 = .ok (.ifCond .eq 12, 3) := by decide +kernel
theorem dX12_line_17 : decode cX12_line 17 = .ok (.iload_n 3, 1) := by decide +kernel
theorem dX12_line_18 : decode cX12_line 18 = .ok (.iconst 0, 1) := by decide +kernel
theorem dX12_line_19 : decode cX12_line 19 = .ok (.iconst 1, 1) := by decide +kernel
theorem dX12_line_20 : decode cX12_line 20 = .ok (.invokestatic 140, 3) := by decide +kernel
theorem dX12_line_23 : decode cX12_line 23 = .ok (.ifCond .ne 7, 3) := by decide +kernel
theorem dX12_line_26 : decode cX12_line 26 = .ok (.ldc2_w 313, 3) := by decide +kernel
theorem dX12_line_29 : decode cX12_line 29 = .ok (.lreturn, 1) := by decide +kernel
theorem dX12_line_30 : decode cX12_line 30 = .ok (.aload_n 0, 1) := by decide +kernel
theorem dX12_line_31 : decode cX12_line 31 = .ok (.invokevirtual 257, 3) := by decide +kernel
theorem dX12_line_34 : decode cX12_line 34 = .ok (.aload_n 0, 1) := by decide +kernel
theorem dX12_line_35 : decode cX12_line 35 = .ok (.iload_n 1, 1) := by decide +kernel
theorem dX12_line_36 : decode cX12_line 36 = .ok (.invokevirtual 319, 3) := by decide +kernel
theorem dX12_line_39 : decode cX12_line 39 = .ok (.aload_n 0, 1) := by decide +kernel
theorem dX12_line_40 : decode cX12_line 40 = .ok (.iload_n 2, 1) := by decide +kernel
theorem dX12_line_41 : decode cX12_line 41 = .ok (.ifCond .ge 12, 3) := by decide +kernel
theorem dX12_line_44 : decode cX12_line 44 = .ok (.aload_n 0, 1) := by decide +kernel
theorem dX12_line_45 : decode cX12_line 45 = .ok (.getfield 19, 3) := by decide +kernel
theorem dX12_line_48 : decode cX12_line 48 = .ok (.iload_n 1, 1) := by decide +kernel
theorem dX12_line_49 : decode cX12_line 49 = .ok (.iaload, 1) := by decide +kernel
theorem dX12_line_50 : decode cX12_line 50 = .ok (.goto 4, 3) := by decide +kernel
theorem dX12_line_53 : decode cX12_line 53 = .ok (.iload_n 2, 1) := by decide +kernel
theorem dX12_line_54 : decode cX12_line 54 = .ok (.iconst 0, 1) := by decide +kernel
theorem dX12_line_55 : decode cX12_line 55 = .ok (.invokevirtual 270, 3) := by decide +kernel
theorem dX12_line_58 : decode cX12_line 58 = .ok (.aload_n 0, 1) := by decide +kernel
theorem dX12_line_59 : decode cX12_line 59 = .ok (.invokevirtual 323, 3) := by decide +kernel
theorem dX12_line_62 : decode cX12_line 62 = .ok (.aload_n 0, 1) := by decide +kernel
theorem dX12_line_63 : decode cX12_line 63 = .ok (.getfield 300, 3) := by decide +kernel
theorem dX12_line_66 : decode cX12_line 66 = .ok (.i2l, 1) := by decide +kernel
theorem dX12_line_67 : decode cX12_line 67 = .ok (.aload_n 0, 1) := by decide +kernel
theorem dX12_line_68 : decode cX12_line 68 = .ok (.iconst 1, 1) := by decide +kernel
theorem dX12_line_69 : decode cX12_line 69 = .ok (.iload_n 1, 1) := by decide +kernel
theorem dX12_line_70 : decode cX12_line 70 = .ok (.isub, 1) := by decide +kernel
theorem dX12_line_71 : decode cX12_line 71 = .ok (.iconst 1, 1) := by decide +kernel
theorem dX12_line_72 : decode cX12_line 72 = .ok (.invokevirtual 274, 3) := by decide +kernel
theorem dX12_line_75 : decode cX12_line 75 = .ok (.i2l, 1) := by decide +kernel
theorem dX12_line_76 : decode cX12_line 76 = .ok (.iload_n 3, 1) := by decide +kernel
theorem dX12_line_77 : decode cX12_line 77 = .ok (.invokestatic 315, 3) := by decide +kernel
theorem dX12_line_80 : decode cX12_line 80 = .ok (.lreturn, 1) := by decide +kernel
theorem dX12_spy_0 : decode cX12_spy 0 = .ok (.aload_n 0, 1) := by decide +kernel
theorem dX12_spy_1 : decode cX12_spy 1 = .ok (.iload_n 1, 1) := by decide +kernel
theorem dX12_spy_2 : decode cX12_spy 2 = .ok (.invokevirtual 166, 3) := by decide +kernel
theorem dX12_spy_5 : decode cX12_spy 5 = .ok (.ifCond .eq 12, 3) := by decide +kernel
theorem dX12_spy_8 : decode cX12_spy 8 = .ok (.iload_n 2, 1) := by decide +kernel
theorem dX12_spy_9 : decode cX12_spy 9 = .ok (.iconst 0, 1) := by decide +kernel
theorem dX12_spy_10 : decode cX12_spy 10 = .ok (.iconst 1, 1) := by decide +kernel
theorem dX12_spy_11 : decode cX12_spy 11 = .ok (.invokestatic 140, 3) := by decide +kernel
theorem dX12_spy_14 : decode cX12_spy 14 = .ok (.ifCond .ne 7, 3) := by decide +kernel
theorem dX12_spy_17 : decode cX12_spy 17 = .ok (.ldc2_w 313, 3) := by decide +kernel
theorem dX12_spy_20 : decode cX12_spy 20 = .ok (.lreturn, 1) := by decide +kernel
theorem dX12_spy_21 : decode cX12_spy 21 = .ok (.aload_n 0, 1) := by decide +kernel
theorem dX12_spy_22 : decode cX12_spy 22 = .ok (.invokevirtual 257, 3) := by decide +kernel
theorem dX12_spy_25 : decode cX12_spy 25 = .ok (.aload_n 0, 1) := by decide +kernel
theorem dX12_spy_26 : decode cX12_spy 26 = .ok (.aload_n 0, 1) := by decide +kernel
theorem dX12_spy_27 : decode cX12_spy 27 = .ok (.getfield 19, 3) := by decide +kernel
theorem dX12_spy_30 : decode cX12_spy 30 = .ok (.iconst 0, 1) := by decide +kernel
theorem dX12_spy_31 : decode cX12_spy 31 = .ok (.iaload, 1) := by decide +kernel
theorem dX12_spy_32 : decode cX12_spy 32 = .ok (.iconst 0, 1) := by decide +kernel
theorem dX12_spy_33 : decode cX12_spy 33 = .ok (.invokevirtual 270, 3) := by decide +kernel
theorem dX12_spy_36 : decode cX12_spy 36 = .ok (.aload_n 0, 1) := by decide +kernel
theorem dX12_spy_37 : decode cX12_spy 37 = .ok (.iconst 0, 1) := by decide +kernel
theorem dX12_spy_38 : decode cX12_spy 38 = .ok (.invokevirtual 319, 3) := by decide +kernel
theorem dX12_spy_41 : decode cX12_spy 41 = .ok (.aload_n 0, 1) := by decide +kernel
theorem dX12_spy_42 : decode cX12_spy 42 = .ok (.invokevirtual 323, 3) := by decide +kernel
theorem dX12_spy_45 : decode cX12_spy 45 = .ok (.aload_n 0, 1) := by decide +kernel
theorem dX12_spy_46 : decode cX12_spy 46 = .ok (.getfield 300, 3) := by decide +kernel
theorem dX12_spy_49 : decode cX12_spy 49 = .ok (.ineg, 1) := by decide +kernel
theorem dX12_spy_50 : decode cX12_spy 50 = .ok (.i2l, 1) := by decide +kernel
theorem dX12_spy_51 : decode cX12_spy 51 = .ok (.lstore_n 3, 1) := by decide +kernel
theorem dX12_spy_52 : decode cX12_spy 52 = .ok (.iconst 0, 1) := by decide +kernel
theorem dX12_spy_53 : decode cX12_spy 53 = .ok (.istore 5, 2) := by decide +kernel
theorem dX12_spy_55 : decode cX12_spy 55 = .ok (.iload 5, 2) := by decide +kernel
theorem dX12_spy_57 : decode cX12_spy 57 = .ok (.bipush 9, 2) := by decide +kernel
theorem dX12_spy_59 : decode cX12_spy 59 = .ok (.if_icmp .gt 115, 3) := by decide +kernel
theorem dX12_spy_62 : decode cX12_spy 62 = .ok (.aload_n 0, 1) := by decide +kernel
theorem dX12_spy_63 : decode cX12_spy 63 = .ok (.invokevirtual 281, 3) := by decide +kernel
theorem dX12_spy_66 : decode cX12_spy 66 = .ok (.iconst 0, 1) := by decide +kernel
theorem dX12_spy_67 : decode cX12_spy 67 = .ok (.istore 6, 2) := by decide +kernel
theorem dX12_spy_69 : decode cX12_spy 69 = .ok (.iconst 0, 1) := by decide +kernel
theorem dX12_spy_70 : decode cX12_spy 70 = .ok (.istore 7, 2) := by decide +kernel
theorem dX12_spy_72 : decode cX12_spy 72 = .ok (.iload 7, 2) := by decide +kernel
theorem dX12_spy_74 : decode cX12_spy 74 = .ok (.aload_n 0, 1) := by decide +kernel
theorem dX12_spy_75 : decode cX12_spy 75 = .ok (.iconst 1, 1) := by decide +kernel
theorem dX12_spy_76 : decode cX12_spy 76 = .ok (.invokevirtual 284, 3) := by decide +kernel
theorem dX12_spy_79 : decode cX12_spy 79 = .ok (.if_icmp .ge 69, 3) := by decide +kernel
theorem dX12_spy_82 : decode cX12_spy 82 = .ok (.aload_n 0, 1) := by decide +kernel
theorem dX12_spy_83 : decode cX12_spy 83 = .ok (.iconst 1, 1) := by decide +kernel
theorem dX12_spy_84 : decode cX12_spy 84 = .ok (.iload 7, 2) := by decide +kernel
theorem dX12_spy_86 : decode cX12_spy 86 = .ok (.iload_n 1, 1) := by decide +kernel
theorem dX12_spy_87 : decode cX12_spy 87 = .ok (.invokevirtual 287, 3) := by decide +kernel
theorem dX12_spy_90 : decode cX12_spy 90 = .ok (.iload 5, 2) := by decide +kernel
theorem dX12_spy_92 : decode cX12_spy 92 = .ok (.if_icmp .eq 6, 3) := by decide +kernel
theorem dX12_spy_95 : decode cX12_spy 95 = .ok (.goto 47, 3) := by decide +kernel
theorem dX12_spy_98 : decode cX12_spy 98 = .ok (.iconst 1, 1) := by decide +kernel
theorem dX12_spy_99 : decode cX12_spy 99 = .ok (.istore 6, 2) := by decide +kernel
theorem dX12_spy_101 : decode cX12_spy 101 = .ok (.iconst 0, 1) := by decide +kernel
theorem dX12_spy_102 : decode cX12_spy 102 = .ok (.istore 8, 2) := by decide +kernel
theorem dX12_spy_104 : decode cX12_spy 104 = .ok (.iload 8, 2) := by decide +kernel
theorem dX12_spy_106 : decode cX12_spy 106 = .ok (.aload_n 0, 1) := by decide +kernel
theorem dX12_spy_107 : decode cX12_spy 107 = .ok (.getfield 137, 3) := by decide +kernel
theorem dX12_spy_110 : decode cX12_spy 110 = .ok (.if_icmp .ge 32, 3) := by decide +kernel
theorem dX12_spy_113 : decode cX12_spy 113 = .ok (.aload_n 0, 1) := by decide +kernel
theorem dX12_spy_114 : decode cX12_spy 114 = .ok (.iconst 0, 1) := by decide +kernel
theorem dX12_spy_115 : decode cX12_spy 115 = .ok (.iload 8, 2) := by decide +kernel
theorem dX12_spy_117 : decode cX12_spy 117 = .ok (.aload_n 0, 1) := by decide +kernel
theorem dX12_spy_118 : decode cX12_spy 118 = .ok (.iconst 1, 1) := by decide +kernel
theorem dX12_spy_119 : decode cX12_spy 119 = .ok (.iload 7, 2) := by decide +kernel
theorem dX12_spy_121 : decode cX12_spy 121 = .ok (.iload 8, 2) := by decide +kernel
theorem dX12_spy_123 : decode cX12_spy 123 = .ok (.invokevirtual 287, 3) := by decide +kernel
theorem dX12_spy_126 : decode cX12_spy 126 = .ok (.aload_n 0, 1) := by decide +kernel
theorem dX12_spy_127 : decode cX12_spy 127 = .ok (.iconst 1, 1) := by decide +kernel
theorem dX12_spy_128 : decode cX12_spy 128 = .ok (.iload 7, 2) := by decide +kernel
theorem dX12_spy_130 : decode cX12_spy 130 = .ok (.invokevirtual 290, 3) := by decide +kernel
theorem dX12_spy_133 : decode cX12_spy 133 = .ok (.invokevirtual 293, 3) := by decide +kernel
theorem dX12_spy_136 : decode cX12_spy 136 = .ok (.iinc 8 1, 3) := by decide +kernel
theorem dX12_spy_139 : decode cX12_spy 139 = .ok (.goto (-35), 3) := by decide +kernel
theorem dX12_spy_142 : decode cX12_spy 142 = .ok (.iinc 7 1, 3) := by decide +kernel
theorem dX12_spy_145 : decode cX12_spy 145 = .ok (.goto (-73), 3) := by decide +kernel
theorem dX12_spy_148 : decode cX12_spy 148 = .ok (.iload 6, 2) := by decide +kernel
theorem dX12_spy_150 : decode cX12_spy 150 = .ok (.ifCond .ne 6, 3) := by decide +kernel
theorem dX12_spy_153 : decode cX12_spy 153 = .ok (.goto 15, 3) := by decide +kernel
theorem dX12_spy_156 : decode cX12_spy 156 = .ok (.aload_n 0, 1) := by decide +kernel
theorem dX12_spy_157 : decode cX12_spy 157 = .ok (.invokevirtual 323, 3) := by decide +kernel
theorem dX12_spy_160 : decode cX12_spy 160 = .ok (.lload_n 3, 1) := by decide +kernel
theorem dX12_spy_161 : decode cX12_spy 161 = .ok (.aload_n 0, 1) := by decide +kernel
theorem dX12_spy_162 : decode cX12_spy 162 = .ok (.getfield 300, 3) := by decide +kernel
theorem dX12_spy_165 : decode cX12_spy 165 = .ok (.i2l, 1) := by decide +kernel
theorem dX12_spy_166 : decode cX12_spy 166 = .ok (.ladd, 1) := by decide +kernel
theorem dX12_spy_167 : decode cX12_spy 167 = .ok (.lstore_n 3, 1) := by decide +kernel
theorem dX12_spy_168 : decode cX12_spy 168 = .ok (.iinc 5 1, 3) := by decide +kernel
theorem dX12_spy_171 : decode cX12_spy 171 = .ok (.goto (-116), 3) := by decide +kernel
theorem dX12_spy_174 : decode cX12_spy 174 = .ok (.lload_n 3, 1) := by decide +kernel
theorem dX12_spy_175 : decode cX12_spy 175 = .ok (.aload_n 0, 1) := by decide +kernel
theorem dX12_spy_176 : decode cX12_spy 176 = .ok (.iconst 1, 1) := by decide +kernel
theorem dX12_spy_177 : decode cX12_spy 177 = .ok (.iconst 1, 1) := by decide +kernel
theorem dX12_spy_178 : decode cX12_spy 178 = .ok (.invokevirtual 274, 3) := by decide +kernel
theorem dX12_spy_181 : decode cX12_spy 181 = .ok (.i2l, 1) := by decide +kernel
theorem dX12_spy_182 : decode cX12_spy 182 = .ok (.iload_n 2, 1) := by decide +kernel
theorem dX12_spy_183 : decode cX12_spy 183 = .ok (.invokestatic 315, 3) := by decide +kernel
theorem dX12_spy_186 : decode cX12_spy 186 = .ok (.lreturn, 1) := by decide +kernel
theorem dX12_findBoth_0 : decode cX12_findBoth 0 = .ok (.aload_n 0, 1) := by decide +kernel
theorem dX12_findBoth_1 : decode cX12_findBoth 1 = .ok (.invokevirtual 257, 3) := by decide +kernel
theorem dX12_findBoth_4 : decode cX12_findBoth 4 = .ok (.aload_n 0, 1) := by decide +kernel
theorem dX12_findBoth_5 : decode cX12_findBoth 5 = .ok (.iconst 1, 1) := by decide +kernel
theorem dX12_findBoth_6 : decode cX12_findBoth 6 = .ok (.invokevirtual 278, 3) := by decide +kernel
theorem dX12_findBoth_9 : decode cX12_findBoth 9 = .ok (.iconst 1, 1) := by decide +kernel
theorem dX12_findBoth_10 : decode cX12_findBoth 10 = .ok (.sipush 300, 3) := by decide +kernel
theorem dX12_findBoth_13 : decode cX12_findBoth 13 = .ok (.invokestatic 140, 3) := by decide +kernel
theorem dX12_findBoth_16 : decode cX12_findBoth 16 = .ok (.ifCond .eq 18, 3) := by decide +kernel
theorem dX12_findBoth_19 : decode cX12_findBoth 19 = .ok (.aload_n 0, 1) := by decide +kernel
theorem dX12_findBoth_20 : decode cX12_findBoth 20 = .ok (.iconst 0, 1) := by decide +kernel
theorem dX12_findBoth_21 : decode cX12_findBoth 21 = .ok (.invokevirtual 278, 3) := by decide +kernel
theorem dX12_findBoth_24 : decode cX12_findBoth 24 = .ok (.iconst 1, 1) := by decide +kernel
theorem dX12_findBoth_25 : decode cX12_findBoth 25 = .ok (.sipush 300, 3) := by decide +kernel
theorem dX12_findBoth_28 : decode cX12_findBoth 28 = .ok (.invokestatic 140, 3) := by decide +kernel
theorem dX12_findBoth_31 : decode cX12_findBoth 31 = .ok (.ifCond .ne 5, 3) := by decide +kernel
theorem dX12_findBoth_34 : decode cX12_findBoth 34 = .ok (.iconst 0, 1) := by decide +kernel
theorem dX12_findBoth_35 : decode cX12_findBoth 35 = .ok (.ireturn, 1) := by decide +kernel
theorem dX12_findBoth_36 : decode cX12_findBoth 36 = .ok (.aload_n 0, 1) := by decide +kernel
theorem dX12_findBoth_37 : decode cX12_findBoth 37 = .ok (.aload_n 0, 1) := by decide +kernel
theorem dX12_findBoth_38 : decode cX12_findBoth 38 = .ok (.getfield 263, 3) := by decide +kernel
theorem dX12_findBoth_41 : decode cX12_findBoth 41 = .ok (.putfield 329, 3) := by decide +kernel
theorem dX12_findBoth_44 : decode cX12_findBoth 44 = .ok (.iconst 0, 1) := by decide +kernel
theorem dX12_findBoth_45 : decode cX12_findBoth 45 = .ok (.istore_n 1, 1) := by decide +kernel
theorem dX12_findBoth_46 : decode cX12_findBoth 46 = .ok (.iload_n 1, 1) := by decide +kernel
theorem dX12_findBoth_47 : decode cX12_findBoth 47 = .ok (.iconst 5, 1) := by decide +kernel
theorem dX12_findBoth_48 : decode cX12_findBoth 48 = .ok (.aload_n 0, 1) := by decide +kernel
theorem dX12_findBoth_49 : decode cX12_findBoth 49 = .ok (.getfield 263, 3) := by decide +kernel
theorem dX12_findBoth_52 : decode cX12_findBoth 52 = .ok (.imul, 1) := by decide +kernel
theorem dX12_findBoth_53 : decode cX12_findBoth 53 = .ok (.if_icmp .ge 21, 3) := by decide +kernel
theorem dX12_findBoth_56 : decode cX12_findBoth 56 = .ok (.aload_n 0, 1) := by decide +kernel
theorem dX12_findBoth_57 : decode cX12_findBoth 57 = .ok (.getfield 87, 3) := by decide +kernel
theorem dX12_findBoth_60 : decode cX12_findBoth 60 = .ok (.iload_n 1, 1) := by decide +kernel
theorem dX12_findBoth_61 : decode cX12_findBoth 61 = .ok (.aload_n 0, 1) := by decide +kernel
theorem dX12_findBoth_62 : decode cX12_findBoth 62 = .ok (.getfield 78, 3) := by decide +kernel
theorem dX12_findBoth_65 : decode cX12_findBoth 65 = .ok (.iload_n 1, 1) := by decide +kernel
theorem dX12_findBoth_66 : decode cX12_findBoth 66 = .ok (.baload, 1) := by decide +kernel
theorem dX12_findBoth_67 : decode cX12_findBoth 67 = .ok (.bastore, 1) := by decide +kernel
theorem dX12_findBoth_68 : decode cX12_findBoth 68 = .ok (.iinc 1 1, 3) := by decide +kernel
theorem dX12_findBoth_71 : decode cX12_findBoth 71 = .ok (.goto (-25), 3) := by decide +kernel
theorem dX12_findBoth_74 : decode cX12_findBoth 74 = .ok (.aload_n 0, 1) := by decide +kernel
theorem dX12_findBoth_75 : decode cX12_findBoth 75 = .ok (.aload_n 0, 1) := by decide +kernel
theorem dX12_findBoth_76 : decode cX12_findBoth 76 = .ok (.iconst 1, 1) := by decide +kernel
theorem dX12_findBoth_77 : decode cX12_findBoth 77 = .ok (.invokevirtual 278, 3) := by decide +kernel
theorem dX12_findBoth_80 : decode cX12_findBoth 80 = .ok (.putfield 332, 3) := by decide +kernel
theorem dX12_findBoth_83 : decode cX12_findBoth 83 = .ok (.iconst 0, 1) := by decide +kernel
theorem dX12_findBoth_84 : decode cX12_findBoth 84 = .ok (.istore_n 1, 1) := by decide +kernel
theorem dX12_findBoth_85 : decode cX12_findBoth 85 = .ok (.iload_n 1, 1) := by decide +kernel
theorem dX12_findBoth_86 : decode cX12_findBoth 86 = .ok (.iconst 5, 1) := by decide +kernel
theorem dX12_findBoth_87 : decode cX12_findBoth 87 = .ok (.aload_n 0, 1) := by decide +kernel
theorem dX12_findBoth_88 : decode cX12_findBoth 88 = .ok (.getfield 263, 3) := by decide +kernel
theorem dX12_findBoth_91 : decode cX12_findBoth 91 = .ok (.imul, 1) := by decide +kernel
theorem dX12_findBoth_92 : decode cX12_findBoth 92 = .ok (.if_icmp .ge 21, 3) := by decide +kernel
theorem dX12_findBoth_95 : decode cX12_findBoth 95 = .ok (.aload_n 0, 1) := by decide +kernel
theorem dX12_findBoth_96 : decode cX12_findBoth 96 = .ok (.getfield 90, 3) := by decide +kernel
theorem dX12_findBoth_99 : decode cX12_findBoth 99 = .ok (.iload_n 1, 1) := by decide +kernel
theorem dX12_findBoth_100 : decode cX12_findBoth 100 = .ok (.aload_n 0, 1) := by decide +kernel
theorem dX12_findBoth_101 : decode cX12_findBoth 101 = .ok (.getfield 78, 3) := by decide +kernel
theorem dX12_findBoth_104 : decode cX12_findBoth 104 = .ok (.iload_n 1, 1) := by decide +kernel
theorem dX12_findBoth_105 : decode cX12_findBoth 105 = .ok (.baload, 1) := by decide +kernel
theorem dX12_findBoth_106 : decode cX12_findBoth 106 = .ok (.bastore, 1) := by decide +kernel
theorem dX12_findBoth_107 : decode cX12_findBoth 107 = .ok (.iinc 1 1, 3) := by decide +kernel
theorem dX12_findBoth_110 : decode cX12_findBoth 110 = .ok (.goto (-25), 3) := by decide +kernel
theorem dX12_findBoth_113 : decode cX12_findBoth 113 = .ok (.iconst 1, 1) := by decide +kernel
theorem dX12_findBoth_114 : decode cX12_findBoth 114 = .ok (.ireturn, 1) := by decide +kernel
theorem dX12_scoreAt_0 : decode cX12_scoreAt 0 = .ok (.iconst 0, 1) := by decide +kernel
theorem dX12_scoreAt_1 : decode cX12_scoreAt 1 = .ok (.istore_n 3, 1) := by decide +kernel
theorem dX12_scoreAt_2 : decode cX12_scoreAt 2 = .ok (.iconst 0, 1) := by decide +kernel
theorem dX12_scoreAt_3 : decode cX12_scoreAt 3 = .ok (.istore 4, 2) := by decide +kernel
theorem dX12_scoreAt_5 : decode cX12_scoreAt 5 = .ok (.iload 4, 2) := by decide +kernel
theorem dX12_scoreAt_7 : decode cX12_scoreAt 7 = .ok (.aload_n 0, 1) := by decide +kernel
theorem dX12_scoreAt_8 : decode cX12_scoreAt 8 = .ok (.getfield 137, 3) := by decide +kernel
theorem dX12_scoreAt_11 : decode cX12_scoreAt 11 = .ok (.if_icmp .ge 40, 3) := by decide +kernel
theorem dX12_scoreAt_14 : decode cX12_scoreAt 14 = .ok (.iload_n 3, 1) := by decide +kernel
theorem dX12_scoreAt_15 : decode cX12_scoreAt 15 = .ok (.aload_n 0, 1) := by decide +kernel
theorem dX12_scoreAt_16 : decode cX12_scoreAt 16 = .ok (.iload 4, 2) := by decide +kernel
theorem dX12_scoreAt_18 : decode cX12_scoreAt 18 = .ok (.aload_n 0, 1) := by decide +kernel
theorem dX12_scoreAt_19 : decode cX12_scoreAt 19 = .ok (.getfield 87, 3) := by decide +kernel
theorem dX12_scoreAt_22 : decode cX12_scoreAt 22 = .ok (.iconst 5, 1) := by decide +kernel
theorem dX12_scoreAt_23 : decode cX12_scoreAt 23 = .ok (.iload_n 1, 1) := by decide +kernel
theorem dX12_scoreAt_24 : decode cX12_scoreAt 24 = .ok (.imul, 1) := by decide +kernel
theorem dX12_scoreAt_25 : decode cX12_scoreAt 25 = .ok (.iload 4, 2) := by decide +kernel
theorem dX12_scoreAt_27 : decode cX12_scoreAt 27 = .ok (.iadd, 1) := by decide +kernel
theorem dX12_scoreAt_28 : decode cX12_scoreAt 28 = .ok (.baload, 1) := by decide +kernel
theorem dX12_scoreAt_29 : decode cX12_scoreAt 29 = .ok (.aload_n 0, 1) := by decide +kernel
theorem dX12_scoreAt_30 : decode cX12_scoreAt 30 = .ok (.getfield 90, 3) := by decide +kernel
theorem dX12_scoreAt_33 : decode cX12_scoreAt 33 = .ok (.iconst 5, 1) := by decide +kernel
theorem dX12_scoreAt_34 : decode cX12_scoreAt 34 = .ok (.iload_n 2, 1) := by decide +kernel
theorem dX12_scoreAt_35 : decode cX12_scoreAt 35 = .ok (.imul, 1) := by decide +kernel
theorem dX12_scoreAt_36 : decode cX12_scoreAt 36 = .ok (.iload 4, 2) := by decide +kernel
theorem dX12_scoreAt_38 : decode cX12_scoreAt 38 = .ok (.iadd, 1) := by decide +kernel
theorem dX12_scoreAt_39 : decode cX12_scoreAt 39 = .ok (.baload, 1) := by decide +kernel
theorem dX12_scoreAt_40 : decode cX12_scoreAt 40 = .ok (.invokevirtual 260, 3) := by decide +kernel
theorem dX12_scoreAt_43 : decode cX12_scoreAt 43 = .ok (.iadd, 1) := by decide +kernel
theorem dX12_scoreAt_44 : decode cX12_scoreAt 44 = .ok (.istore_n 3, 1) := by decide +kernel
theorem dX12_scoreAt_45 : decode cX12_scoreAt 45 = .ok (.iinc 4 1, 3) := by decide +kernel
theorem dX12_scoreAt_48 : decode cX12_scoreAt 48 = .ok (.goto (-43), 3) := by decide +kernel
theorem dX12_scoreAt_51 : decode cX12_scoreAt 51 = .ok (.iload_n 3, 1) := by decide +kernel
theorem dX12_scoreAt_52 : decode cX12_scoreAt 52 = .ok (.ireturn, 1) := by decide +kernel
theorem dX12_numberIn_0 : decode cX12_numberIn 0 = .ok (.iconst 0, 1) := by decide +kernel
theorem dX12_numberIn_1 : decode cX12_numberIn 1 = .ok (.istore_n 3, 1) := by decide +kernel
theorem dX12_numberIn_2 : decode cX12_numberIn 2 = .ok (.iconst 0, 1) := by decide +kernel
theorem dX12_numberIn_3 : decode cX12_numberIn 3 = .ok (.istore 4, 2) := by decide +kernel
theorem dX12_numberIn_5 : decode cX12_numberIn 5 = .ok (.iload 4, 2) := by decide +kernel
theorem dX12_numberIn_7 : decode cX12_numberIn 7 = .ok (.iload_n 2, 1) := by decide +kernel
theorem dX12_numberIn_8 : decode cX12_numberIn 8 = .ok (.if_icmp .ge 23, 3) := by decide +kernel
theorem dX12_numberIn_11 : decode cX12_numberIn 11 = .ok (.bipush 10, 2) := by decide +kernel
theorem dX12_numberIn_13 : decode cX12_numberIn 13 = .ok (.iload_n 3, 1) := by decide +kernel
theorem dX12_numberIn_14 : decode cX12_numberIn 14 = .ok (.imul, 1) := by decide +kernel
theorem dX12_numberIn_15 : decode cX12_numberIn 15 = .ok (.aload_n 0, 1) := by decide +kernel
theorem dX12_numberIn_16 : decode cX12_numberIn 16 = .ok (.iconst 5, 1) := by decide +kernel
theorem dX12_numberIn_17 : decode cX12_numberIn 17 = .ok (.iload_n 1, 1) := by decide +kernel
theorem dX12_numberIn_18 : decode cX12_numberIn 18 = .ok (.imul, 1) := by decide +kernel
theorem dX12_numberIn_19 : decode cX12_numberIn 19 = .ok (.iload 4, 2) := by decide +kernel
theorem dX12_numberIn_21 : decode cX12_numberIn 21 = .ok (.iadd, 1) := by decide +kernel
theorem dX12_numberIn_22 : decode cX12_numberIn 22 = .ok (.baload, 1) := by decide +kernel
theorem dX12_numberIn_23 : decode cX12_numberIn 23 = .ok (.iadd, 1) := by decide +kernel
theorem dX12_numberIn_24 : decode cX12_numberIn 24 = .ok (.istore_n 3, 1) := by decide +kernel
theorem dX12_numberIn_25 : decode cX12_numberIn 25 = .ok (.iinc 4 1, 3) := by decide +kernel
theorem dX12_numberIn_28 : decode cX12_numberIn 28 = .ok (.goto (-23), 3) := by decide +kernel
theorem dX12_numberIn_31 : decode cX12_numberIn 31 = .ok (.iload_n 3, 1) := by decide +kernel
theorem dX12_numberIn_32 : decode cX12_numberIn 32 = .ok (.ireturn, 1) := by decide +kernel
theorem dX12_beatenBy_0 : decode cX12_beatenBy 0 = .ok (.iconst 0, 1) := by decide +kernel
theorem dX12_beatenBy_1 : decode cX12_beatenBy 1 = .ok (.istore 4, 2) := by decide +kernel
theorem dX12_beatenBy_3 : decode cX12_beatenBy 3 = .ok (.iload_n 1, 1) := by decide +kernel
theorem dX12_beatenBy_4 : decode cX12_beatenBy 4 = .ok (.ifCond .ne 10, 3) := by decide +kernel
theorem dX12_beatenBy_7 : decode cX12_beatenBy 7 = .ok (.aload_n 0, 1) := by decide +kernel
theorem dX12_beatenBy_8 : decode cX12_beatenBy 8 = .ok (.getfield 332, 3) := by decide +kernel
theorem dX12_beatenBy_11 : decode cX12_beatenBy 11 = .ok (.goto 7, 3) := by decide +kernel
theorem dX12_beatenBy_14 : decode cX12_beatenBy 14 = .ok (.aload_n 0, 1) := by decide +kernel
theorem dX12_beatenBy_15 : decode cX12_beatenBy 15 = .ok (.getfield 329, 3) := by decide +kernel
theorem dX12_beatenBy_18 : decode cX12_beatenBy 18 = .ok (.istore 5, 2) := by decide +kernel
theorem dX12_beatenBy_20 : decode cX12_beatenBy 20 = .ok (.iconst 0, 1) := by decide +kernel
theorem dX12_beatenBy_21 : decode cX12_beatenBy 21 = .ok (.istore 6, 2) := by decide +kernel
theorem dX12_beatenBy_23 : decode cX12_beatenBy 23 = .ok (.iload 6, 2) := by decide +kernel
theorem dX12_beatenBy_25 : decode cX12_beatenBy 25 = .ok (.iload 5, 2) := by decide +kernel
theorem dX12_beatenBy_27 : decode cX12_beatenBy 27 = .ok (.if_icmp .ge 103, 3) := by decide +kernel
theorem dX12_beatenBy_30 : decode cX12_beatenBy 30 = .ok (.iconst 0, 1) := by decide +kernel
theorem dX12_beatenBy_31 : decode cX12_beatenBy 31 = .ok (.istore 7, 2) := by decide +kernel
theorem dX12_beatenBy_33 : decode cX12_beatenBy 33 = .ok (.iconst 0, 1) := by decide +kernel
theorem dX12_beatenBy_34 : decode cX12_beatenBy 34 = .ok (.istore 8, 2) := by decide +kernel
theorem dX12_beatenBy_36 : decode cX12_beatenBy 36 = .ok (.iload 8, 2) := by decide +kernel
theorem dX12_beatenBy_38 : decode cX12_beatenBy 38 = .ok (.aload_n 0, 1) := by decide +kernel
theorem dX12_beatenBy_39 : decode cX12_beatenBy 39 = .ok (.getfield 137, 3) := by decide +kernel
theorem dX12_beatenBy_42 : decode cX12_beatenBy 42 = .ok (.if_icmp .ge 74, 3) := by decide +kernel
theorem dX12_beatenBy_45 : decode cX12_beatenBy 45 = .ok (.iload 7, 2) := by decide +kernel
theorem dX12_beatenBy_47 : decode cX12_beatenBy 47 = .ok (.iload_n 1, 1) := by decide +kernel
theorem dX12_beatenBy_48 : decode cX12_beatenBy 48 = .ok (.ifCond .ne 32, 3) := by decide +kernel
theorem dX12_beatenBy_51 : decode cX12_beatenBy 51 = .ok (.aload_n 0, 1) := by decide +kernel
theorem dX12_beatenBy_52 : decode cX12_beatenBy 52 = .ok (.iload 8, 2) := by decide +kernel
theorem dX12_beatenBy_54 : decode cX12_beatenBy 54 = .ok (.aload_n 2, 1) := by decide +kernel
theorem dX12_beatenBy_55 : decode cX12_beatenBy 55 = .ok (.iconst 5, 1) := by decide +kernel
theorem dX12_beatenBy_56 : decode cX12_beatenBy 56 = .ok (.iload_n 3, 1) := by decide +kernel
theorem dX12_beatenBy_57 : decode cX12_beatenBy 57 = .ok (.imul, 1) := by decide +kernel
theorem dX12_beatenBy_58 : decode cX12_beatenBy 58 = .ok (.iload 8, 2) := by decide +kernel
theorem dX12_beatenBy_60 : decode cX12_beatenBy 60 = .ok (.iadd, 1) := by decide +kernel
theorem dX12_beatenBy_61 : decode cX12_beatenBy 61 = .ok (.baload, 1) := by decide +kernel
theorem dX12_beatenBy_62 : decode cX12_beatenBy 62 = .ok (.aload_n 0, 1) := by decide +kernel
theorem dX12_beatenBy_63 : decode cX12_beatenBy 63 = .ok (.getfield 90, 3) := by decide +kernel
theorem dX12_beatenBy_66 : decode cX12_beatenBy 66 = .ok (.iconst 5, 1) := by decide +kernel
theorem dX12_beatenBy_67 : decode cX12_beatenBy 67 = .ok (.iload 6, 2) := by decide +kernel
theorem dX12_beatenBy_69 : decode cX12_beatenBy 69 = .ok (.imul, 1) := by decide +kernel
theorem dX12_beatenBy_70 : decode cX12_beatenBy 70 = .ok (.iload 8, 2) := by decide +kernel
theorem dX12_beatenBy_72 : decode cX12_beatenBy 72 = .ok (.iadd, 1) := by decide +kernel
theorem dX12_beatenBy_73 : decode cX12_beatenBy 73 = .ok (.baload, 1) := by decide +kernel
theorem dX12_beatenBy_74 : decode cX12_beatenBy 74 = .ok (.invokevirtual 260, 3) := by decide +kernel
theorem dX12_beatenBy_77 : decode cX12_beatenBy 77 = .ok (.goto 30, 3) := by decide +kernel
theorem dX12_beatenBy_80 : decode cX12_beatenBy 80 = .ok (.aload_n 0, 1) := by decide +kernel
theorem dX12_beatenBy_81 : decode cX12_beatenBy 81 = .ok (.iload 8, 2) := by decide +kernel
theorem dX12_beatenBy_83 : decode cX12_beatenBy 83 = .ok (.aload_n 0, 1) := by decide +kernel
theorem dX12_beatenBy_84 : decode cX12_beatenBy 84 = .ok (.getfield 87, 3) := by decide +kernel
theorem dX12_beatenBy_87 : decode cX12_beatenBy 87 = .ok (.iconst 5, 1) := by decide +kernel
theorem dX12_beatenBy_88 : decode cX12_beatenBy 88 = .ok (.iload 6, 2) := by decide +kernel
theorem dX12_beatenBy_90 : decode cX12_beatenBy 90 = .ok (.imul, 1) := by decide +kernel
theorem dX12_beatenBy_91 : decode cX12_beatenBy 91 = .ok (.iload 8, 2) := by decide +kernel
theorem dX12_beatenBy_93 : decode cX12_beatenBy 93 = .ok (.iadd, 1) := by decide +kernel
theorem dX12_beatenBy_94 : decode cX12_beatenBy 94 = .ok (.baload, 1) := by decide +kernel
theorem dX12_beatenBy_95 : decode cX12_beatenBy 95 = .ok (.aload_n 2, 1) := by decide +kernel
theorem dX12_beatenBy_96 : decode cX12_beatenBy 96 = .ok (.iconst 5, 1) := by decide +kernel
theorem dX12_beatenBy_97 : decode cX12_beatenBy 97 = .ok (.iload_n 3, 1) := by decide +kernel
theorem dX12_beatenBy_98 : decode cX12_beatenBy 98 = .ok (.imul, 1) := by decide +kernel
theorem dX12_beatenBy_99 : decode cX12_beatenBy 99 = .ok (.iload 8, 2) := by decide +kernel
theorem dX12_beatenBy_101 : decode cX12_beatenBy 101 = .ok (.iadd, 1) := by decide +kernel
theorem dX12_beatenBy_102 : decode cX12_beatenBy 102 = .ok (.baload, 1) := by decide +kernel
theorem dX12_beatenBy_103 : decode cX12_beatenBy 103 = .ok (.invokevirtual 260, 3) := by decide +kernel
theorem dX12_beatenBy_106 : decode cX12_beatenBy 106 = .ok (.ineg, 1) := by decide +kernel
theorem dX12_beatenBy_107 : decode cX12_beatenBy 107 = .ok (.iadd, 1) := by decide +kernel
theorem dX12_beatenBy_108 : decode cX12_beatenBy 108 = .ok (.istore 7, 2) := by decide +kernel
theorem dX12_beatenBy_110 : decode cX12_beatenBy 110 = .ok (.iinc 8 1, 3) := by decide +kernel
theorem dX12_beatenBy_113 : decode cX12_beatenBy 113 = .ok (.goto (-77), 3) := by decide +kernel
theorem dX12_beatenBy_116 : decode cX12_beatenBy 116 = .ok (.iload 7, 2) := by decide +kernel
theorem dX12_beatenBy_118 : decode cX12_beatenBy 118 = .ok (.ifCond .ge 6, 3) := by decide +kernel
theorem dX12_beatenBy_121 : decode cX12_beatenBy 121 = .ok (.iinc 4 1, 3) := by decide +kernel
theorem dX12_beatenBy_124 : decode cX12_beatenBy 124 = .ok (.iinc 6 1, 3) := by decide +kernel
theorem dX12_beatenBy_127 : decode cX12_beatenBy 127 = .ok (.goto (-104), 3) := by decide +kernel
theorem dX12_beatenBy_130 : decode cX12_beatenBy 130 = .ok (.iload 4, 2) := by decide +kernel
theorem dX12_beatenBy_132 : decode cX12_beatenBy 132 = .ok (.ireturn, 1) := by decide +kernel
theorem dX12_beaten_0 : decode cX12_beaten 0 = .ok (.iload_n 1, 1) := by decide +kernel
theorem dX12_beaten_1 : decode cX12_beaten 1 = .ok (.invokestatic 158, 3) := by decide +kernel
theorem dX12_beaten_4 : decode cX12_beaten 4 = .ok (.ifCond .eq 12, 3) := by decide +kernel
theorem dX12_beaten_7 : decode cX12_beaten 7 = .ok (.aload_n 0, 1) := by decide +kernel
theorem dX12_beaten_8 : decode cX12_beaten 8 = .ok (.iload_n 2, 1) := by decide +kernel
theorem dX12_beaten_9 : decode cX12_beaten 9 = .ok (.iload_n 1, 1) := by decide +kernel
theorem dX12_beaten_10 : decode cX12_beaten 10 = .ok (.invokevirtual 169, 3) := by decide +kernel
theorem dX12_beaten_13 : decode cX12_beaten 13 = .ok (.ifCond .ne 5, 3) := by decide +kernel
theorem dX12_beaten_16 : decode cX12_beaten 16 = .ok (.iconst (-1), 1) := by decide +kernel
theorem dX12_beaten_17 : decode cX12_beaten 17 = .ok (.ireturn, 1) := by decide +kernel
theorem dX12_beaten_18 : decode cX12_beaten 18 = .ok (.iconst 0, 1) := by decide +kernel
theorem dX12_beaten_19 : decode cX12_beaten 19 = .ok (.istore_n 3, 1) := by decide +kernel
theorem dX12_beaten_20 : decode cX12_beaten 20 = .ok (.iload_n 3, 1) := by decide +kernel
theorem dX12_beaten_21 : decode cX12_beaten 21 = .ok (.aload_n 0, 1) := by decide +kernel
theorem dX12_beaten_22 : decode cX12_beaten 22 = .ok (.getfield 137, 3) := by decide +kernel
theorem dX12_beaten_25 : decode cX12_beaten 25 = .ok (.if_icmp .ge 22, 3) := by decide +kernel
theorem dX12_beaten_28 : decode cX12_beaten 28 = .ok (.aload_n 0, 1) := by decide +kernel
theorem dX12_beaten_29 : decode cX12_beaten 29 = .ok (.getfield 93, 3) := by decide +kernel
theorem dX12_beaten_32 : decode cX12_beaten 32 = .ok (.iload_n 3, 1) := by decide +kernel
theorem dX12_beaten_33 : decode cX12_beaten 33 = .ok (.aload_n 0, 1) := by decide +kernel
theorem dX12_beaten_34 : decode cX12_beaten 34 = .ok (.getfield 44, 3) := by decide +kernel
theorem dX12_beaten_37 : decode cX12_beaten 37 = .ok (.iload_n 3, 1) := by decide +kernel
theorem dX12_beaten_38 : decode cX12_beaten 38 = .ok (.iaload, 1) := by decide +kernel
theorem dX12_beaten_39 : decode cX12_beaten 39 = .ok (.i2b, 1) := by decide +kernel
theorem dX12_beaten_40 : decode cX12_beaten 40 = .ok (.bastore, 1) := by decide +kernel
theorem dX12_beaten_41 : decode cX12_beaten 41 = .ok (.iinc 3 1, 3) := by decide +kernel
theorem dX12_beaten_44 : decode cX12_beaten 44 = .ok (.goto (-24), 3) := by decide +kernel
theorem dX12_beaten_47 : decode cX12_beaten 47 = .ok (.aload_n 0, 1) := by decide +kernel
theorem dX12_beaten_48 : decode cX12_beaten 48 = .ok (.invokevirtual 335, 3) := by decide +kernel
theorem dX12_beaten_51 : decode cX12_beaten 51 = .ok (.ifCond .eq 16, 3) := by decide +kernel
theorem dX12_beaten_54 : decode cX12_beaten 54 = .ok (.aload_n 0, 1) := by decide +kernel
theorem dX12_beaten_55 : decode cX12_beaten 55 = .ok (.iload_n 1, 1) := by decide +kernel
theorem dX12_beaten_56 : decode cX12_beaten 56 = .ok (.aload_n 0, 1) := by decide +kernel
theorem dX12_beaten_57 : decode cX12_beaten 57 = .ok (.getfield 93, 3) := by decide +kernel
theorem dX12_beaten_60 : decode cX12_beaten 60 = .ok (.iconst 0, 1) := by decide +kernel
theorem dX12_beaten_61 : decode cX12_beaten 61 = .ok (.invokevirtual 338, 3) := by decide +kernel
theorem dX12_beaten_64 : decode cX12_beaten 64 = .ok (.goto 5, 3) := by decide +kernel
theorem dX12_beaten_67 : decode cX12_beaten 67 = .ok (.bipush (-5), 2) := by decide +kernel
theorem dX12_beaten_69 : decode cX12_beaten 69 = .ok (.ireturn, 1) := by decide +kernel
theorem dX12_safest_0 : decode cX12_safest 0 = .ok (.iload_n 1, 1) := by decide +kernel
theorem dX12_safest_1 : decode cX12_safest 1 = .ok (.invokestatic 158, 3) := by decide +kernel
theorem dX12_safest_4 : decode cX12_safest 4 = .ok (.ifCond .eq 12, 3) := by decide +kernel
theorem dX12_safest_7 : decode cX12_safest 7 = .ok (.iload_n 2, 1) := by decide +kernel
theorem dX12_safest_8 : decode cX12_safest 8 = .ok (.iconst 0, 1) := by decide +kernel
theorem dX12_safest_9 : decode cX12_safest 9 = .ok (.iconst 1, 1) := by decide +kernel
theorem dX12_safest_10 : decode cX12_safest 10 = .ok (.invokestatic 140, 3) := by decide +kernel
theorem dX12_safest_13 : decode cX12_safest 13 = .ok (.ifCond .ne 5, 3) := by decide +kernel
theorem dX12_safest_16 : decode cX12_safest 16 = .ok (.iconst (-1), 1) := by decide +kernel
theorem dX12_safest_17 : decode cX12_safest 17 = .ok (.ireturn, 1) := by decide +kernel
theorem dX12_safest_18 : decode cX12_safest 18 = .ok (.aload_n 0, 1) := by decide +kernel
theorem dX12_safest_19 : decode cX12_safest 19 = .ok (.invokevirtual 335, 3) := by decide +kernel
theorem dX12_safest_22 : decode cX12_safest 22 = .ok (.ifCond .ne 6, 3) := by decide +kernel
theorem dX12_safest_25 : decode cX12_safest 25 = .ok (.bipush (-5), 2) := by decide +kernel
theorem dX12_safest_27 : decode cX12_safest 27 = .ok (.ireturn, 1) := by decide +kernel
theorem dX12_safest_28 : decode cX12_safest 28 = .ok (.iconst (-1), 1) := by decide +kernel
theorem dX12_safest_29 : decode cX12_safest 29 = .ok (.istore_n 3, 1) := by decide +kernel
theorem dX12_safest_30 : decode cX12_safest 30 = .ok (.iconst 0, 1) := by decide +kernel
theorem dX12_safest_31 : decode cX12_safest 31 = .ok (.istore 4, 2) := by decide +kernel
theorem dX12_safest_33 : decode cX12_safest 33 = .ok (.iload_n 1, 1) := by decide +kernel
theorem dX12_safest_34 : decode cX12_safest 34 = .ok (.ifCond .ne 10, 3) := by decide +kernel
theorem dX12_safest_37 : decode cX12_safest 37 = .ok (.aload_n 0, 1) := by decide +kernel
theorem dX12_safest_38 : decode cX12_safest 38 = .ok (.getfield 329, 3) := by decide +kernel
theorem dX12_safest_41 : decode cX12_safest 41 = .ok (.goto 7, 3) := by decide +kernel
theorem dX12_safest_44 : decode cX12_safest 44 = .ok (.aload_n 0, 1) := by decide +kernel
theorem dX12_safest_45 : decode cX12_safest 45 = .ok (.getfield 332, 3) := by decide +kernel
theorem dX12_safest_48 : decode cX12_safest 48 = .ok (.istore 5, 2) := by decide +kernel
theorem dX12_safest_50 : decode cX12_safest 50 = .ok (.iconst 0, 1) := by decide +kernel
theorem dX12_safest_51 : decode cX12_safest 51 = .ok (.istore 6, 2) := by decide +kernel
theorem dX12_safest_53 : decode cX12_safest 53 = .ok (.iload 6, 2) := by decide +kernel
theorem dX12_safest_55 : decode cX12_safest 55 = .ok (.iload 5, 2) := by decide +kernel
theorem dX12_safest_57 : decode cX12_safest 57 = .ok (.if_icmp .ge 54, 3) := by decide +kernel
theorem dX12_safest_60 : decode cX12_safest 60 = .ok (.aload_n 0, 1) := by decide +kernel
theorem dX12_safest_61 : decode cX12_safest 61 = .ok (.iload_n 1, 1) := by decide +kernel
theorem dX12_safest_62 : decode cX12_safest 62 = .ok (.iload_n 1, 1) := by decide +kernel
theorem dX12_safest_63 : decode cX12_safest 63 = .ok (.ifCond .ne 10, 3) := by decide +kernel
theorem dX12_safest_66 : decode cX12_safest 66 = .ok (.aload_n 0, 1) := by decide +kernel
theorem dX12_safest_67 : decode cX12_safest 67 = .ok (.getfield 87, 3) := by decide +kernel
theorem dX12_safest_70 : decode cX12_safest 70 = .ok (.goto 7, 3) := by decide +kernel
theorem dX12_safest_73 : decode cX12_safest 73 = .ok (.aload_n 0, 1) := by decide +kernel
theorem dX12_safest_74 : decode cX12_safest 74 = .ok (.getfield 90, 3) := by decide +kernel
theorem dX12_safest_77 : decode cX12_safest 77 = .ok (.iload 6, 2) := by decide +kernel
theorem dX12_safest_79 : decode cX12_safest 79 = .ok (.invokevirtual 338, 3) := by decide +kernel
theorem dX12_safest_82 : decode cX12_safest 82 = .ok (.istore 7, 2) := by decide +kernel
theorem dX12_safest_84 : decode cX12_safest 84 = .ok (.iload_n 3, 1) := by decide +kernel
theorem dX12_safest_85 : decode cX12_safest 85 = .ok (.ifCond .lt 13, 3) := by decide +kernel
theorem dX12_safest_88 : decode cX12_safest 88 = .ok (.iload 7, 2) := by decide +kernel
theorem dX12_safest_90 : decode cX12_safest 90 = .ok (.iload 4, 2) := by decide +kernel
theorem dX12_safest_92 : decode cX12_safest 92 = .ok (.if_icmp .lt 6, 3) := by decide +kernel
theorem dX12_safest_95 : decode cX12_safest 95 = .ok (.goto 10, 3) := by decide +kernel
theorem dX12_safest_98 : decode cX12_safest 98 = .ok (.iload 6, 2) := by decide +kernel
theorem dX12_safest_100 : decode cX12_safest 100 = .ok (.istore_n 3, 1) := by decide +kernel
theorem dX12_safest_101 : decode cX12_safest 101 = .ok (.iload 7, 2) := by decide +kernel
theorem dX12_safest_103 : decode cX12_safest 103 = .ok (.istore 4, 2) := by decide +kernel
theorem dX12_safest_105 : decode cX12_safest 105 = .ok (.iinc 6 1, 3) := by decide +kernel
theorem dX12_safest_108 : decode cX12_safest 108 = .ok (.goto (-55), 3) := by decide +kernel
theorem dX12_safest_111 : decode cX12_safest 111 = .ok (.iload_n 3, 1) := by decide +kernel
theorem dX12_safest_112 : decode cX12_safest 112 = .ok (.ifCond .ge 6, 3) := by decide +kernel
theorem dX12_safest_115 : decode cX12_safest 115 = .ok (.bipush (-2), 2) := by decide +kernel
theorem dX12_safest_117 : decode cX12_safest 117 = .ok (.ireturn, 1) := by decide +kernel
theorem dX12_safest_118 : decode cX12_safest 118 = .ok (.iload_n 2, 1) := by decide +kernel
theorem dX12_safest_119 : decode cX12_safest 119 = .ok (.iconst 1, 1) := by decide +kernel
theorem dX12_safest_120 : decode cX12_safest 120 = .ok (.if_icmp .ne 8, 3) := by decide +kernel
theorem dX12_safest_123 : decode cX12_safest 123 = .ok (.iload 4, 2) := by decide +kernel
theorem dX12_safest_125 : decode cX12_safest 125 = .ok (.goto 26, 3) := by decide +kernel
theorem dX12_safest_128 : decode cX12_safest 128 = .ok (.iload_n 1, 1) := by decide +kernel
theorem dX12_safest_129 : decode cX12_safest 129 = .ok (.ifCond .ne 10, 3) := by decide +kernel
theorem dX12_safest_132 : decode cX12_safest 132 = .ok (.aload_n 0, 1) := by decide +kernel
theorem dX12_safest_133 : decode cX12_safest 133 = .ok (.getfield 87, 3) := by decide +kernel
theorem dX12_safest_136 : decode cX12_safest 136 = .ok (.goto 7, 3) := by decide +kernel
theorem dX12_safest_139 : decode cX12_safest 139 = .ok (.aload_n 0, 1) := by decide +kernel
theorem dX12_safest_140 : decode cX12_safest 140 = .ok (.getfield 90, 3) := by decide +kernel
theorem dX12_safest_143 : decode cX12_safest 143 = .ok (.iload_n 3, 1) := by decide +kernel
theorem dX12_safest_144 : decode cX12_safest 144 = .ok (.aload_n 0, 1) := by decide +kernel
theorem dX12_safest_145 : decode cX12_safest 145 = .ok (.getfield 137, 3) := by decide +kernel
theorem dX12_safest_148 : decode cX12_safest 148 = .ok (.invokestatic 342, 3) := by decide +kernel
theorem dX12_safest_151 : decode cX12_safest 151 = .ok (.ireturn, 1) := by decide +kernel
theorem dX12_beats_0 : decode cX12_beats 0 = .ok (.iconst 0, 1) := by decide +kernel
theorem dX12_beats_1 : decode cX12_beats 1 = .ok (.istore_n 3, 1) := by decide +kernel
theorem dX12_beats_2 : decode cX12_beats 2 = .ok (.iconst 0, 1) := by decide +kernel
theorem dX12_beats_3 : decode cX12_beats 3 = .ok (.istore 4, 2) := by decide +kernel
theorem dX12_beats_5 : decode cX12_beats 5 = .ok (.iload 4, 2) := by decide +kernel
theorem dX12_beats_7 : decode cX12_beats 7 = .ok (.aload_n 0, 1) := by decide +kernel
theorem dX12_beats_8 : decode cX12_beats 8 = .ok (.getfield 137, 3) := by decide +kernel
theorem dX12_beats_11 : decode cX12_beats 11 = .ok (.if_icmp .ge 40, 3) := by decide +kernel
theorem dX12_beats_14 : decode cX12_beats 14 = .ok (.iload_n 3, 1) := by decide +kernel
theorem dX12_beats_15 : decode cX12_beats 15 = .ok (.aload_n 0, 1) := by decide +kernel
theorem dX12_beats_16 : decode cX12_beats 16 = .ok (.iload 4, 2) := by decide +kernel
theorem dX12_beats_18 : decode cX12_beats 18 = .ok (.aload_n 0, 1) := by decide +kernel
theorem dX12_beats_19 : decode cX12_beats 19 = .ok (.getfield 87, 3) := by decide +kernel
theorem dX12_beats_22 : decode cX12_beats 22 = .ok (.iconst 5, 1) := by decide +kernel
theorem dX12_beats_23 : decode cX12_beats 23 = .ok (.iload_n 1, 1) := by decide +kernel
theorem dX12_beats_24 : decode cX12_beats 24 = .ok (.imul, 1) := by decide +kernel
theorem dX12_beats_25 : decode cX12_beats 25 = .ok (.iload 4, 2) := by decide +kernel
theorem dX12_beats_27 : decode cX12_beats 27 = .ok (.iadd, 1) := by decide +kernel
theorem dX12_beats_28 : decode cX12_beats 28 = .ok (.baload, 1) := by decide +kernel
theorem dX12_beats_29 : decode cX12_beats 29 = .ok (.aload_n 0, 1) := by decide +kernel
theorem dX12_beats_30 : decode cX12_beats 30 = .ok (.getfield 87, 3) := by decide +kernel
theorem dX12_beats_33 : decode cX12_beats 33 = .ok (.iconst 5, 1) := by decide +kernel
theorem dX12_beats_34 : decode cX12_beats 34 = .ok (.iload_n 2, 1) := by decide +kernel
theorem dX12_beats_35 : decode cX12_beats 35 = .ok (.imul, 1) := by decide +kernel
theorem dX12_beats_36 : decode cX12_beats 36 = .ok (.iload 4, 2) := by decide +kernel
theorem dX12_beats_38 : decode cX12_beats 38 = .ok (.iadd, 1) := by decide +kernel
theorem dX12_beats_39 : decode cX12_beats 39 = .ok (.baload, 1) := by decide +kernel
theorem dX12_beats_40 : decode cX12_beats 40 = .ok (.invokevirtual 260, 3) := by decide +kernel
theorem dX12_beats_43 : decode cX12_beats 43 = .ok (.iadd, 1) := by decide +kernel
theorem dX12_beats_44 : decode cX12_beats 44 = .ok (.istore_n 3, 1) := by decide +kernel
theorem dX12_beats_45 : decode cX12_beats 45 = .ok (.iinc 4 1, 3) := by decide +kernel
theorem dX12_beats_48 : decode cX12_beats 48 = .ok (.goto (-43), 3) := by decide +kernel
theorem dX12_beats_51 : decode cX12_beats 51 = .ok (.iload_n 3, 1) := by decide +kernel
theorem dX12_beats_52 : decode cX12_beats 52 = .ok (.ifCond .le 7, 3) := by decide +kernel
theorem dX12_beats_55 : decode cX12_beats 55 = .ok (.iconst 1, 1) := by decide +kernel
theorem dX12_beats_56 : decode cX12_beats 56 = .ok (.goto 4, 3) := by decide +kernel
theorem dX12_beats_59 : decode cX12_beats 59 = .ok (.iconst 0, 1) := by decide +kernel
theorem dX12_beats_60 : decode cX12_beats 60 = .ok (.ireturn, 1) := by decide +kernel
theorem dX12_ring_0 : decode cX12_ring 0 = .ok (.iload_n 1, 1) := by decide +kernel
theorem dX12_ring_1 : decode cX12_ring 1 = .ok (.iconst 0, 1) := by decide +kernel
theorem dX12_ring_2 : decode cX12_ring 2 = .ok (.iconst 2, 1) := by decide +kernel
theorem dX12_ring_3 : decode cX12_ring 3 = .ok (.invokestatic 140, 3) := by decide +kernel
theorem dX12_ring_6 : decode cX12_ring 6 = .ok (.ifCond .ne 5, 3) := by decide +kernel
theorem dX12_ring_9 : decode cX12_ring 9 = .ok (.iconst (-1), 1) := by decide +kernel
theorem dX12_ring_10 : decode cX12_ring 10 = .ok (.ireturn, 1) := by decide +kernel
theorem dX12_ring_11 : decode cX12_ring 11 = .ok (.aload_n 0, 1) := by decide +kernel
theorem dX12_ring_12 : decode cX12_ring 12 = .ok (.invokevirtual 335, 3) := by decide +kernel
theorem dX12_ring_15 : decode cX12_ring 15 = .ok (.ifCond .ne 6, 3) := by decide +kernel
theorem dX12_ring_18 : decode cX12_ring 18 = .ok (.bipush (-5), 2) := by decide +kernel
theorem dX12_ring_20 : decode cX12_ring 20 = .ok (.ireturn, 1) := by decide +kernel
theorem dX12_ring_21 : decode cX12_ring 21 = .ok (.iconst 0, 1) := by decide +kernel
theorem dX12_ring_22 : decode cX12_ring 22 = .ok (.istore_n 2, 1) := by decide +kernel
theorem dX12_ring_23 : decode cX12_ring 23 = .ok (.iload_n 2, 1) := by decide +kernel
theorem dX12_ring_24 : decode cX12_ring 24 = .ok (.aload_n 0, 1) := by decide +kernel
theorem dX12_ring_25 : decode cX12_ring 25 = .ok (.getfield 329, 3) := by decide +kernel
theorem dX12_ring_28 : decode cX12_ring 28 = .ok (.if_icmp .ge 116, 3) := by decide +kernel
theorem dX12_ring_31 : decode cX12_ring 31 = .ok (.iload_n 2, 1) := by decide +kernel
theorem dX12_ring_32 : decode cX12_ring 32 = .ok (.iconst 1, 1) := by decide +kernel
theorem dX12_ring_33 : decode cX12_ring 33 = .ok (.iadd, 1) := by decide +kernel
theorem dX12_ring_34 : decode cX12_ring 34 = .ok (.istore_n 3, 1) := by decide +kernel
theorem dX12_ring_35 : decode cX12_ring 35 = .ok (.iload_n 3, 1) := by decide +kernel
theorem dX12_ring_36 : decode cX12_ring 36 = .ok (.aload_n 0, 1) := by decide +kernel
theorem dX12_ring_37 : decode cX12_ring 37 = .ok (.getfield 329, 3) := by decide +kernel
theorem dX12_ring_40 : decode cX12_ring 40 = .ok (.if_icmp .ge 98, 3) := by decide +kernel
theorem dX12_ring_43 : decode cX12_ring 43 = .ok (.aload_n 0, 1) := by decide +kernel
theorem dX12_ring_44 : decode cX12_ring 44 = .ok (.iload_n 2, 1) := by decide +kernel
theorem dX12_ring_45 : decode cX12_ring 45 = .ok (.iload_n 3, 1) := by decide +kernel
theorem dX12_ring_46 : decode cX12_ring 46 = .ok (.invokevirtual 346, 3) := by decide +kernel
theorem dX12_ring_49 : decode cX12_ring 49 = .ok (.ifCond .ne 6, 3) := by decide +kernel
theorem dX12_ring_52 : decode cX12_ring 52 = .ok (.goto 80, 3) := by decide +kernel
theorem dX12_ring_55 : decode cX12_ring 55 = .ok (.iload_n 2, 1) := by decide +kernel
theorem dX12_ring_56 : decode cX12_ring 56 = .ok (.iconst 1, 1) := by decide +kernel
theorem dX12_ring_57 : decode cX12_ring 57 = .ok (.iadd, 1) := by decide +kernel
theorem dX12_ring_58 : decode cX12_ring 58 = .ok (.istore 4, 2) := by decide +kernel
theorem dX12_ring_60 : decode cX12_ring 60 = .ok (.iload 4, 2) := by decide +kernel
theorem dX12_ring_62 : decode cX12_ring 62 = .ok (.aload_n 0, 1) := by decide +kernel
theorem dX12_ring_63 : decode cX12_ring 63 = .ok (.getfield 329, 3) := by decide +kernel
theorem dX12_ring_66 : decode cX12_ring 66 = .ok (.if_icmp .ge 66, 3) := by decide +kernel
theorem dX12_ring_69 : decode cX12_ring 69 = .ok (.iload 4, 2) := by decide +kernel
theorem dX12_ring_71 : decode cX12_ring 71 = .ok (.iload_n 3, 1) := by decide +kernel
theorem dX12_ring_72 : decode cX12_ring 72 = .ok (.if_icmp .eq 54, 3) := by decide +kernel
theorem dX12_ring_75 : decode cX12_ring 75 = .ok (.aload_n 0, 1) := by decide +kernel
theorem dX12_ring_76 : decode cX12_ring 76 = .ok (.iload_n 3, 1) := by decide +kernel
theorem dX12_ring_77 : decode cX12_ring 77 = .ok (.iload 4, 2) := by decide +kernel
theorem dX12_ring_79 : decode cX12_ring 79 = .ok (.invokevirtual 346, 3) := by decide +kernel
theorem dX12_ring_82 : decode cX12_ring 82 = .ok (.ifCond .eq 44, 3) := by decide +kernel
theorem dX12_ring_85 : decode cX12_ring 85 = .ok (.aload_n 0, 1) := by decide +kernel
theorem dX12_ring_86 : decode cX12_ring 86 = .ok (.iload 4, 2) := by decide +kernel
theorem dX12_ring_88 : decode cX12_ring 88 = .ok (.iload_n 2, 1) := by decide +kernel
theorem dX12_ring_89 : decode cX12_ring 89 = .ok (.invokevirtual 346, 3) := by decide +kernel
theorem dX12_ring_92 : decode cX12_ring 92 = .ok (.ifCond .eq 34, 3) := by decide +kernel
theorem dX12_ring_95 : decode cX12_ring 95 = .ok (.aload_n 0, 1) := by decide +kernel
theorem dX12_ring_96 : decode cX12_ring 96 = .ok (.getfield 87, 3) := by decide +kernel
theorem dX12_ring_99 : decode cX12_ring 99 = .ok (.iload_n 1, 1) := by decide +kernel
theorem dX12_ring_100 : decode cX12_ring 100 = .ok (.ifCond .ne 7, 3) := by decide +kernel
theorem dX12_ring_103 : decode cX12_ring 103 = .ok (.iload_n 2, 1) := by decide +kernel
theorem dX12_ring_104 : decode cX12_ring 104 = .ok (.goto 14, 3) := by decide +kernel
theorem dX12_ring_107 : decode cX12_ring 107 = .ok (.iload_n 1, 1) := by decide +kernel
theorem dX12_ring_108 : decode cX12_ring 108 = .ok (.iconst 1, 1) := by decide +kernel
theorem dX12_ring_109 : decode cX12_ring 109 = .ok (.if_icmp .ne 7, 3) := by decide +kernel
theorem dX12_ring_112 : decode cX12_ring 112 = .ok (.iload_n 3, 1) := by decide +kernel
theorem dX12_ring_113 : decode cX12_ring 113 = .ok (.goto 5, 3) := by decide +kernel
theorem dX12_ring_116 : decode cX12_ring 116 = .ok (.iload 4, 2) := by decide +kernel
theorem dX12_ring_118 : decode cX12_ring 118 = .ok (.aload_n 0, 1) := by decide +kernel
theorem dX12_ring_119 : decode cX12_ring 119 = .ok (.getfield 137, 3) := by decide +kernel
theorem dX12_ring_122 : decode cX12_ring 122 = .ok (.invokestatic 342, 3) := by decide +kernel
theorem dX12_ring_125 : decode cX12_ring 125 = .ok (.ireturn, 1) := by decide +kernel
theorem dX12_ring_126 : decode cX12_ring 126 = .ok (.iinc 4 1, 3) := by decide +kernel
theorem dX12_ring_129 : decode cX12_ring 129 = .ok (.goto (-69), 3) := by decide +kernel
theorem dX12_ring_132 : decode cX12_ring 132 = .ok (.iinc 3 1, 3) := by decide +kernel
theorem dX12_ring_135 : decode cX12_ring 135 = .ok (.goto (-100), 3) := by decide +kernel
theorem dX12_ring_138 : decode cX12_ring 138 = .ok (.iinc 2 1, 3) := by decide +kernel
theorem dX12_ring_141 : decode cX12_ring 141 = .ok (.goto (-118), 3) := by decide +kernel
theorem dX12_ring_144 : decode cX12_ring 144 = .ok (.bipush (-2), 2) := by decide +kernel
theorem dX12_ring_146 : decode cX12_ring 146 = .ok (.ireturn, 1) := by decide +kernel
theorem dX12_rest_0 : decode cX12_rest 0 = .ok (.iload_n 1, 1) := by decide +kernel
theorem dX12_rest_1 : decode cX12_rest 1 = .ok (.iconst 0, 1) := by decide +kernel
theorem dX12_rest_2 : decode cX12_rest 2 = .ok (.iconst 2, 1) := by decide +kernel
theorem dX12_rest_3 : decode cX12_rest 3 = .ok (.invokestatic 140, 3) := by decide +kernel
theorem dX12_rest_6 : decode cX12_rest 6 = .ok (.ifCond .ne 7, 3) := by decide +kernel
theorem dX12_rest_9 : decode cX12_rest 9 = .ok (.ldc_w 256, 3) := by decide +kernel
theorem dX12_rest_12 : decode cX12_rest 12 = .ok (.ireturn, 1) := by decide +kernel
theorem dX12_rest_13 : decode cX12_rest 13 = .ok (.aload_n 0, 1) := by decide +kernel
theorem dX12_rest_14 : decode cX12_rest 14 = .ok (.invokevirtual 335, 3) := by decide +kernel
theorem dX12_rest_17 : decode cX12_rest 17 = .ok (.ifCond .ne 6, 3) := by decide +kernel
theorem dX12_rest_20 : decode cX12_rest 20 = .ok (.bipush (-5), 2) := by decide +kernel
theorem dX12_rest_22 : decode cX12_rest 22 = .ok (.ireturn, 1) := by decide +kernel
theorem dX12_rest_23 : decode cX12_rest 23 = .ok (.iconst 0, 1) := by decide +kernel
theorem dX12_rest_24 : decode cX12_rest 24 = .ok (.istore_n 2, 1) := by decide +kernel
theorem dX12_rest_25 : decode cX12_rest 25 = .ok (.iload_n 2, 1) := by decide +kernel
theorem dX12_rest_26 : decode cX12_rest 26 = .ok (.aload_n 0, 1) := by decide +kernel
theorem dX12_rest_27 : decode cX12_rest 27 = .ok (.getfield 332, 3) := by decide +kernel
theorem dX12_rest_30 : decode cX12_rest 30 = .ok (.if_icmp .ge 56, 3) := by decide +kernel
theorem dX12_rest_33 : decode cX12_rest 33 = .ok (.iconst 0, 1) := by decide +kernel
theorem dX12_rest_34 : decode cX12_rest 34 = .ok (.istore_n 3, 1) := by decide +kernel
theorem dX12_rest_35 : decode cX12_rest 35 = .ok (.iload_n 3, 1) := by decide +kernel
theorem dX12_rest_36 : decode cX12_rest 36 = .ok (.aload_n 0, 1) := by decide +kernel
theorem dX12_rest_37 : decode cX12_rest 37 = .ok (.getfield 329, 3) := by decide +kernel
theorem dX12_rest_40 : decode cX12_rest 40 = .ok (.if_icmp .ge 40, 3) := by decide +kernel
theorem dX12_rest_43 : decode cX12_rest 43 = .ok (.aload_n 0, 1) := by decide +kernel
theorem dX12_rest_44 : decode cX12_rest 44 = .ok (.iload_n 3, 1) := by decide +kernel
theorem dX12_rest_45 : decode cX12_rest 45 = .ok (.iload_n 2, 1) := by decide +kernel
theorem dX12_rest_46 : decode cX12_rest 46 = .ok (.invokevirtual 349, 3) := by decide +kernel
theorem dX12_rest_49 : decode cX12_rest 49 = .ok (.istore 4, 2) := by decide +kernel
theorem dX12_rest_51 : decode cX12_rest 51 = .ok (.iload_n 3, 1) := by decide +kernel
theorem dX12_rest_52 : decode cX12_rest 52 = .ok (.ifCond .eq 14, 3) := by decide +kernel
theorem dX12_rest_55 : decode cX12_rest 55 = .ok (.iload 4, 2) := by decide +kernel
theorem dX12_rest_57 : decode cX12_rest 57 = .ok (.aload_n 0, 1) := by decide +kernel
theorem dX12_rest_58 : decode cX12_rest 58 = .ok (.getfield 96, 3) := by decide +kernel
theorem dX12_rest_61 : decode cX12_rest 61 = .ok (.iload_n 2, 1) := by decide +kernel
theorem dX12_rest_62 : decode cX12_rest 62 = .ok (.iaload, 1) := by decide +kernel
theorem dX12_rest_63 : decode cX12_rest 63 = .ok (.if_icmp .le 11, 3) := by decide +kernel
theorem dX12_rest_66 : decode cX12_rest 66 = .ok (.aload_n 0, 1) := by decide +kernel
theorem dX12_rest_67 : decode cX12_rest 67 = .ok (.getfield 96, 3) := by decide +kernel
theorem dX12_rest_70 : decode cX12_rest 70 = .ok (.iload_n 2, 1) := by decide +kernel
theorem dX12_rest_71 : decode cX12_rest 71 = .ok (.iload 4, 2) := by decide +kernel
theorem dX12_rest_73 : decode cX12_rest 73 = .ok (.iastore, 1) := by decide +kernel
theorem dX12_rest_74 : decode cX12_rest 74 = .ok (.iinc 3 1, 3) := by decide +kernel
theorem dX12_rest_77 : decode cX12_rest 77 = .ok (.goto (-42), 3) := by decide +kernel
theorem dX12_rest_80 : decode cX12_rest 80 = .ok (.iinc 2 1, 3) := by decide +kernel
theorem dX12_rest_83 : decode cX12_rest 83 = .ok (.goto (-58), 3) := by decide +kernel
theorem dX12_rest_86 : decode cX12_rest 86 = .ok (.iconst 0, 1) := by decide +kernel
theorem dX12_rest_87 : decode cX12_rest 87 = .ok (.istore_n 2, 1) := by decide +kernel
theorem dX12_rest_88 : decode cX12_rest 88 = .ok (.iload_n 2, 1) := by decide +kernel
theorem dX12_rest_89 : decode cX12_rest 89 = .ok (.aload_n 0, 1) := by decide +kernel
theorem dX12_rest_90 : decode cX12_rest 90 = .ok (.getfield 329, 3) := by decide +kernel
theorem dX12_rest_93 : decode cX12_rest 93 = .ok (.if_icmp .ge 143, 3) := by decide +kernel
theorem dX12_rest_96 : decode cX12_rest 96 = .ok (.iconst 0, 1) := by decide +kernel
theorem dX12_rest_97 : decode cX12_rest 97 = .ok (.istore_n 3, 1) := by decide +kernel
theorem dX12_rest_98 : decode cX12_rest 98 = .ok (.iconst 0, 1) := by decide +kernel
theorem dX12_rest_99 : decode cX12_rest 99 = .ok (.istore 4, 2) := by decide +kernel
theorem dX12_rest_101 : decode cX12_rest 101 = .ok (.iload 4, 2) := by decide +kernel
theorem dX12_rest_103 : decode cX12_rest 103 = .ok (.aload_n 0, 1) := by decide +kernel
theorem dX12_rest_104 : decode cX12_rest 104 = .ok (.getfield 332, 3) := by decide +kernel
theorem dX12_rest_107 : decode cX12_rest 107 = .ok (.if_icmp .ge 32, 3) := by decide +kernel
theorem dX12_rest_110 : decode cX12_rest 110 = .ok (.aload_n 0, 1) := by decide +kernel
theorem dX12_rest_111 : decode cX12_rest 111 = .ok (.iload_n 2, 1) := by decide +kernel
theorem dX12_rest_112 : decode cX12_rest 112 = .ok (.iload 4, 2) := by decide +kernel
theorem dX12_rest_114 : decode cX12_rest 114 = .ok (.invokevirtual 349, 3) := by decide +kernel
theorem dX12_rest_117 : decode cX12_rest 117 = .ok (.istore 5, 2) := by decide +kernel
theorem dX12_rest_119 : decode cX12_rest 119 = .ok (.iload 4, 2) := by decide +kernel
theorem dX12_rest_121 : decode cX12_rest 121 = .ok (.ifCond .eq 9, 3) := by decide +kernel
theorem dX12_rest_124 : decode cX12_rest 124 = .ok (.iload 5, 2) := by decide +kernel
theorem dX12_rest_126 : decode cX12_rest 126 = .ok (.iload_n 3, 1) := by decide +kernel
theorem dX12_rest_127 : decode cX12_rest 127 = .ok (.if_icmp .ge 6, 3) := by decide +kernel
theorem dX12_rest_130 : decode cX12_rest 130 = .ok (.iload 5, 2) := by decide +kernel
theorem dX12_rest_132 : decode cX12_rest 132 = .ok (.istore_n 3, 1) := by decide +kernel
theorem dX12_rest_133 : decode cX12_rest 133 = .ok (.iinc 4 1, 3) := by decide +kernel
theorem dX12_rest_136 : decode cX12_rest 136 = .ok (.goto (-35), 3) := by decide +kernel
theorem dX12_rest_139 : decode cX12_rest 139 = .ok (.iconst 0, 1) := by decide +kernel
theorem dX12_rest_140 : decode cX12_rest 140 = .ok (.istore 4, 2) := by decide +kernel
theorem dX12_rest_142 : decode cX12_rest 142 = .ok (.iload 4, 2) := by decide +kernel
theorem dX12_rest_144 : decode cX12_rest 144 = .ok (.aload_n 0, 1) := by decide +kernel
theorem dX12_rest_145 : decode cX12_rest 145 = .ok (.getfield 332, 3) := by decide +kernel
theorem dX12_rest_148 : decode cX12_rest 148 = .ok (.if_icmp .ge 82, 3) := by decide +kernel
theorem dX12_rest_151 : decode cX12_rest 151 = .ok (.aload_n 0, 1) := by decide +kernel
theorem dX12_rest_152 : decode cX12_rest 152 = .ok (.iload_n 2, 1) := by decide +kernel
theorem dX12_rest_153 : decode cX12_rest 153 = .ok (.iload 4, 2) := by decide +kernel
theorem dX12_rest_155 : decode cX12_rest 155 = .ok (.invokevirtual 349, 3) := by decide +kernel
theorem dX12_rest_158 : decode cX12_rest 158 = .ok (.istore 5, 2) := by decide +kernel
theorem dX12_rest_160 : decode cX12_rest 160 = .ok (.iload 5, 2) := by decide +kernel
theorem dX12_rest_162 : decode cX12_rest 162 = .ok (.iload_n 3, 1) := by decide +kernel
theorem dX12_rest_163 : decode cX12_rest 163 = .ok (.if_icmp .ne 61, 3) := by decide +kernel
theorem dX12_rest_166 : decode cX12_rest 166 = .ok (.iload 5, 2) := by decide +kernel
theorem dX12_rest_168 : decode cX12_rest 168 = .ok (.aload_n 0, 1) := by decide +kernel
theorem dX12_rest_169 : decode cX12_rest 169 = .ok (.getfield 96, 3) := by decide +kernel
theorem dX12_rest_172 : decode cX12_rest 172 = .ok (.iload 4, 2) := by decide +kernel
theorem dX12_rest_174 : decode cX12_rest 174 = .ok (.iaload, 1) := by decide +kernel
theorem dX12_rest_175 : decode cX12_rest 175 = .ok (.if_icmp .eq 6, 3) := by decide +kernel
theorem dX12_rest_178 : decode cX12_rest 178 = .ok (.goto 46, 3) := by decide +kernel
theorem dX12_rest_181 : decode cX12_rest 181 = .ok (.iload_n 1, 1) := by decide +kernel
theorem dX12_rest_182 : decode cX12_rest 182 = .ok (.ifCond .ne 18, 3) := by decide +kernel
theorem dX12_rest_185 : decode cX12_rest 185 = .ok (.aload_n 0, 1) := by decide +kernel
theorem dX12_rest_186 : decode cX12_rest 186 = .ok (.getfield 87, 3) := by decide +kernel
theorem dX12_rest_189 : decode cX12_rest 189 = .ok (.iload_n 2, 1) := by decide +kernel
theorem dX12_rest_190 : decode cX12_rest 190 = .ok (.aload_n 0, 1) := by decide +kernel
theorem dX12_rest_191 : decode cX12_rest 191 = .ok (.getfield 137, 3) := by decide +kernel
theorem dX12_rest_194 : decode cX12_rest 194 = .ok (.invokestatic 342, 3) := by decide +kernel
theorem dX12_rest_197 : decode cX12_rest 197 = .ok (.goto 26, 3) := by decide +kernel
theorem dX12_rest_200 : decode cX12_rest 200 = .ok (.iload_n 1, 1) := by decide +kernel
theorem dX12_rest_201 : decode cX12_rest 201 = .ok (.iconst 1, 1) := by decide +kernel
theorem dX12_rest_202 : decode cX12_rest 202 = .ok (.if_icmp .ne 19, 3) := by decide +kernel
theorem dX12_rest_205 : decode cX12_rest 205 = .ok (.aload_n 0, 1) := by decide +kernel
theorem dX12_rest_206 : decode cX12_rest 206 = .ok (.getfield 90, 3) := by decide +kernel
theorem dX12_rest_209 : decode cX12_rest 209 = .ok (.iload 4, 2) := by decide +kernel
theorem dX12_rest_211 : decode cX12_rest 211 = .ok (.aload_n 0, 1) := by decide +kernel
theorem dX12_rest_212 : decode cX12_rest 212 = .ok (.getfield 137, 3) := by decide +kernel
theorem dX12_rest_215 : decode cX12_rest 215 = .ok (.invokestatic 342, 3) := by decide +kernel
theorem dX12_rest_218 : decode cX12_rest 218 = .ok (.goto 5, 3) := by decide +kernel
theorem dX12_rest_221 : decode cX12_rest 221 = .ok (.iload 5, 2) := by decide +kernel
theorem dX12_rest_223 : decode cX12_rest 223 = .ok (.ireturn, 1) := by decide +kernel
theorem dX12_rest_224 : decode cX12_rest 224 = .ok (.iinc 4 1, 3) := by decide +kernel
theorem dX12_rest_227 : decode cX12_rest 227 = .ok (.goto (-85), 3) := by decide +kernel
theorem dX12_rest_230 : decode cX12_rest 230 = .ok (.iinc 2 1, 3) := by decide +kernel
theorem dX12_rest_233 : decode cX12_rest 233 = .ok (.goto (-145), 3) := by decide +kernel
theorem dX12_rest_236 : decode cX12_rest 236 = .ok (.bipush (-2), 2) := by decide +kernel
theorem dX12_rest_238 : decode cX12_rest 238 = .ok (.ireturn, 1) := by decide +kernel
theorem dX12_sureOf_0 : decode cX12_sureOf 0 = .ok (.iconst 0, 1) := by decide +kernel
theorem dX12_sureOf_1 : decode cX12_sureOf 1 = .ok (.istore_n 3, 1) := by decide +kernel
theorem dX12_sureOf_2 : decode cX12_sureOf 2 = .ok (.iload_n 3, 1) := by decide +kernel
theorem dX12_sureOf_3 : decode cX12_sureOf 3 = .ok (.bipush 9, 2) := by decide +kernel
theorem dX12_sureOf_5 : decode cX12_sureOf 5 = .ok (.if_icmp .gt 24, 3) := by decide +kernel
theorem dX12_sureOf_8 : decode cX12_sureOf 8 = .ok (.aload_n 0, 1) := by decide +kernel
theorem dX12_sureOf_9 : decode cX12_sureOf 9 = .ok (.getfield 99, 3) := by decide +kernel
theorem dX12_sureOf_12 : decode cX12_sureOf 12 = .ok (.bipush 10, 2) := by decide +kernel
theorem dX12_sureOf_14 : decode cX12_sureOf 14 = .ok (.aload_n 0, 1) := by decide +kernel
theorem dX12_sureOf_15 : decode cX12_sureOf 15 = .ok (.getfield 137, 3) := by decide +kernel
theorem dX12_sureOf_18 : decode cX12_sureOf 18 = .ok (.imul, 1) := by decide +kernel
theorem dX12_sureOf_19 : decode cX12_sureOf 19 = .ok (.iload_n 3, 1) := by decide +kernel
theorem dX12_sureOf_20 : decode cX12_sureOf 20 = .ok (.iadd, 1) := by decide +kernel
theorem dX12_sureOf_21 : decode cX12_sureOf 21 = .ok (.iconst 0, 1) := by decide +kernel
theorem dX12_sureOf_22 : decode cX12_sureOf 22 = .ok (.iastore, 1) := by decide +kernel
theorem dX12_sureOf_23 : decode cX12_sureOf 23 = .ok (.iinc 3 1, 3) := by decide +kernel
theorem dX12_sureOf_26 : decode cX12_sureOf 26 = .ok (.goto (-24), 3) := by decide +kernel
theorem dX12_sureOf_29 : decode cX12_sureOf 29 = .ok (.aload_n 0, 1) := by decide +kernel
theorem dX12_sureOf_30 : decode cX12_sureOf 30 = .ok (.getfield 137, 3) := by decide +kernel
theorem dX12_sureOf_33 : decode cX12_sureOf 33 = .ok (.iconst 1, 1) := by decide +kernel
theorem dX12_sureOf_34 : decode cX12_sureOf 34 = .ok (.isub, 1) := by decide +kernel
theorem dX12_sureOf_35 : decode cX12_sureOf 35 = .ok (.istore_n 3, 1) := by decide +kernel
theorem dX12_sureOf_36 : decode cX12_sureOf 36 = .ok (.iload_n 3, 1) := by decide +kernel
theorem dX12_sureOf_37 : decode cX12_sureOf 37 = .ok (.ifCond .lt 126, 3) := by decide +kernel
theorem dX12_sureOf_40 : decode cX12_sureOf 40 = .ok (.aload_n 1, 1) := by decide +kernel
theorem dX12_sureOf_41 : decode cX12_sureOf 41 = .ok (.iconst 5, 1) := by decide +kernel
theorem dX12_sureOf_42 : decode cX12_sureOf 42 = .ok (.iload_n 2, 1) := by decide +kernel
theorem dX12_sureOf_43 : decode cX12_sureOf 43 = .ok (.imul, 1) := by decide +kernel
theorem dX12_sureOf_44 : decode cX12_sureOf 44 = .ok (.iload_n 3, 1) := by decide +kernel
theorem dX12_sureOf_45 : decode cX12_sureOf 45 = .ok (.iadd, 1) := by decide +kernel
theorem dX12_sureOf_46 : decode cX12_sureOf 46 = .ok (.baload, 1) := by decide +kernel
theorem dX12_sureOf_47 : decode cX12_sureOf 47 = .ok (.istore 4, 2) := by decide +kernel
theorem dX12_sureOf_49 : decode cX12_sureOf 49 = .ok (.iconst 0, 1) := by decide +kernel
theorem dX12_sureOf_50 : decode cX12_sureOf 50 = .ok (.istore 5, 2) := by decide +kernel
theorem dX12_sureOf_52 : decode cX12_sureOf 52 = .ok (.iload 5, 2) := by decide +kernel
theorem dX12_sureOf_54 : decode cX12_sureOf 54 = .ok (.bipush 9, 2) := by decide +kernel
theorem dX12_sureOf_56 : decode cX12_sureOf 56 = .ok (.if_icmp .gt 101, 3) := by decide +kernel
theorem dX12_sureOf_59 : decode cX12_sureOf 59 = .ok (.bipush 6, 2) := by decide +kernel
theorem dX12_sureOf_61 : decode cX12_sureOf 61 = .ok (.istore 6, 2) := by decide +kernel
theorem dX12_sureOf_63 : decode cX12_sureOf 63 = .ok (.iconst 0, 1) := by decide +kernel
theorem dX12_sureOf_64 : decode cX12_sureOf 64 = .ok (.istore 7, 2) := by decide +kernel
theorem dX12_sureOf_66 : decode cX12_sureOf 66 = .ok (.iload 7, 2) := by decide +kernel
theorem dX12_sureOf_68 : decode cX12_sureOf 68 = .ok (.iload 5, 2) := by decide +kernel
theorem dX12_sureOf_70 : decode cX12_sureOf 70 = .ok (.if_icmp .gt 67, 3) := by decide +kernel
theorem dX12_sureOf_73 : decode cX12_sureOf 73 = .ok (.aload_n 0, 1) := by decide +kernel
theorem dX12_sureOf_74 : decode cX12_sureOf 74 = .ok (.getfield 72, 3) := by decide +kernel
theorem dX12_sureOf_77 : decode cX12_sureOf 77 = .ok (.bipush 100, 2) := by decide +kernel
theorem dX12_sureOf_79 : decode cX12_sureOf 79 = .ok (.iload_n 3, 1) := by decide +kernel
theorem dX12_sureOf_80 : decode cX12_sureOf 80 = .ok (.imul, 1) := by decide +kernel
theorem dX12_sureOf_81 : decode cX12_sureOf 81 = .ok (.bipush 10, 2) := by decide +kernel
theorem dX12_sureOf_83 : decode cX12_sureOf 83 = .ok (.iload 4, 2) := by decide +kernel
theorem dX12_sureOf_85 : decode cX12_sureOf 85 = .ok (.imul, 1) := by decide +kernel
theorem dX12_sureOf_86 : decode cX12_sureOf 86 = .ok (.iadd, 1) := by decide +kernel
theorem dX12_sureOf_87 : decode cX12_sureOf 87 = .ok (.iload 7, 2) := by decide +kernel
theorem dX12_sureOf_89 : decode cX12_sureOf 89 = .ok (.iadd, 1) := by decide +kernel
theorem dX12_sureOf_90 : decode cX12_sureOf 90 = .ok (.baload, 1) := by decide +kernel
theorem dX12_sureOf_91 : decode cX12_sureOf 91 = .ok (.iconst 1, 1) := by decide +kernel
theorem dX12_sureOf_92 : decode cX12_sureOf 92 = .ok (.if_icmp .ne 7, 3) := by decide +kernel
theorem dX12_sureOf_95 : decode cX12_sureOf 95 = .ok (.iconst 1, 1) := by decide +kernel
theorem dX12_sureOf_96 : decode cX12_sureOf 96 = .ok (.goto 4, 3) := by decide +kernel
theorem dX12_sureOf_99 : decode cX12_sureOf 99 = .ok (.iconst 0, 1) := by decide +kernel
theorem dX12_sureOf_100 : decode cX12_sureOf 100 = .ok (.aload_n 0, 1) := by decide +kernel
theorem dX12_sureOf_101 : decode cX12_sureOf 101 = .ok (.getfield 99, 3) := by decide +kernel
theorem dX12_sureOf_104 : decode cX12_sureOf 104 = .ok (.bipush 10, 2) := by decide +kernel
theorem dX12_sureOf_106 : decode cX12_sureOf 106 = .ok (.iload_n 3, 1) := by decide +kernel
theorem dX12_sureOf_107 : decode cX12_sureOf 107 = .ok (.iconst 1, 1) := by decide +kernel
theorem dX12_sureOf_108 : decode cX12_sureOf 108 = .ok (.iadd, 1) := by decide +kernel
theorem dX12_sureOf_109 : decode cX12_sureOf 109 = .ok (.imul, 1) := by decide +kernel
theorem dX12_sureOf_110 : decode cX12_sureOf 110 = .ok (.iload 5, 2) := by decide +kernel
theorem dX12_sureOf_112 : decode cX12_sureOf 112 = .ok (.iadd, 1) := by decide +kernel
theorem dX12_sureOf_113 : decode cX12_sureOf 113 = .ok (.iload 7, 2) := by decide +kernel
theorem dX12_sureOf_115 : decode cX12_sureOf 115 = .ok (.isub, 1) := by decide +kernel
theorem dX12_sureOf_116 : decode cX12_sureOf 116 = .ok (.iaload, 1) := by decide +kernel
theorem dX12_sureOf_117 : decode cX12_sureOf 117 = .ok (.iadd, 1) := by decide +kernel
theorem dX12_sureOf_118 : decode cX12_sureOf 118 = .ok (.istore 8, 2) := by decide +kernel
theorem dX12_sureOf_120 : decode cX12_sureOf 120 = .ok (.iload 8, 2) := by decide +kernel
theorem dX12_sureOf_122 : decode cX12_sureOf 122 = .ok (.iload 6, 2) := by decide +kernel
theorem dX12_sureOf_124 : decode cX12_sureOf 124 = .ok (.if_icmp .ge 7, 3) := by decide +kernel
theorem dX12_sureOf_127 : decode cX12_sureOf 127 = .ok (.iload 8, 2) := by decide +kernel
theorem dX12_sureOf_129 : decode cX12_sureOf 129 = .ok (.istore 6, 2) := by decide +kernel
theorem dX12_sureOf_131 : decode cX12_sureOf 131 = .ok (.iinc 7 1, 3) := by decide +kernel
theorem dX12_sureOf_134 : decode cX12_sureOf 134 = .ok (.goto (-68), 3) := by decide +kernel
theorem dX12_sureOf_137 : decode cX12_sureOf 137 = .ok (.aload_n 0, 1) := by decide +kernel
theorem dX12_sureOf_138 : decode cX12_sureOf 138 = .ok (.getfield 99, 3) := by decide +kernel
theorem dX12_sureOf_141 : decode cX12_sureOf 141 = .ok (.bipush 10, 2) := by decide +kernel
theorem dX12_sureOf_143 : decode cX12_sureOf 143 = .ok (.iload_n 3, 1) := by decide +kernel
theorem dX12_sureOf_144 : decode cX12_sureOf 144 = .ok (.imul, 1) := by decide +kernel
theorem dX12_sureOf_145 : decode cX12_sureOf 145 = .ok (.iload 5, 2) := by decide +kernel
theorem dX12_sureOf_147 : decode cX12_sureOf 147 = .ok (.iadd, 1) := by decide +kernel
theorem dX12_sureOf_148 : decode cX12_sureOf 148 = .ok (.iload 6, 2) := by decide +kernel
theorem dX12_sureOf_150 : decode cX12_sureOf 150 = .ok (.iastore, 1) := by decide +kernel
theorem dX12_sureOf_151 : decode cX12_sureOf 151 = .ok (.iinc 5 1, 3) := by decide +kernel
theorem dX12_sureOf_154 : decode cX12_sureOf 154 = .ok (.goto (-102), 3) := by decide +kernel
theorem dX12_sureOf_157 : decode cX12_sureOf 157 = .ok (.iinc 3 (-1), 3) := by decide +kernel
theorem dX12_sureOf_160 : decode cX12_sureOf 160 = .ok (.goto (-124), 3) := by decide +kernel
theorem dX12_sureOf_163 : decode cX12_sureOf 163 = .ok (.aload_n 0, 1) := by decide +kernel
theorem dX12_sureOf_164 : decode cX12_sureOf 164 = .ok (.getfield 99, 3) := by decide +kernel
theorem dX12_sureOf_167 : decode cX12_sureOf 167 = .ok (.aload_n 0, 1) := by decide +kernel
theorem dX12_sureOf_168 : decode cX12_sureOf 168 = .ok (.getfield 19, 3) := by decide +kernel
theorem dX12_sureOf_171 : decode cX12_sureOf 171 = .ok (.iconst 1, 1) := by decide +kernel
theorem dX12_sureOf_172 : decode cX12_sureOf 172 = .ok (.iaload, 1) := by decide +kernel
theorem dX12_sureOf_173 : decode cX12_sureOf 173 = .ok (.iaload, 1) := by decide +kernel
theorem dX12_sureOf_174 : decode cX12_sureOf 174 = .ok (.ireturn, 1) := by decide +kernel
theorem dX12_sure_0 : decode cX12_sure 0 = .ok (.aload_n 0, 1) := by decide +kernel
theorem dX12_sure_1 : decode cX12_sure 1 = .ok (.iload_n 1, 1) := by decide +kernel
theorem dX12_sure_2 : decode cX12_sure 2 = .ok (.iconst 0, 1) := by decide +kernel
theorem dX12_sure_3 : decode cX12_sure 3 = .ok (.invokevirtual 169, 3) := by decide +kernel
theorem dX12_sure_6 : decode cX12_sure 6 = .ok (.ifCond .ne 5, 3) := by decide +kernel
theorem dX12_sure_9 : decode cX12_sure 9 = .ok (.iconst (-1), 1) := by decide +kernel
theorem dX12_sure_10 : decode cX12_sure 10 = .ok (.ireturn, 1) := by decide +kernel
theorem dX12_sure_11 : decode cX12_sure 11 = .ok (.iconst 0, 1) := by decide +kernel
theorem dX12_sure_12 : decode cX12_sure 12 = .ok (.istore_n 2, 1) := by decide +kernel
theorem dX12_sure_13 : decode cX12_sure 13 = .ok (.iload_n 2, 1) := by decide +kernel
theorem dX12_sure_14 : decode cX12_sure 14 = .ok (.aload_n 0, 1) := by decide +kernel
theorem dX12_sure_15 : decode cX12_sure 15 = .ok (.getfield 137, 3) := by decide +kernel
theorem dX12_sure_18 : decode cX12_sure 18 = .ok (.if_icmp .ge 22, 3) := by decide +kernel
theorem dX12_sure_21 : decode cX12_sure 21 = .ok (.aload_n 0, 1) := by decide +kernel
theorem dX12_sure_22 : decode cX12_sure 22 = .ok (.getfield 93, 3) := by decide +kernel
theorem dX12_sure_25 : decode cX12_sure 25 = .ok (.iload_n 2, 1) := by decide +kernel
theorem dX12_sure_26 : decode cX12_sure 26 = .ok (.aload_n 0, 1) := by decide +kernel
theorem dX12_sure_27 : decode cX12_sure 27 = .ok (.getfield 44, 3) := by decide +kernel
theorem dX12_sure_30 : decode cX12_sure 30 = .ok (.iload_n 2, 1) := by decide +kernel
theorem dX12_sure_31 : decode cX12_sure 31 = .ok (.iaload, 1) := by decide +kernel
theorem dX12_sure_32 : decode cX12_sure 32 = .ok (.i2b, 1) := by decide +kernel
theorem dX12_sure_33 : decode cX12_sure 33 = .ok (.bastore, 1) := by decide +kernel
theorem dX12_sure_34 : decode cX12_sure 34 = .ok (.iinc 2 1, 3) := by decide +kernel
theorem dX12_sure_37 : decode cX12_sure 37 = .ok (.goto (-24), 3) := by decide +kernel
theorem dX12_sure_40 : decode cX12_sure 40 = .ok (.aload_n 0, 1) := by decide +kernel
theorem dX12_sure_41 : decode cX12_sure 41 = .ok (.invokevirtual 257, 3) := by decide +kernel
theorem dX12_sure_44 : decode cX12_sure 44 = .ok (.aload_n 0, 1) := by decide +kernel
theorem dX12_sure_45 : decode cX12_sure 45 = .ok (.aload_n 0, 1) := by decide +kernel
theorem dX12_sure_46 : decode cX12_sure 46 = .ok (.getfield 93, 3) := by decide +kernel
theorem dX12_sure_49 : decode cX12_sure 49 = .ok (.iconst 0, 1) := by decide +kernel
theorem dX12_sure_50 : decode cX12_sure 50 = .ok (.invokevirtual 352, 3) := by decide +kernel
theorem dX12_sure_53 : decode cX12_sure 53 = .ok (.ireturn, 1) := by decide +kernel
theorem dX12_findMost_0 : decode cX12_findMost 0 = .ok (.iconst (-1), 1) := by decide +kernel
theorem dX12_findMost_1 : decode cX12_findMost 1 = .ok (.istore_n 1, 1) := by decide +kernel
theorem dX12_findMost_2 : decode cX12_findMost 2 = .ok (.iconst 0, 1) := by decide +kernel
theorem dX12_findMost_3 : decode cX12_findMost 3 = .ok (.istore_n 2, 1) := by decide +kernel
theorem dX12_findMost_4 : decode cX12_findMost 4 = .ok (.iload_n 2, 1) := by decide +kernel
theorem dX12_findMost_5 : decode cX12_findMost 5 = .ok (.aload_n 0, 1) := by decide +kernel
theorem dX12_findMost_6 : decode cX12_findMost 6 = .ok (.getfield 263, 3) := by decide +kernel
theorem dX12_findMost_9 : decode cX12_findMost 9 = .ok (.if_icmp .ge 41, 3) := by decide +kernel
theorem dX12_findMost_12 : decode cX12_findMost 12 = .ok (.aload_n 0, 1) := by decide +kernel
theorem dX12_findMost_13 : decode cX12_findMost 13 = .ok (.aload_n 0, 1) := by decide +kernel
theorem dX12_findMost_14 : decode cX12_findMost 14 = .ok (.getfield 78, 3) := by decide +kernel
theorem dX12_findMost_17 : decode cX12_findMost 17 = .ok (.iload_n 2, 1) := by decide +kernel
theorem dX12_findMost_18 : decode cX12_findMost 18 = .ok (.invokevirtual 352, 3) := by decide +kernel
theorem dX12_findMost_21 : decode cX12_findMost 21 = .ok (.istore_n 3, 1) := by decide +kernel
theorem dX12_findMost_22 : decode cX12_findMost 22 = .ok (.iload_n 1, 1) := by decide +kernel
theorem dX12_findMost_23 : decode cX12_findMost 23 = .ok (.ifCond .lt 14, 3) := by decide +kernel
theorem dX12_findMost_26 : decode cX12_findMost 26 = .ok (.iload_n 3, 1) := by decide +kernel
theorem dX12_findMost_27 : decode cX12_findMost 27 = .ok (.aload_n 0, 1) := by decide +kernel
theorem dX12_findMost_28 : decode cX12_findMost 28 = .ok (.getfield 356, 3) := by decide +kernel
theorem dX12_findMost_31 : decode cX12_findMost 31 = .ok (.if_icmp .gt 6, 3) := by decide +kernel
theorem dX12_findMost_34 : decode cX12_findMost 34 = .ok (.goto 10, 3) := by decide +kernel
theorem dX12_findMost_37 : decode cX12_findMost 37 = .ok (.iload_n 2, 1) := by decide +kernel
theorem dX12_findMost_38 : decode cX12_findMost 38 = .ok (.istore_n 1, 1) := by decide +kernel
theorem dX12_findMost_39 : decode cX12_findMost 39 = .ok (.aload_n 0, 1) := by decide +kernel
theorem dX12_findMost_40 : decode cX12_findMost 40 = .ok (.iload_n 3, 1) := by decide +kernel
theorem dX12_findMost_41 : decode cX12_findMost 41 = .ok (.putfield 356, 3) := by decide +kernel
theorem dX12_findMost_44 : decode cX12_findMost 44 = .ok (.iinc 2 1, 3) := by decide +kernel
theorem dX12_findMost_47 : decode cX12_findMost 47 = .ok (.goto (-43), 3) := by decide +kernel
theorem dX12_findMost_50 : decode cX12_findMost 50 = .ok (.iload_n 1, 1) := by decide +kernel
theorem dX12_findMost_51 : decode cX12_findMost 51 = .ok (.ireturn, 1) := by decide +kernel
theorem dX12_most_0 : decode cX12_most 0 = .ok (.iload_n 1, 1) := by decide +kernel
theorem dX12_most_1 : decode cX12_most 1 = .ok (.iconst 0, 1) := by decide +kernel
theorem dX12_most_2 : decode cX12_most 2 = .ok (.iconst 1, 1) := by decide +kernel
theorem dX12_most_3 : decode cX12_most 3 = .ok (.invokestatic 140, 3) := by decide +kernel
theorem dX12_most_6 : decode cX12_most 6 = .ok (.ifCond .ne 5, 3) := by decide +kernel
theorem dX12_most_9 : decode cX12_most 9 = .ok (.iconst (-1), 1) := by decide +kernel
theorem dX12_most_10 : decode cX12_most 10 = .ok (.ireturn, 1) := by decide +kernel
theorem dX12_most_11 : decode cX12_most 11 = .ok (.aload_n 0, 1) := by decide +kernel
theorem dX12_most_12 : decode cX12_most 12 = .ok (.invokevirtual 335, 3) := by decide +kernel
theorem dX12_most_15 : decode cX12_most 15 = .ok (.ifCond .ne 6, 3) := by decide +kernel
theorem dX12_most_18 : decode cX12_most 18 = .ok (.bipush (-5), 2) := by decide +kernel
theorem dX12_most_20 : decode cX12_most 20 = .ok (.ireturn, 1) := by decide +kernel
theorem dX12_most_21 : decode cX12_most 21 = .ok (.aload_n 0, 1) := by decide +kernel
theorem dX12_most_22 : decode cX12_most 22 = .ok (.aload_n 0, 1) := by decide +kernel
theorem dX12_most_23 : decode cX12_most 23 = .ok (.getfield 19, 3) := by decide +kernel
theorem dX12_most_26 : decode cX12_most 26 = .ok (.iconst 0, 1) := by decide +kernel
theorem dX12_most_27 : decode cX12_most 27 = .ok (.iaload, 1) := by decide +kernel
theorem dX12_most_28 : decode cX12_most 28 = .ok (.iconst 1, 1) := by decide +kernel
theorem dX12_most_29 : decode cX12_most 29 = .ok (.invokevirtual 270, 3) := by decide +kernel
theorem dX12_most_32 : decode cX12_most 32 = .ok (.aload_n 0, 1) := by decide +kernel
theorem dX12_most_33 : decode cX12_most 33 = .ok (.invokevirtual 359, 3) := by decide +kernel
theorem dX12_most_36 : decode cX12_most 36 = .ok (.istore_n 2, 1) := by decide +kernel
theorem dX12_most_37 : decode cX12_most 37 = .ok (.iload_n 2, 1) := by decide +kernel
theorem dX12_most_38 : decode cX12_most 38 = .ok (.ifCond .ge 6, 3) := by decide +kernel
theorem dX12_most_41 : decode cX12_most 41 = .ok (.bipush (-2), 2) := by decide +kernel
theorem dX12_most_43 : decode cX12_most 43 = .ok (.ireturn, 1) := by decide +kernel
theorem dX12_most_44 : decode cX12_most 44 = .ok (.iload_n 1, 1) := by decide +kernel
theorem dX12_most_45 : decode cX12_most 45 = .ok (.ifCond .ne 11, 3) := by decide +kernel
theorem dX12_most_48 : decode cX12_most 48 = .ok (.aload_n 0, 1) := by decide +kernel
theorem dX12_most_49 : decode cX12_most 49 = .ok (.iload_n 2, 1) := by decide +kernel
theorem dX12_most_50 : decode cX12_most 50 = .ok (.invokevirtual 326, 3) := by decide +kernel
theorem dX12_most_53 : decode cX12_most 53 = .ok (.goto 7, 3) := by decide +kernel
theorem dX12_most_56 : decode cX12_most 56 = .ok (.aload_n 0, 1) := by decide +kernel
theorem dX12_most_57 : decode cX12_most 57 = .ok (.getfield 356, 3) := by decide +kernel
theorem dX12_most_60 : decode cX12_most 60 = .ok (.ireturn, 1) := by decide +kernel
theorem dX12_fewest_0 : decode cX12_fewest 0 = .ok (.iload_n 1, 1) := by decide +kernel
theorem dX12_fewest_1 : decode cX12_fewest 1 = .ok (.iconst 0, 1) := by decide +kernel
theorem dX12_fewest_2 : decode cX12_fewest 2 = .ok (.iconst 5, 1) := by decide +kernel
theorem dX12_fewest_3 : decode cX12_fewest 3 = .ok (.invokestatic 140, 3) := by decide +kernel
theorem dX12_fewest_6 : decode cX12_fewest 6 = .ok (.ifCond .ne 5, 3) := by decide +kernel
theorem dX12_fewest_9 : decode cX12_fewest 9 = .ok (.iconst (-1), 1) := by decide +kernel
theorem dX12_fewest_10 : decode cX12_fewest 10 = .ok (.ireturn, 1) := by decide +kernel
theorem dX12_fewest_11 : decode cX12_fewest 11 = .ok (.aload_n 0, 1) := by decide +kernel
theorem dX12_fewest_12 : decode cX12_fewest 12 = .ok (.invokevirtual 257, 3) := by decide +kernel
theorem dX12_fewest_15 : decode cX12_fewest 15 = .ok (.iconst 0, 1) := by decide +kernel
theorem dX12_fewest_16 : decode cX12_fewest 16 = .ok (.istore_n 2, 1) := by decide +kernel
theorem dX12_fewest_17 : decode cX12_fewest 17 = .ok (.iload_n 2, 1) := by decide +kernel
theorem dX12_fewest_18 : decode cX12_fewest 18 = .ok (.bipush 9, 2) := by decide +kernel
theorem dX12_fewest_20 : decode cX12_fewest 20 = .ok (.if_icmp .gt 32, 3) := by decide +kernel
theorem dX12_fewest_23 : decode cX12_fewest 23 = .ok (.aload_n 0, 1) := by decide +kernel
theorem dX12_fewest_24 : decode cX12_fewest 24 = .ok (.iload_n 2, 1) := by decide +kernel
theorem dX12_fewest_25 : decode cX12_fewest 25 = .ok (.iconst 1, 1) := by decide +kernel
theorem dX12_fewest_26 : decode cX12_fewest 26 = .ok (.invokevirtual 270, 3) := by decide +kernel
theorem dX12_fewest_29 : decode cX12_fewest 29 = .ok (.aload_n 0, 1) := by decide +kernel
theorem dX12_fewest_30 : decode cX12_fewest 30 = .ok (.invokevirtual 359, 3) := by decide +kernel
theorem dX12_fewest_33 : decode cX12_fewest 33 = .ok (.ifCond .lt 13, 3) := by decide +kernel
theorem dX12_fewest_36 : decode cX12_fewest 36 = .ok (.aload_n 0, 1) := by decide +kernel
theorem dX12_fewest_37 : decode cX12_fewest 37 = .ok (.getfield 356, 3) := by decide +kernel
theorem dX12_fewest_40 : decode cX12_fewest 40 = .ok (.iload_n 1, 1) := by decide +kernel
theorem dX12_fewest_41 : decode cX12_fewest 41 = .ok (.if_icmp .lt 5, 3) := by decide +kernel
theorem dX12_fewest_44 : decode cX12_fewest 44 = .ok (.iload_n 2, 1) := by decide +kernel
theorem dX12_fewest_45 : decode cX12_fewest 45 = .ok (.ireturn, 1) := by decide +kernel
theorem dX12_fewest_46 : decode cX12_fewest 46 = .ok (.iinc 2 1, 3) := by decide +kernel
theorem dX12_fewest_49 : decode cX12_fewest 49 = .ok (.goto (-32), 3) := by decide +kernel
theorem dX12_fewest_52 : decode cX12_fewest 52 = .ok (.bipush (-2), 2) := by decide +kernel
theorem dX12_fewest_54 : decode cX12_fewest 54 = .ok (.ireturn, 1) := by decide +kernel
theorem dX12_sentAt_0 : decode cX12_sentAt 0 = .ok (.aload_n 0, 1) := by decide +kernel
theorem dX12_sentAt_1 : decode cX12_sentAt 1 = .ok (.getfield 102, 3) := by decide +kernel
theorem dX12_sentAt_4 : decode cX12_sentAt 4 = .ok (.iconst 5, 1) := by decide +kernel
theorem dX12_sentAt_5 : decode cX12_sentAt 5 = .ok (.bipush 31, 2) := by decide +kernel
theorem dX12_sentAt_7 : decode cX12_sentAt 7 = .ok (.iload_n 1, 1) := by decide +kernel
theorem dX12_sentAt_8 : decode cX12_sentAt 8 = .ok (.imul, 1) := by decide +kernel
theorem dX12_sentAt_9 : decode cX12_sentAt 9 = .ok (.iload_n 2, 1) := by decide +kernel
theorem dX12_sentAt_10 : decode cX12_sentAt 10 = .ok (.iadd, 1) := by decide +kernel
theorem dX12_sentAt_11 : decode cX12_sentAt 11 = .ok (.imul, 1) := by decide +kernel
theorem dX12_sentAt_12 : decode cX12_sentAt 12 = .ok (.iload_n 3, 1) := by decide +kernel
theorem dX12_sentAt_13 : decode cX12_sentAt 13 = .ok (.iadd, 1) := by decide +kernel
theorem dX12_sentAt_14 : decode cX12_sentAt 14 = .ok (.baload, 1) := by decide +kernel
theorem dX12_sentAt_15 : decode cX12_sentAt 15 = .ok (.ireturn, 1) := by decide +kernel
theorem dX12_send_0 : decode cX12_send 0 = .ok (.iconst 0, 1) := by decide +kernel
theorem dX12_send_1 : decode cX12_send 1 = .ok (.istore_n 3, 1) := by decide +kernel
theorem dX12_send_2 : decode cX12_send 2 = .ok (.iload_n 3, 1) := by decide +kernel
theorem dX12_send_3 : decode cX12_send 3 = .ok (.aload_n 0, 1) := by decide +kernel
theorem dX12_send_4 : decode cX12_send 4 = .ok (.getfield 137, 3) := by decide +kernel
theorem dX12_send_7 : decode cX12_send 7 = .ok (.if_icmp .ge 52, 3) := by decide +kernel
theorem dX12_send_10 : decode cX12_send 10 = .ok (.aload_n 0, 1) := by decide +kernel
theorem dX12_send_11 : decode cX12_send 11 = .ok (.getfield 102, 3) := by decide +kernel
theorem dX12_send_14 : decode cX12_send 14 = .ok (.iconst 5, 1) := by decide +kernel
theorem dX12_send_15 : decode cX12_send 15 = .ok (.bipush 31, 2) := by decide +kernel
theorem dX12_send_17 : decode cX12_send 17 = .ok (.iload_n 1, 1) := by decide +kernel
theorem dX12_send_18 : decode cX12_send 18 = .ok (.imul, 1) := by decide +kernel
theorem dX12_send_19 : decode cX12_send 19 = .ok (.iload_n 2, 1) := by decide +kernel
theorem dX12_send_20 : decode cX12_send 20 = .ok (.iadd, 1) := by decide +kernel
theorem dX12_send_21 : decode cX12_send 21 = .ok (.imul, 1) := by decide +kernel
theorem dX12_send_22 : decode cX12_send 22 = .ok (.iload_n 3, 1) := by decide +kernel
theorem dX12_send_23 : decode cX12_send 23 = .ok (.iadd, 1) := by decide +kernel
theorem dX12_send_24 : decode cX12_send 24 = .ok (.iload_n 2, 1) := by decide +kernel
theorem dX12_send_25 : decode cX12_send 25 = .ok (.ifCond .ne 14, 3) := by decide +kernel
theorem dX12_send_28 : decode cX12_send 28 = .ok (.aload_n 0, 1) := by decide +kernel
theorem dX12_send_29 : decode cX12_send 29 = .ok (.iload_n 1, 1) := by decide +kernel
theorem dX12_send_30 : decode cX12_send 30 = .ok (.iconst 0, 1) := by decide +kernel
theorem dX12_send_31 : decode cX12_send 31 = .ok (.iload_n 3, 1) := by decide +kernel
theorem dX12_send_32 : decode cX12_send 32 = .ok (.invokevirtual 287, 3) := by decide +kernel
theorem dX12_send_35 : decode cX12_send 35 = .ok (.i2b, 1) := by decide +kernel
theorem dX12_send_36 : decode cX12_send 36 = .ok (.goto 16, 3) := by decide +kernel
theorem dX12_send_39 : decode cX12_send 39 = .ok (.aload_n 0, 1) := by decide +kernel
theorem dX12_send_40 : decode cX12_send 40 = .ok (.getfield 78, 3) := by decide +kernel
theorem dX12_send_43 : decode cX12_send 43 = .ok (.iconst 5, 1) := by decide +kernel
theorem dX12_send_44 : decode cX12_send 44 = .ok (.aload_n 0, 1) := by decide +kernel
theorem dX12_send_45 : decode cX12_send 45 = .ok (.getfield 297, 3) := by decide +kernel
theorem dX12_send_48 : decode cX12_send 48 = .ok (.imul, 1) := by decide +kernel
theorem dX12_send_49 : decode cX12_send 49 = .ok (.iload_n 3, 1) := by decide +kernel
theorem dX12_send_50 : decode cX12_send 50 = .ok (.iadd, 1) := by decide +kernel
theorem dX12_send_51 : decode cX12_send 51 = .ok (.baload, 1) := by decide +kernel
theorem dX12_send_52 : decode cX12_send 52 = .ok (.bastore, 1) := by decide +kernel
theorem dX12_send_53 : decode cX12_send 53 = .ok (.iinc 3 1, 3) := by decide +kernel
theorem dX12_send_56 : decode cX12_send 56 = .ok (.goto (-54), 3) := by decide +kernel
theorem dX12_send_59 : decode cX12_send 59 = .ok (.return_, 1) := by decide +kernel
theorem dX12_goYears_0 : decode cX12_goYears 0 = .ok (.aload_n 0, 1) := by decide +kernel
theorem dX12_goYears_1 : decode cX12_goYears 1 = .ok (.invokevirtual 257, 3) := by decide +kernel
theorem dX12_goYears_4 : decode cX12_goYears 4 = .ok (.aload_n 0, 1) := by decide +kernel
theorem dX12_goYears_5 : decode cX12_goYears 5 = .ok (.iconst 0, 1) := by decide +kernel
theorem dX12_goYears_6 : decode cX12_goYears 6 = .ok (.iconst 0, 1) := by decide +kernel
theorem dX12_goYears_7 : decode cX12_goYears 7 = .ok (.invokevirtual 362, 3) := by decide +kernel
theorem dX12_goYears_10 : decode cX12_goYears 10 = .ok (.aload_n 0, 1) := by decide +kernel
theorem dX12_goYears_11 : decode cX12_goYears 11 = .ok (.iconst 1, 1) := by decide +kernel
theorem dX12_goYears_12 : decode cX12_goYears 12 = .ok (.iconst 0, 1) := by decide +kernel
theorem dX12_goYears_13 : decode cX12_goYears 13 = .ok (.invokevirtual 362, 3) := by decide +kernel
theorem dX12_goYears_16 : decode cX12_goYears 16 = .ok (.iconst 1, 1) := by decide +kernel
theorem dX12_goYears_17 : decode cX12_goYears 17 = .ok (.istore_n 2, 1) := by decide +kernel
theorem dX12_goYears_18 : decode cX12_goYears 18 = .ok (.iload_n 2, 1) := by decide +kernel
theorem dX12_goYears_19 : decode cX12_goYears 19 = .ok (.iload_n 1, 1) := by decide +kernel
theorem dX12_goYears_20 : decode cX12_goYears 20 = .ok (.if_icmp .gt 99, 3) := by decide +kernel
theorem dX12_goYears_23 : decode cX12_goYears 23 = .ok (.iconst 0, 1) := by decide +kernel
theorem dX12_goYears_24 : decode cX12_goYears 24 = .ok (.istore_n 3, 1) := by decide +kernel
theorem dX12_goYears_25 : decode cX12_goYears 25 = .ok (.iload_n 3, 1) := by decide +kernel
theorem dX12_goYears_26 : decode cX12_goYears 26 = .ok (.iconst 2, 1) := by decide +kernel
theorem dX12_goYears_27 : decode cX12_goYears 27 = .ok (.if_icmp .ge 86, 3) := by decide +kernel
theorem dX12_goYears_30 : decode cX12_goYears 30 = .ok (.aload_n 0, 1) := by decide +kernel
theorem dX12_goYears_31 : decode cX12_goYears 31 = .ok (.invokevirtual 281, 3) := by decide +kernel
theorem dX12_goYears_34 : decode cX12_goYears 34 = .ok (.iconst 0, 1) := by decide +kernel
theorem dX12_goYears_35 : decode cX12_goYears 35 = .ok (.istore 4, 2) := by decide +kernel
theorem dX12_goYears_37 : decode cX12_goYears 37 = .ok (.iload 4, 2) := by decide +kernel
theorem dX12_goYears_39 : decode cX12_goYears 39 = .ok (.iload_n 2, 1) := by decide +kernel
theorem dX12_goYears_40 : decode cX12_goYears 40 = .ok (.if_icmp .ge 46, 3) := by decide +kernel
theorem dX12_goYears_43 : decode cX12_goYears 43 = .ok (.iconst 0, 1) := by decide +kernel
theorem dX12_goYears_44 : decode cX12_goYears 44 = .ok (.istore 5, 2) := by decide +kernel
theorem dX12_goYears_46 : decode cX12_goYears 46 = .ok (.iload 5, 2) := by decide +kernel
theorem dX12_goYears_48 : decode cX12_goYears 48 = .ok (.aload_n 0, 1) := by decide +kernel
theorem dX12_goYears_49 : decode cX12_goYears 49 = .ok (.getfield 137, 3) := by decide +kernel
theorem dX12_goYears_52 : decode cX12_goYears 52 = .ok (.if_icmp .ge 28, 3) := by decide +kernel
theorem dX12_goYears_55 : decode cX12_goYears 55 = .ok (.aload_n 0, 1) := by decide +kernel
theorem dX12_goYears_56 : decode cX12_goYears 56 = .ok (.iload_n 3, 1) := by decide +kernel
theorem dX12_goYears_57 : decode cX12_goYears 57 = .ok (.iload 5, 2) := by decide +kernel
theorem dX12_goYears_59 : decode cX12_goYears 59 = .ok (.aload_n 0, 1) := by decide +kernel
theorem dX12_goYears_60 : decode cX12_goYears 60 = .ok (.iconst 1, 1) := by decide +kernel
theorem dX12_goYears_61 : decode cX12_goYears 61 = .ok (.iload_n 3, 1) := by decide +kernel
theorem dX12_goYears_62 : decode cX12_goYears 62 = .ok (.isub, 1) := by decide +kernel
theorem dX12_goYears_63 : decode cX12_goYears 63 = .ok (.iload 4, 2) := by decide +kernel
theorem dX12_goYears_65 : decode cX12_goYears 65 = .ok (.iload 5, 2) := by decide +kernel
theorem dX12_goYears_67 : decode cX12_goYears 67 = .ok (.invokevirtual 365, 3) := by decide +kernel
theorem dX12_goYears_70 : decode cX12_goYears 70 = .ok (.iconst 1, 1) := by decide +kernel
theorem dX12_goYears_71 : decode cX12_goYears 71 = .ok (.invokevirtual 293, 3) := by decide +kernel
theorem dX12_goYears_74 : decode cX12_goYears 74 = .ok (.iinc 5 1, 3) := by decide +kernel
theorem dX12_goYears_77 : decode cX12_goYears 77 = .ok (.goto (-31), 3) := by decide +kernel
theorem dX12_goYears_80 : decode cX12_goYears 80 = .ok (.iinc 4 1, 3) := by decide +kernel
theorem dX12_goYears_83 : decode cX12_goYears 83 = .ok (.goto (-46), 3) := by decide +kernel
theorem dX12_goYears_86 : decode cX12_goYears 86 = .ok (.aload_n 0, 1) := by decide +kernel
theorem dX12_goYears_87 : decode cX12_goYears 87 = .ok (.aload_n 0, 1) := by decide +kernel
theorem dX12_goYears_88 : decode cX12_goYears 88 = .ok (.getfield 19, 3) := by decide +kernel
theorem dX12_goYears_91 : decode cX12_goYears 91 = .ok (.iload_n 3, 1) := by decide +kernel
theorem dX12_goYears_92 : decode cX12_goYears 92 = .ok (.iaload, 1) := by decide +kernel
theorem dX12_goYears_93 : decode cX12_goYears 93 = .ok (.iconst 0, 1) := by decide +kernel
theorem dX12_goYears_94 : decode cX12_goYears 94 = .ok (.invokevirtual 270, 3) := by decide +kernel
theorem dX12_goYears_97 : decode cX12_goYears 97 = .ok (.aload_n 0, 1) := by decide +kernel
theorem dX12_goYears_98 : decode cX12_goYears 98 = .ok (.invokevirtual 323, 3) := by decide +kernel
theorem dX12_goYears_101 : decode cX12_goYears 101 = .ok (.aload_n 0, 1) := by decide +kernel
theorem dX12_goYears_102 : decode cX12_goYears 102 = .ok (.iload_n 3, 1) := by decide +kernel
theorem dX12_goYears_103 : decode cX12_goYears 103 = .ok (.iload_n 2, 1) := by decide +kernel
theorem dX12_goYears_104 : decode cX12_goYears 104 = .ok (.invokevirtual 362, 3) := by decide +kernel
theorem dX12_goYears_107 : decode cX12_goYears 107 = .ok (.iinc 3 1, 3) := by decide +kernel
theorem dX12_goYears_110 : decode cX12_goYears 110 = .ok (.goto (-85), 3) := by decide +kernel
theorem dX12_goYears_113 : decode cX12_goYears 113 = .ok (.iinc 2 1, 3) := by decide +kernel
theorem dX12_goYears_116 : decode cX12_goYears 116 = .ok (.goto (-98), 3) := by decide +kernel
theorem dX12_goYears_119 : decode cX12_goYears 119 = .ok (.return_, 1) := by decide +kernel
theorem dX12_year_0 : decode cX12_year 0 = .ok (.iload_n 1, 1) := by decide +kernel
theorem dX12_year_1 : decode cX12_year 1 = .ok (.invokestatic 158, 3) := by decide +kernel
theorem dX12_year_4 : decode cX12_year 4 = .ok (.ifCond .eq 13, 3) := by decide +kernel
theorem dX12_year_7 : decode cX12_year 7 = .ok (.iload_n 2, 1) := by decide +kernel
theorem dX12_year_8 : decode cX12_year 8 = .ok (.iconst 0, 1) := by decide +kernel
theorem dX12_year_9 : decode cX12_year 9 = .ok (.bipush 30, 2) := by decide +kernel
theorem dX12_year_11 : decode cX12_year 11 = .ok (.invokestatic 140, 3) := by decide +kernel
theorem dX12_year_14 : decode cX12_year 14 = .ok (.ifCond .ne 5, 3) := by decide +kernel
theorem dX12_year_17 : decode cX12_year 17 = .ok (.iconst (-1), 1) := by decide +kernel
theorem dX12_year_18 : decode cX12_year 18 = .ok (.ireturn, 1) := by decide +kernel
theorem dX12_year_19 : decode cX12_year 19 = .ok (.aload_n 0, 1) := by decide +kernel
theorem dX12_year_20 : decode cX12_year 20 = .ok (.iload_n 2, 1) := by decide +kernel
theorem dX12_year_21 : decode cX12_year 21 = .ok (.invokevirtual 368, 3) := by decide +kernel
theorem dX12_year_24 : decode cX12_year 24 = .ok (.aload_n 0, 1) := by decide +kernel
theorem dX12_year_25 : decode cX12_year 25 = .ok (.getfield 102, 3) := by decide +kernel
theorem dX12_year_28 : decode cX12_year 28 = .ok (.bipush 31, 2) := by decide +kernel
theorem dX12_year_30 : decode cX12_year 30 = .ok (.iload_n 1, 1) := by decide +kernel
theorem dX12_year_31 : decode cX12_year 31 = .ok (.imul, 1) := by decide +kernel
theorem dX12_year_32 : decode cX12_year 32 = .ok (.iload_n 2, 1) := by decide +kernel
theorem dX12_year_33 : decode cX12_year 33 = .ok (.iadd, 1) := by decide +kernel
theorem dX12_year_34 : decode cX12_year 34 = .ok (.aload_n 0, 1) := by decide +kernel
theorem dX12_year_35 : decode cX12_year 35 = .ok (.getfield 137, 3) := by decide +kernel
theorem dX12_year_38 : decode cX12_year 38 = .ok (.invokestatic 342, 3) := by decide +kernel
theorem dX12_year_41 : decode cX12_year 41 = .ok (.ireturn, 1) := by decide +kernel
theorem dX12_years_0 : decode cX12_years 0 = .ok (.iload_n 1, 1) := by decide +kernel
theorem dX12_years_1 : decode cX12_years 1 = .ok (.iconst 0, 1) := by decide +kernel
theorem dX12_years_2 : decode cX12_years 2 = .ok (.bipush 30, 2) := by decide +kernel
theorem dX12_years_4 : decode cX12_years 4 = .ok (.invokestatic 140, 3) := by decide +kernel
theorem dX12_years_7 : decode cX12_years 7 = .ok (.ifCond .ne 7, 3) := by decide +kernel
theorem dX12_years_10 : decode cX12_years 10 = .ok (.ldc_w 256, 3) := by decide +kernel
theorem dX12_years_13 : decode cX12_years 13 = .ok (.ireturn, 1) := by decide +kernel
theorem dX12_years_14 : decode cX12_years 14 = .ok (.aload_n 0, 1) := by decide +kernel
theorem dX12_years_15 : decode cX12_years 15 = .ok (.iload_n 1, 1) := by decide +kernel
theorem dX12_years_16 : decode cX12_years 16 = .ok (.invokevirtual 368, 3) := by decide +kernel
theorem dX12_years_19 : decode cX12_years 19 = .ok (.iconst 0, 1) := by decide +kernel
theorem dX12_years_20 : decode cX12_years 20 = .ok (.istore_n 2, 1) := by decide +kernel
theorem dX12_years_21 : decode cX12_years 21 = .ok (.iconst 0, 1) := by decide +kernel
theorem dX12_years_22 : decode cX12_years 22 = .ok (.istore_n 3, 1) := by decide +kernel
theorem dX12_years_23 : decode cX12_years 23 = .ok (.iload_n 3, 1) := by decide +kernel
theorem dX12_years_24 : decode cX12_years 24 = .ok (.iload_n 1, 1) := by decide +kernel
theorem dX12_years_25 : decode cX12_years 25 = .ok (.if_icmp .gt 52, 3) := by decide +kernel
theorem dX12_years_28 : decode cX12_years 28 = .ok (.iconst 0, 1) := by decide +kernel
theorem dX12_years_29 : decode cX12_years 29 = .ok (.istore 4, 2) := by decide +kernel
theorem dX12_years_31 : decode cX12_years 31 = .ok (.iload 4, 2) := by decide +kernel
theorem dX12_years_33 : decode cX12_years 33 = .ok (.aload_n 0, 1) := by decide +kernel
theorem dX12_years_34 : decode cX12_years 34 = .ok (.getfield 137, 3) := by decide +kernel
theorem dX12_years_37 : decode cX12_years 37 = .ok (.if_icmp .ge 34, 3) := by decide +kernel
theorem dX12_years_40 : decode cX12_years 40 = .ok (.iload_n 2, 1) := by decide +kernel
theorem dX12_years_41 : decode cX12_years 41 = .ok (.aload_n 0, 1) := by decide +kernel
theorem dX12_years_42 : decode cX12_years 42 = .ok (.iload 4, 2) := by decide +kernel
theorem dX12_years_44 : decode cX12_years 44 = .ok (.aload_n 0, 1) := by decide +kernel
theorem dX12_years_45 : decode cX12_years 45 = .ok (.iconst 0, 1) := by decide +kernel
theorem dX12_years_46 : decode cX12_years 46 = .ok (.iload_n 3, 1) := by decide +kernel
theorem dX12_years_47 : decode cX12_years 47 = .ok (.iload 4, 2) := by decide +kernel
theorem dX12_years_49 : decode cX12_years 49 = .ok (.invokevirtual 365, 3) := by decide +kernel
theorem dX12_years_52 : decode cX12_years 52 = .ok (.aload_n 0, 1) := by decide +kernel
theorem dX12_years_53 : decode cX12_years 53 = .ok (.iconst 1, 1) := by decide +kernel
theorem dX12_years_54 : decode cX12_years 54 = .ok (.iload_n 3, 1) := by decide +kernel
theorem dX12_years_55 : decode cX12_years 55 = .ok (.iload 4, 2) := by decide +kernel
theorem dX12_years_57 : decode cX12_years 57 = .ok (.invokevirtual 365, 3) := by decide +kernel
theorem dX12_years_60 : decode cX12_years 60 = .ok (.invokevirtual 260, 3) := by decide +kernel
theorem dX12_years_63 : decode cX12_years 63 = .ok (.iadd, 1) := by decide +kernel
theorem dX12_years_64 : decode cX12_years 64 = .ok (.istore_n 2, 1) := by decide +kernel
theorem dX12_years_65 : decode cX12_years 65 = .ok (.iinc 4 1, 3) := by decide +kernel
theorem dX12_years_68 : decode cX12_years 68 = .ok (.goto (-37), 3) := by decide +kernel
theorem dX12_years_71 : decode cX12_years 71 = .ok (.iinc 3 1, 3) := by decide +kernel
theorem dX12_years_74 : decode cX12_years 74 = .ok (.goto (-51), 3) := by decide +kernel
theorem dX12_years_77 : decode cX12_years 77 = .ok (.iload_n 2, 1) := by decide +kernel
theorem dX12_years_78 : decode cX12_years 78 = .ok (.ireturn, 1) := by decide +kernel
theorem dX12_image_0 : decode cX12_image 0 = .ok (.aload_n 0, 1) := by decide +kernel
theorem dX12_image_1 : decode cX12_image 1 = .ok (.iconst 1, 1) := by decide +kernel
theorem dX12_image_2 : decode cX12_image 2 = .ok (.putfield 371, 3) := by decide +kernel
theorem dX12_image_5 : decode cX12_image 5 = .ok (.iconst 0, 1) := by decide +kernel
theorem dX12_image_6 : decode cX12_image 6 = .ok (.istore_n 1, 1) := by decide +kernel
theorem dX12_image_7 : decode cX12_image 7 = .ok (.iload_n 1, 1) := by decide +kernel
theorem dX12_image_8 : decode cX12_image 8 = .ok (.iconst 2, 1) := by decide +kernel
theorem dX12_image_9 : decode cX12_image 9 = .ok (.if_icmp .ge 21, 3) := by decide +kernel
theorem dX12_image_12 : decode cX12_image 12 = .ok (.aload_n 0, 1) := by decide +kernel
theorem dX12_image_13 : decode cX12_image 13 = .ok (.getfield 105, 3) := by decide +kernel
theorem dX12_image_16 : decode cX12_image 16 = .ok (.iload_n 1, 1) := by decide +kernel
theorem dX12_image_17 : decode cX12_image 17 = .ok (.aload_n 0, 1) := by decide +kernel
theorem dX12_image_18 : decode cX12_image 18 = .ok (.getfield 22, 3) := by decide +kernel
theorem dX12_image_21 : decode cX12_image 21 = .ok (.iload_n 1, 1) := by decide +kernel
theorem dX12_image_22 : decode cX12_image 22 = .ok (.iaload, 1) := by decide +kernel
theorem dX12_image_23 : decode cX12_image 23 = .ok (.iastore, 1) := by decide +kernel
theorem dX12_image_24 : decode cX12_image 24 = .ok (.iinc 1 1, 3) := by decide +kernel
theorem dX12_image_27 : decode cX12_image 27 = .ok (.goto (-20), 3) := by decide +kernel
theorem dX12_image_30 : decode cX12_image 30 = .ok (.iconst 0, 1) := by decide +kernel
theorem dX12_image_31 : decode cX12_image 31 = .ok (.istore_n 1, 1) := by decide +kernel
theorem dX12_image_32 : decode cX12_image 32 = .ok (.iload_n 1, 1) := by decide +kernel
theorem dX12_image_33 : decode cX12_image 33 = .ok (.bipush 16, 2) := by decide +kernel
theorem dX12_image_35 : decode cX12_image 35 = .ok (.if_icmp .ge 21, 3) := by decide +kernel
theorem dX12_image_38 : decode cX12_image 38 = .ok (.aload_n 0, 1) := by decide +kernel
theorem dX12_image_39 : decode cX12_image 39 = .ok (.getfield 108, 3) := by decide +kernel
theorem dX12_image_42 : decode cX12_image 42 = .ok (.iload_n 1, 1) := by decide +kernel
theorem dX12_image_43 : decode cX12_image 43 = .ok (.aload_n 0, 1) := by decide +kernel
theorem dX12_image_44 : decode cX12_image 44 = .ok (.getfield 25, 3) := by decide +kernel
theorem dX12_image_47 : decode cX12_image 47 = .ok (.iload_n 1, 1) := by decide +kernel
theorem dX12_image_48 : decode cX12_image 48 = .ok (.iaload, 1) := by decide +kernel
theorem dX12_image_49 : decode cX12_image 49 = .ok (.iastore, 1) := by decide +kernel
theorem dX12_image_50 : decode cX12_image 50 = .ok (.iinc 1 1, 3) := by decide +kernel
theorem dX12_image_53 : decode cX12_image 53 = .ok (.goto (-21), 3) := by decide +kernel
theorem dX12_image_56 : decode cX12_image 56 = .ok (.iconst 0, 1) := by decide +kernel
theorem dX12_image_57 : decode cX12_image 57 = .ok (.istore_n 1, 1) := by decide +kernel
theorem dX12_image_58 : decode cX12_image 58 = .ok (.iload_n 1, 1) := by decide +kernel
theorem dX12_image_59 : decode cX12_image 59 = .ok (.bipush 80, 2) := by decide +kernel
theorem dX12_image_61 : decode cX12_image 61 = .ok (.if_icmp .ge 21, 3) := by decide +kernel
theorem dX12_image_64 : decode cX12_image 64 = .ok (.aload_n 0, 1) := by decide +kernel
theorem dX12_image_65 : decode cX12_image 65 = .ok (.getfield 111, 3) := by decide +kernel
theorem dX12_image_68 : decode cX12_image 68 = .ok (.iload_n 1, 1) := by decide +kernel
theorem dX12_image_69 : decode cX12_image 69 = .ok (.aload_n 0, 1) := by decide +kernel
theorem dX12_image_70 : decode cX12_image 70 = .ok (.getfield 28, 3) := by decide +kernel
theorem dX12_image_73 : decode cX12_image 73 = .ok (.iload_n 1, 1) := by decide +kernel
theorem dX12_image_74 : decode cX12_image 74 = .ok (.baload, 1) := by decide +kernel
theorem dX12_image_75 : decode cX12_image 75 = .ok (.bastore, 1) := by decide +kernel
theorem dX12_image_76 : decode cX12_image 76 = .ok (.iinc 1 1, 3) := by decide +kernel
theorem dX12_image_79 : decode cX12_image 79 = .ok (.goto (-21), 3) := by decide +kernel
theorem dX12_image_82 : decode cX12_image 82 = .ok (.aload_n 0, 1) := by decide +kernel
theorem dX12_image_83 : decode cX12_image 83 = .ok (.getfield 22, 3) := by decide +kernel
theorem dX12_image_86 : decode cX12_image 86 = .ok (.iconst 0, 1) := by decide +kernel
theorem dX12_image_87 : decode cX12_image 87 = .ok (.iaload, 1) := by decide +kernel
theorem dX12_image_88 : decode cX12_image 88 = .ok (.aload_n 0, 1) := by decide +kernel
theorem dX12_image_89 : decode cX12_image 89 = .ok (.getfield 22, 3) := by decide +kernel
theorem dX12_image_92 : decode cX12_image 92 = .ok (.iconst 1, 1) := by decide +kernel
theorem dX12_image_93 : decode cX12_image 93 = .ok (.iaload, 1) := by decide +kernel
theorem dX12_image_94 : decode cX12_image 94 = .ok (.iadd, 1) := by decide +kernel
theorem dX12_image_95 : decode cX12_image 95 = .ok (.ireturn, 1) := by decide +kernel
theorem dX12_back_0 : decode cX12_back 0 = .ok (.aload_n 0, 1) := by decide +kernel
theorem dX12_back_1 : decode cX12_back 1 = .ok (.getfield 371, 3) := by decide +kernel
theorem dX12_back_4 : decode cX12_back 4 = .ok (.ifCond .ne 6, 3) := by decide +kernel
theorem dX12_back_7 : decode cX12_back 7 = .ok (.bipush (-5), 2) := by decide +kernel
theorem dX12_back_9 : decode cX12_back 9 = .ok (.ireturn, 1) := by decide +kernel
theorem dX12_back_10 : decode cX12_back 10 = .ok (.iconst 0, 1) := by decide +kernel
theorem dX12_back_11 : decode cX12_back 11 = .ok (.istore_n 1, 1) := by decide +kernel
theorem dX12_back_12 : decode cX12_back 12 = .ok (.iload_n 1, 1) := by decide +kernel
theorem dX12_back_13 : decode cX12_back 13 = .ok (.iconst 2, 1) := by decide +kernel
theorem dX12_back_14 : decode cX12_back 14 = .ok (.if_icmp .ge 21, 3) := by decide +kernel
theorem dX12_back_17 : decode cX12_back 17 = .ok (.aload_n 0, 1) := by decide +kernel
theorem dX12_back_18 : decode cX12_back 18 = .ok (.getfield 22, 3) := by decide +kernel
theorem dX12_back_21 : decode cX12_back 21 = .ok (.iload_n 1, 1) := by decide +kernel
theorem dX12_back_22 : decode cX12_back 22 = .ok (.aload_n 0, 1) := by decide +kernel
theorem dX12_back_23 : decode cX12_back 23 = .ok (.getfield 105, 3) := by decide +kernel
theorem dX12_back_26 : decode cX12_back 26 = .ok (.iload_n 1, 1) := by decide +kernel
theorem dX12_back_27 : decode cX12_back 27 = .ok (.iaload, 1) := by decide +kernel
theorem dX12_back_28 : decode cX12_back 28 = .ok (.iastore, 1) := by decide +kernel
theorem dX12_back_29 : decode cX12_back 29 = .ok (.iinc 1 1, 3) := by decide +kernel
theorem dX12_back_32 : decode cX12_back 32 = .ok (.goto (-20), 3) := by decide +kernel
theorem dX12_back_35 : decode cX12_back 35 = .ok (.iconst 0, 1) := by decide +kernel
theorem dX12_back_36 : decode cX12_back 36 = .ok (.istore_n 1, 1) := by decide +kernel
theorem dX12_back_37 : decode cX12_back 37 = .ok (.iload_n 1, 1) := by decide +kernel
theorem dX12_back_38 : decode cX12_back 38 = .ok (.bipush 16, 2) := by decide +kernel
theorem dX12_back_40 : decode cX12_back 40 = .ok (.if_icmp .ge 21, 3) := by decide +kernel
theorem dX12_back_43 : decode cX12_back 43 = .ok (.aload_n 0, 1) := by decide +kernel
theorem dX12_back_44 : decode cX12_back 44 = .ok (.getfield 25, 3) := by decide +kernel
theorem dX12_back_47 : decode cX12_back 47 = .ok (.iload_n 1, 1) := by decide +kernel
theorem dX12_back_48 : decode cX12_back 48 = .ok (.aload_n 0, 1) := by decide +kernel
theorem dX12_back_49 : decode cX12_back 49 = .ok (.getfield 108, 3) := by decide +kernel
theorem dX12_back_52 : decode cX12_back 52 = .ok (.iload_n 1, 1) := by decide +kernel
theorem dX12_back_53 : decode cX12_back 53 = .ok (.iaload, 1) := by decide +kernel
theorem dX12_back_54 : decode cX12_back 54 = .ok (.iastore, 1) := by decide +kernel
theorem dX12_back_55 : decode cX12_back 55 = .ok (.iinc 1 1, 3) := by decide +kernel
theorem dX12_back_58 : decode cX12_back 58 = .ok (.goto (-21), 3) := by decide +kernel
theorem dX12_back_61 : decode cX12_back 61 = .ok (.iconst 0, 1) := by decide +kernel
theorem dX12_back_62 : decode cX12_back 62 = .ok (.istore_n 1, 1) := by decide +kernel
theorem dX12_back_63 : decode cX12_back 63 = .ok (.iload_n 1, 1) := by decide +kernel
theorem dX12_back_64 : decode cX12_back 64 = .ok (.bipush 80, 2) := by decide +kernel
theorem dX12_back_66 : decode cX12_back 66 = .ok (.if_icmp .ge 21, 3) := by decide +kernel
theorem dX12_back_69 : decode cX12_back 69 = .ok (.aload_n 0, 1) := by decide +kernel
theorem dX12_back_70 : decode cX12_back 70 = .ok (.getfield 28, 3) := by decide +kernel
theorem dX12_back_73 : decode cX12_back 73 = .ok (.iload_n 1, 1) := by decide +kernel
theorem dX12_back_74 : decode cX12_back 74 = .ok (.aload_n 0, 1) := by decide +kernel
theorem dX12_back_75 : decode cX12_back 75 = .ok (.getfield 111, 3) := by decide +kernel
theorem dX12_back_78 : decode cX12_back 78 = .ok (.iload_n 1, 1) := by decide +kernel
theorem dX12_back_79 : decode cX12_back 79 = .ok (.baload, 1) := by decide +kernel
theorem dX12_back_80 : decode cX12_back 80 = .ok (.bastore, 1) := by decide +kernel
theorem dX12_back_81 : decode cX12_back 81 = .ok (.iinc 1 1, 3) := by decide +kernel
theorem dX12_back_84 : decode cX12_back 84 = .ok (.goto (-21), 3) := by decide +kernel
theorem dX12_back_87 : decode cX12_back 87 = .ok (.aload_n 0, 1) := by decide +kernel
theorem dX12_back_88 : decode cX12_back 88 = .ok (.getfield 22, 3) := by decide +kernel
theorem dX12_back_91 : decode cX12_back 91 = .ok (.iconst 0, 1) := by decide +kernel
theorem dX12_back_92 : decode cX12_back 92 = .ok (.iaload, 1) := by decide +kernel
theorem dX12_back_93 : decode cX12_back 93 = .ok (.aload_n 0, 1) := by decide +kernel
theorem dX12_back_94 : decode cX12_back 94 = .ok (.getfield 22, 3) := by decide +kernel
theorem dX12_back_97 : decode cX12_back 97 = .ok (.iconst 1, 1) := by decide +kernel
theorem dX12_back_98 : decode cX12_back 98 = .ok (.iaload, 1) := by decide +kernel
theorem dX12_back_99 : decode cX12_back 99 = .ok (.iadd, 1) := by decide +kernel
theorem dX12_back_100 : decode cX12_back 100 = .ok (.ireturn, 1) := by decide +kernel
theorem dX12_isBody_0 : decode cX12_isBody 0 = .ok (.iload_n 1, 1) := by decide +kernel
theorem dX12_isBody_1 : decode cX12_isBody 1 = .ok (.iconst 0, 1) := by decide +kernel
theorem dX12_isBody_2 : decode cX12_isBody 2 = .ok (.aload_n 0, 1) := by decide +kernel
theorem dX12_isBody_3 : decode cX12_isBody 3 = .ok (.getfield 374, 3) := by decide +kernel
theorem dX12_isBody_6 : decode cX12_isBody 6 = .ok (.iconst 1, 1) := by decide +kernel
theorem dX12_isBody_7 : decode cX12_isBody 7 = .ok (.isub, 1) := by decide +kernel
theorem dX12_isBody_8 : decode cX12_isBody 8 = .ok (.invokestatic 140, 3) := by decide +kernel
theorem dX12_isBody_11 : decode cX12_isBody 11 = .ok (.ireturn, 1) := by decide +kernel
theorem dX12_ran_0 : decode cX12_ran 0 = .ok (.aload_n 0, 1) := by decide +kernel
theorem dX12_ran_1 : decode cX12_ran 1 = .ok (.getfield 377, 3) := by decide +kernel
theorem dX12_ran_4 : decode cX12_ran 4 = .ok (.bipush 24, 2) := by decide +kernel
theorem dX12_ran_6 : decode cX12_ran 6 = .ok (.if_icmp .ge 13, 3) := by decide +kernel
theorem dX12_ran_9 : decode cX12_ran 9 = .ok (.aload_n 0, 1) := by decide +kernel
theorem dX12_ran_10 : decode cX12_ran 10 = .ok (.getfield 117, 3) := by decide +kernel
theorem dX12_ran_13 : decode cX12_ran 13 = .ok (.aload_n 0, 1) := by decide +kernel
theorem dX12_ran_14 : decode cX12_ran 14 = .ok (.getfield 377, 3) := by decide +kernel
theorem dX12_ran_17 : decode cX12_ran 17 = .ok (.iload_n 1, 1) := by decide +kernel
theorem dX12_ran_18 : decode cX12_ran 18 = .ok (.iastore, 1) := by decide +kernel
theorem dX12_ran_19 : decode cX12_ran 19 = .ok (.aload_n 0, 1) := by decide +kernel
theorem dX12_ran_20 : decode cX12_ran 20 = .ok (.dup, 1) := by decide +kernel
theorem dX12_ran_21 : decode cX12_ran 21 = .ok (.getfield 377, 3) := by decide +kernel
theorem dX12_ran_24 : decode cX12_ran 24 = .ok (.iconst 1, 1) := by decide +kernel
theorem dX12_ran_25 : decode cX12_ran 25 = .ok (.iadd, 1) := by decide +kernel
theorem dX12_ran_26 : decode cX12_ran 26 = .ok (.putfield 377, 3) := by decide +kernel
theorem dX12_ran_29 : decode cX12_ran 29 = .ok (.return_, 1) := by decide +kernel
theorem dX12_trace_0 : decode cX12_trace 0 = .ok (.iload_n 1, 1) := by decide +kernel
theorem dX12_trace_1 : decode cX12_trace 1 = .ok (.ifCond .lt 26, 3) := by decide +kernel
theorem dX12_trace_4 : decode cX12_trace 4 = .ok (.iload_n 1, 1) := by decide +kernel
theorem dX12_trace_5 : decode cX12_trace 5 = .ok (.aload_n 0, 1) := by decide +kernel
theorem dX12_trace_6 : decode cX12_trace 6 = .ok (.getfield 377, 3) := by decide +kernel
theorem dX12_trace_9 : decode cX12_trace 9 = .ok (.if_icmp .ge 18, 3) := by decide +kernel
theorem dX12_trace_12 : decode cX12_trace 12 = .ok (.iload_n 1, 1) := by decide +kernel
theorem dX12_trace_13 : decode cX12_trace 13 = .ok (.bipush 24, 2) := by decide +kernel
theorem dX12_trace_15 : decode cX12_trace 15 = .ok (.if_icmp .ge 12, 3) := by decide +kernel
theorem dX12_trace_18 : decode cX12_trace 18 = .ok (.aload_n 0, 1) := by decide +kernel
theorem dX12_trace_19 : decode cX12_trace 19 = .ok (.getfield 117, 3) := by decide +kernel
theorem dX12_trace_22 : decode cX12_trace 22 = .ok (.iload_n 1, 1) := by decide +kernel
theorem dX12_trace_23 : decode cX12_trace 23 = .ok (.iaload, 1) := by decide +kernel
theorem dX12_trace_24 : decode cX12_trace 24 = .ok (.goto 4, 3) := by decide +kernel
theorem dX12_trace_27 : decode cX12_trace 27 = .ok (.iconst (-1), 1) := by decide +kernel
theorem dX12_trace_28 : decode cX12_trace 28 = .ok (.ireturn, 1) := by decide +kernel
theorem dX12_body_0 : decode cX12_body 0 = .ok (.iload_n 1, 1) := by decide +kernel
theorem dX12_body_1 : decode cX12_body 1 = .ok (.iconst 0, 1) := by decide +kernel
theorem dX12_body_2 : decode cX12_body 2 = .ok (.bipush 7, 2) := by decide +kernel
theorem dX12_body_4 : decode cX12_body 4 = .ok (.invokestatic 140, 3) := by decide +kernel
theorem dX12_body_7 : decode cX12_body 7 = .ok (.ifCond .ne 5, 3) := by decide +kernel
theorem dX12_body_10 : decode cX12_body 10 = .ok (.iconst (-1), 1) := by decide +kernel
theorem dX12_body_11 : decode cX12_body 11 = .ok (.ireturn, 1) := by decide +kernel
theorem dX12_body_12 : decode cX12_body 12 = .ok (.aload_n 0, 1) := by decide +kernel
theorem dX12_body_13 : decode cX12_body 13 = .ok (.getfield 374, 3) := by decide +kernel
theorem dX12_body_16 : decode cX12_body 16 = .ok (.bipush 50, 2) := by decide +kernel
theorem dX12_body_18 : decode cX12_body 18 = .ok (.if_icmp .ne 6, 3) := by decide +kernel
theorem dX12_body_21 : decode cX12_body 21 = .ok (.bipush (-3), 2) := by decide +kernel
theorem dX12_body_23 : decode cX12_body 23 = .ok (.ireturn, 1) := by decide +kernel
theorem dX12_body_24 : decode cX12_body 24 = .ok (.aload_n 0, 1) := by decide +kernel
theorem dX12_body_25 : decode cX12_body 25 = .ok (.getfield 114, 3) := by decide +kernel
theorem dX12_body_28 : decode cX12_body 28 = .ok (.aload_n 0, 1) := by decide +kernel
theorem dX12_body_29 : decode cX12_body 29 = .ok (.getfield 374, 3) := by decide +kernel
theorem dX12_body_32 : decode cX12_body 32 = .ok (.iload_n 1, 1) := by decide +kernel
theorem dX12_body_33 : decode cX12_body 33 = .ok (.iastore, 1) := by decide +kernel
theorem dX12_body_34 : decode cX12_body 34 = .ok (.aload_n 0, 1) := by decide +kernel
theorem dX12_body_35 : decode cX12_body 35 = .ok (.dup, 1) := by decide +kernel
theorem dX12_body_36 : decode cX12_body 36 = .ok (.getfield 374, 3) := by decide +kernel
theorem dX12_body_39 : decode cX12_body 39 = .ok (.iconst 1, 1) := by decide +kernel
theorem dX12_body_40 : decode cX12_body 40 = .ok (.iadd, 1) := by decide +kernel
theorem dX12_body_41 : decode cX12_body 41 = .ok (.putfield 374, 3) := by decide +kernel
theorem dX12_body_44 : decode cX12_body 44 = .ok (.aload_n 0, 1) := by decide +kernel
theorem dX12_body_45 : decode cX12_body 45 = .ok (.getfield 374, 3) := by decide +kernel
theorem dX12_body_48 : decode cX12_body 48 = .ok (.iconst 1, 1) := by decide +kernel
theorem dX12_body_49 : decode cX12_body 49 = .ok (.isub, 1) := by decide +kernel
theorem dX12_body_50 : decode cX12_body 50 = .ok (.ireturn, 1) := by decide +kernel
theorem dX12_isUnder_0 : decode cX12_isUnder 0 = .ok (.iload_n 1, 1) := by decide +kernel
theorem dX12_isUnder_1 : decode cX12_isUnder 1 = .ok (.ifCond .eq 55, 3) := by decide +kernel
theorem dX12_isUnder_4 : decode cX12_isUnder 4 = .ok (.iload_n 0, 1) := by decide +kernel
theorem dX12_isUnder_5 : decode cX12_isUnder 5 = .ok (.iload_n 1, 1) := by decide +kernel
theorem dX12_isUnder_6 : decode cX12_isUnder 6 = .ok (.if_icmp .eq 50, 3) := by decide +kernel
theorem dX12_isUnder_9 : decode cX12_isUnder 9 = .ok (.iload_n 1, 1) := by decide +kernel
theorem dX12_isUnder_10 : decode cX12_isUnder 10 = .ok (.iconst 1, 1) := by decide +kernel
theorem dX12_isUnder_11 : decode cX12_isUnder 11 = .ok (.if_icmp .ne 13, 3) := by decide +kernel
theorem dX12_isUnder_14 : decode cX12_isUnder 14 = .ok (.iload_n 0, 1) := by decide +kernel
theorem dX12_isUnder_15 : decode cX12_isUnder 15 = .ok (.iconst 4, 1) := by decide +kernel
theorem dX12_isUnder_16 : decode cX12_isUnder 16 = .ok (.if_icmp .eq 40, 3) := by decide +kernel
theorem dX12_isUnder_19 : decode cX12_isUnder 19 = .ok (.iload_n 0, 1) := by decide +kernel
theorem dX12_isUnder_20 : decode cX12_isUnder 20 = .ok (.iconst 5, 1) := by decide +kernel
theorem dX12_isUnder_21 : decode cX12_isUnder 21 = .ok (.if_icmp .eq 35, 3) := by decide +kernel
theorem dX12_isUnder_24 : decode cX12_isUnder 24 = .ok (.iload_n 1, 1) := by decide +kernel
theorem dX12_isUnder_25 : decode cX12_isUnder 25 = .ok (.iconst 2, 1) := by decide +kernel
theorem dX12_isUnder_26 : decode cX12_isUnder 26 = .ok (.if_icmp .ne 8, 3) := by decide +kernel
theorem dX12_isUnder_29 : decode cX12_isUnder 29 = .ok (.iload_n 0, 1) := by decide +kernel
theorem dX12_isUnder_30 : decode cX12_isUnder 30 = .ok (.iconst 3, 1) := by decide +kernel
theorem dX12_isUnder_31 : decode cX12_isUnder 31 = .ok (.if_icmp .eq 25, 3) := by decide +kernel
theorem dX12_isUnder_34 : decode cX12_isUnder 34 = .ok (.iload_n 1, 1) := by decide +kernel
theorem dX12_isUnder_35 : decode cX12_isUnder 35 = .ok (.iconst 4, 1) := by decide +kernel
theorem dX12_isUnder_36 : decode cX12_isUnder 36 = .ok (.if_icmp .ne 8, 3) := by decide +kernel
theorem dX12_isUnder_39 : decode cX12_isUnder 39 = .ok (.iload_n 0, 1) := by decide +kernel
theorem dX12_isUnder_40 : decode cX12_isUnder 40 = .ok (.iconst 5, 1) := by decide +kernel
theorem dX12_isUnder_41 : decode cX12_isUnder 41 = .ok (.if_icmp .eq 15, 3) := by decide +kernel
theorem dX12_isUnder_44 : decode cX12_isUnder 44 = .ok (.iload_n 1, 1) := by decide +kernel
theorem dX12_isUnder_45 : decode cX12_isUnder 45 = .ok (.bipush 6, 2) := by decide +kernel
theorem dX12_isUnder_47 : decode cX12_isUnder 47 = .ok (.if_icmp .ne 13, 3) := by decide +kernel
theorem dX12_isUnder_50 : decode cX12_isUnder 50 = .ok (.iload_n 0, 1) := by decide +kernel
theorem dX12_isUnder_51 : decode cX12_isUnder 51 = .ok (.bipush 7, 2) := by decide +kernel
theorem dX12_isUnder_53 : decode cX12_isUnder 53 = .ok (.if_icmp .ne 7, 3) := by decide +kernel
theorem dX12_isUnder_56 : decode cX12_isUnder 56 = .ok (.iconst 1, 1) := by decide +kernel
theorem dX12_isUnder_57 : decode cX12_isUnder 57 = .ok (.goto 4, 3) := by decide +kernel
theorem dX12_isUnder_60 : decode cX12_isUnder 60 = .ok (.iconst 0, 1) := by decide +kernel
theorem dX12_isUnder_61 : decode cX12_isUnder 61 = .ok (.ireturn, 1) := by decide +kernel
theorem dX12_plainParts_0 : decode cX12_plainParts 0 = .ok (.aload_n 0, 1) := by decide +kernel
theorem dX12_plainParts_1 : decode cX12_plainParts 1 = .ok (.iconst 1, 1) := by decide +kernel
theorem dX12_plainParts_2 : decode cX12_plainParts 2 = .ok (.invokevirtual 380, 3) := by decide +kernel
theorem dX12_plainParts_5 : decode cX12_plainParts 5 = .ok (.iload_n 2, 1) := by decide +kernel
theorem dX12_plainParts_6 : decode cX12_plainParts 6 = .ok (.iload_n 1, 1) := by decide +kernel
theorem dX12_plainParts_7 : decode cX12_plainParts 7 = .ok (.iadd, 1) := by decide +kernel
theorem dX12_plainParts_8 : decode cX12_plainParts 8 = .ok (.ireturn, 1) := by decide +kernel
theorem dX12_toldParts_0 : decode cX12_toldParts 0 = .ok (.aload_n 0, 1) := by decide +kernel
theorem dX12_toldParts_1 : decode cX12_toldParts 1 = .ok (.bipush 70, 2) := by decide +kernel
theorem dX12_toldParts_3 : decode cX12_toldParts 3 = .ok (.invokevirtual 380, 3) := by decide +kernel
theorem dX12_toldParts_6 : decode cX12_toldParts 6 = .ok (.aload_n 0, 1) := by decide +kernel
theorem dX12_toldParts_7 : decode cX12_toldParts 7 = .ok (.iload_n 1, 1) := by decide +kernel
theorem dX12_toldParts_8 : decode cX12_toldParts 8 = .ok (.iload_n 2, 1) := by decide +kernel
theorem dX12_toldParts_9 : decode cX12_toldParts 9 = .ok (.invokevirtual 383, 3) := by decide +kernel
theorem dX12_toldParts_12 : decode cX12_toldParts 12 = .ok (.iconst 2, 1) := by decide +kernel
theorem dX12_toldParts_13 : decode cX12_toldParts 13 = .ok (.imul, 1) := by decide +kernel
theorem dX12_toldParts_14 : decode cX12_toldParts 14 = .ok (.ireturn, 1) := by decide +kernel
theorem dX12_parting_0 : decode cX12_parting 0 = .ok (.aload_n 0, 1) := by decide +kernel
theorem dX12_parting_1 : decode cX12_parting 1 = .ok (.getfield 114, 3) := by decide +kernel
theorem dX12_parting_4 : decode cX12_parting 4 = .ok (.iload_n 1, 1) := by decide +kernel
theorem dX12_parting_5 : decode cX12_parting 5 = .ok (.iaload, 1) := by decide +kernel
theorem dX12_parting_6 : decode cX12_parting 6 = .ok (.iconst 1, 1) := by decide +kernel
theorem dX12_parting_7 : decode cX12_parting 7 = .ok (.invokestatic 386, 3) := by decide +kernel
theorem dX12_parting_10 : decode cX12_parting 10 = .ok (.ifCond .eq 18, 3) := by decide +kernel
theorem dX12_parting_13 : decode cX12_parting 13 = .ok (.aload_n 0, 1) := by decide +kernel
theorem dX12_parting_14 : decode cX12_parting 14 = .ok (.bipush 20, 2) := by decide +kernel
theorem dX12_parting_16 : decode cX12_parting 16 = .ok (.invokevirtual 380, 3) := by decide +kernel
theorem dX12_parting_19 : decode cX12_parting 19 = .ok (.aload_n 0, 1) := by decide +kernel
theorem dX12_parting_20 : decode cX12_parting 20 = .ok (.iload_n 1, 1) := by decide +kernel
theorem dX12_parting_21 : decode cX12_parting 21 = .ok (.iload_n 2, 1) := by decide +kernel
theorem dX12_parting_22 : decode cX12_parting 22 = .ok (.invokevirtual 383, 3) := by decide +kernel
theorem dX12_parting_25 : decode cX12_parting 25 = .ok (.iconst 3, 1) := by decide +kernel
theorem dX12_parting_26 : decode cX12_parting 26 = .ok (.iadd, 1) := by decide +kernel
theorem dX12_parting_27 : decode cX12_parting 27 = .ok (.ireturn, 1) := by decide +kernel
theorem dX12_parting_28 : decode cX12_parting 28 = .ok (.aload_n 0, 1) := by decide +kernel
theorem dX12_parting_29 : decode cX12_parting 29 = .ok (.getfield 114, 3) := by decide +kernel
theorem dX12_parting_32 : decode cX12_parting 32 = .ok (.iload_n 1, 1) := by decide +kernel
theorem dX12_parting_33 : decode cX12_parting 33 = .ok (.iaload, 1) := by decide +kernel
theorem dX12_parting_34 : decode cX12_parting 34 = .ok (.bipush 7, 2) := by decide +kernel
theorem dX12_parting_36 : decode cX12_parting 36 = .ok (.if_icmp .ne 18, 3) := by decide +kernel
theorem dX12_parting_39 : decode cX12_parting 39 = .ok (.aload_n 0, 1) := by decide +kernel
theorem dX12_parting_40 : decode cX12_parting 40 = .ok (.bipush 81, 2) := by decide +kernel
theorem dX12_parting_42 : decode cX12_parting 42 = .ok (.invokevirtual 380, 3) := by decide +kernel
theorem dX12_parting_45 : decode cX12_parting 45 = .ok (.aload_n 0, 1) := by decide +kernel
theorem dX12_parting_46 : decode cX12_parting 46 = .ok (.iload_n 1, 1) := by decide +kernel
theorem dX12_parting_47 : decode cX12_parting 47 = .ok (.iload_n 2, 1) := by decide +kernel
theorem dX12_parting_48 : decode cX12_parting 48 = .ok (.invokevirtual 389, 3) := by decide +kernel
theorem dX12_parting_51 : decode cX12_parting 51 = .ok (.iconst 1, 1) := by decide +kernel
theorem dX12_parting_52 : decode cX12_parting 52 = .ok (.isub, 1) := by decide +kernel
theorem dX12_parting_53 : decode cX12_parting 53 = .ok (.ireturn, 1) := by decide +kernel
theorem dX12_parting_54 : decode cX12_parting 54 = .ok (.aload_n 0, 1) := by decide +kernel
theorem dX12_parting_55 : decode cX12_parting 55 = .ok (.getfield 114, 3) := by decide +kernel
theorem dX12_parting_58 : decode cX12_parting 58 = .ok (.iload_n 1, 1) := by decide +kernel
theorem dX12_parting_59 : decode cX12_parting 59 = .ok (.iaload, 1) := by decide +kernel
theorem dX12_parting_60 : decode cX12_parting 60 = .ok (.bipush 6, 2) := by decide +kernel
theorem dX12_parting_62 : decode cX12_parting 62 = .ok (.if_icmp .ne 12, 3) := by decide +kernel
theorem dX12_parting_65 : decode cX12_parting 65 = .ok (.aload_n 0, 1) := by decide +kernel
theorem dX12_parting_66 : decode cX12_parting 66 = .ok (.iload_n 1, 1) := by decide +kernel
theorem dX12_parting_67 : decode cX12_parting 67 = .ok (.iload_n 2, 1) := by decide +kernel
theorem dX12_parting_68 : decode cX12_parting 68 = .ok (.invokevirtual 389, 3) := by decide +kernel
theorem dX12_parting_71 : decode cX12_parting 71 = .ok (.goto 9, 3) := by decide +kernel
theorem dX12_parting_74 : decode cX12_parting 74 = .ok (.aload_n 0, 1) := by decide +kernel
theorem dX12_parting_75 : decode cX12_parting 75 = .ok (.iload_n 1, 1) := by decide +kernel
theorem dX12_parting_76 : decode cX12_parting 76 = .ok (.iload_n 2, 1) := by decide +kernel
theorem dX12_parting_77 : decode cX12_parting 77 = .ok (.invokevirtual 383, 3) := by decide +kernel
theorem dX12_parting_80 : decode cX12_parting 80 = .ok (.ireturn, 1) := by decide +kernel
theorem dX12_plainSends_0 : decode cX12_plainSends 0 = .ok (.aload_n 0, 1) := by decide +kernel
theorem dX12_plainSends_1 : decode cX12_plainSends 1 = .ok (.bipush 10, 2) := by decide +kernel
theorem dX12_plainSends_3 : decode cX12_plainSends 3 = .ok (.invokevirtual 380, 3) := by decide +kernel
theorem dX12_plainSends_6 : decode cX12_plainSends 6 = .ok (.aload_n 0, 1) := by decide +kernel
theorem dX12_plainSends_7 : decode cX12_plainSends 7 = .ok (.iload_n 1, 1) := by decide +kernel
theorem dX12_plainSends_8 : decode cX12_plainSends 8 = .ok (.iload_n 2, 1) := by decide +kernel
theorem dX12_plainSends_9 : decode cX12_plainSends 9 = .ok (.invokevirtual 392, 3) := by decide +kernel
theorem dX12_plainSends_12 : decode cX12_plainSends 12 = .ok (.iconst 2, 1) := by decide +kernel
theorem dX12_plainSends_13 : decode cX12_plainSends 13 = .ok (.imul, 1) := by decide +kernel
theorem dX12_plainSends_14 : decode cX12_plainSends 14 = .ok (.ireturn, 1) := by decide +kernel
theorem dX12_fewSends_0 : decode cX12_fewSends 0 = .ok (.aload_n 0, 1) := by decide +kernel
theorem dX12_fewSends_1 : decode cX12_fewSends 1 = .ok (.bipush 30, 2) := by decide +kernel
theorem dX12_fewSends_3 : decode cX12_fewSends 3 = .ok (.invokevirtual 380, 3) := by decide +kernel
theorem dX12_fewSends_6 : decode cX12_fewSends 6 = .ok (.aload_n 0, 1) := by decide +kernel
theorem dX12_fewSends_7 : decode cX12_fewSends 7 = .ok (.iload_n 1, 1) := by decide +kernel
theorem dX12_fewSends_8 : decode cX12_fewSends 8 = .ok (.iload_n 2, 1) := by decide +kernel
theorem dX12_fewSends_9 : decode cX12_fewSends 9 = .ok (.invokevirtual 395, 3) := by decide +kernel
theorem dX12_fewSends_12 : decode cX12_fewSends 12 = .ok (.ineg, 1) := by decide +kernel
theorem dX12_fewSends_13 : decode cX12_fewSends 13 = .ok (.ireturn, 1) := by decide +kernel
theorem dX12_sending_0 : decode cX12_sending 0 = .ok (.aload_n 0, 1) := by decide +kernel
theorem dX12_sending_1 : decode cX12_sending 1 = .ok (.getfield 114, 3) := by decide +kernel
theorem dX12_sending_4 : decode cX12_sending 4 = .ok (.iload_n 1, 1) := by decide +kernel
theorem dX12_sending_5 : decode cX12_sending 5 = .ok (.iaload, 1) := by decide +kernel
theorem dX12_sending_6 : decode cX12_sending 6 = .ok (.iconst 3, 1) := by decide +kernel
theorem dX12_sending_7 : decode cX12_sending 7 = .ok (.if_icmp .ne 18, 3) := by decide +kernel
theorem dX12_sending_10 : decode cX12_sending 10 = .ok (.aload_n 0, 1) := by decide +kernel
theorem dX12_sending_11 : decode cX12_sending 11 = .ok (.bipush 41, 2) := by decide +kernel
theorem dX12_sending_13 : decode cX12_sending 13 = .ok (.invokevirtual 380, 3) := by decide +kernel
theorem dX12_sending_16 : decode cX12_sending 16 = .ok (.aload_n 0, 1) := by decide +kernel
theorem dX12_sending_17 : decode cX12_sending 17 = .ok (.iload_n 1, 1) := by decide +kernel
theorem dX12_sending_18 : decode cX12_sending 18 = .ok (.iload_n 2, 1) := by decide +kernel
theorem dX12_sending_19 : decode cX12_sending 19 = .ok (.iconst 1, 1) := by decide +kernel
theorem dX12_sending_20 : decode cX12_sending 20 = .ok (.iadd, 1) := by decide +kernel
theorem dX12_sending_21 : decode cX12_sending 21 = .ok (.invokevirtual 398, 3) := by decide +kernel
theorem dX12_sending_24 : decode cX12_sending 24 = .ok (.ireturn, 1) := by decide +kernel
theorem dX12_sending_25 : decode cX12_sending 25 = .ok (.aload_n 0, 1) := by decide +kernel
theorem dX12_sending_26 : decode cX12_sending 26 = .ok (.getfield 114, 3) := by decide +kernel
theorem dX12_sending_29 : decode cX12_sending 29 = .ok (.iload_n 1, 1) := by decide +kernel
theorem dX12_sending_30 : decode cX12_sending 30 = .ok (.iaload, 1) := by decide +kernel
theorem dX12_sending_31 : decode cX12_sending 31 = .ok (.bipush 7, 2) := by decide +kernel
theorem dX12_sending_33 : decode cX12_sending 33 = .ok (.if_icmp .ne 25, 3) := by decide +kernel
theorem dX12_sending_36 : decode cX12_sending 36 = .ok (.aload_n 0, 1) := by decide +kernel
theorem dX12_sending_37 : decode cX12_sending 37 = .ok (.bipush 80, 2) := by decide +kernel
theorem dX12_sending_39 : decode cX12_sending 39 = .ok (.invokevirtual 380, 3) := by decide +kernel
theorem dX12_sending_42 : decode cX12_sending 42 = .ok (.aload_n 0, 1) := by decide +kernel
theorem dX12_sending_43 : decode cX12_sending 43 = .ok (.iload_n 1, 1) := by decide +kernel
theorem dX12_sending_44 : decode cX12_sending 44 = .ok (.iload_n 2, 1) := by decide +kernel
theorem dX12_sending_45 : decode cX12_sending 45 = .ok (.invokevirtual 395, 3) := by decide +kernel
theorem dX12_sending_48 : decode cX12_sending 48 = .ok (.istore_n 3, 1) := by decide +kernel
theorem dX12_sending_49 : decode cX12_sending 49 = .ok (.iload_n 3, 1) := by decide +kernel
theorem dX12_sending_50 : decode cX12_sending 50 = .ok (.aload_n 0, 1) := by decide +kernel
theorem dX12_sending_51 : decode cX12_sending 51 = .ok (.iload_n 1, 1) := by decide +kernel
theorem dX12_sending_52 : decode cX12_sending 52 = .ok (.iconst 2, 1) := by decide +kernel
theorem dX12_sending_53 : decode cX12_sending 53 = .ok (.invokevirtual 401, 3) := by decide +kernel
theorem dX12_sending_56 : decode cX12_sending 56 = .ok (.iadd, 1) := by decide +kernel
theorem dX12_sending_57 : decode cX12_sending 57 = .ok (.ireturn, 1) := by decide +kernel
theorem dX12_sending_58 : decode cX12_sending 58 = .ok (.aload_n 0, 1) := by decide +kernel
theorem dX12_sending_59 : decode cX12_sending 59 = .ok (.getfield 114, 3) := by decide +kernel
theorem dX12_sending_62 : decode cX12_sending 62 = .ok (.iload_n 1, 1) := by decide +kernel
theorem dX12_sending_63 : decode cX12_sending 63 = .ok (.iaload, 1) := by decide +kernel
theorem dX12_sending_64 : decode cX12_sending 64 = .ok (.iconst 2, 1) := by decide +kernel
theorem dX12_sending_65 : decode cX12_sending 65 = .ok (.if_icmp .ne 12, 3) := by decide +kernel
theorem dX12_sending_68 : decode cX12_sending 68 = .ok (.aload_n 0, 1) := by decide +kernel
theorem dX12_sending_69 : decode cX12_sending 69 = .ok (.iload_n 1, 1) := by decide +kernel
theorem dX12_sending_70 : decode cX12_sending 70 = .ok (.iload_n 2, 1) := by decide +kernel
theorem dX12_sending_71 : decode cX12_sending 71 = .ok (.invokevirtual 398, 3) := by decide +kernel
theorem dX12_sending_74 : decode cX12_sending 74 = .ok (.goto 9, 3) := by decide +kernel
theorem dX12_sending_77 : decode cX12_sending 77 = .ok (.aload_n 0, 1) := by decide +kernel
theorem dX12_sending_78 : decode cX12_sending 78 = .ok (.iload_n 1, 1) := by decide +kernel
theorem dX12_sending_79 : decode cX12_sending 79 = .ok (.iload_n 2, 1) := by decide +kernel
theorem dX12_sending_80 : decode cX12_sending 80 = .ok (.invokevirtual 395, 3) := by decide +kernel
theorem dX12_sending_83 : decode cX12_sending 83 = .ok (.ireturn, 1) := by decide +kernel
theorem dX12_plainWins_0 : decode cX12_plainWins 0 = .ok (.aload_n 0, 1) := by decide +kernel
theorem dX12_plainWins_1 : decode cX12_plainWins 1 = .ok (.bipush 11, 2) := by decide +kernel
theorem dX12_plainWins_3 : decode cX12_plainWins 3 = .ok (.invokevirtual 380, 3) := by decide +kernel
theorem dX12_plainWins_6 : decode cX12_plainWins 6 = .ok (.iload_n 2, 1) := by decide +kernel
theorem dX12_plainWins_7 : decode cX12_plainWins 7 = .ok (.iload_n 1, 1) := by decide +kernel
theorem dX12_plainWins_8 : decode cX12_plainWins 8 = .ok (.ixor, 1) := by decide +kernel
theorem dX12_plainWins_9 : decode cX12_plainWins 9 = .ok (.ireturn, 1) := by decide +kernel
theorem dX12_winning_0 : decode cX12_winning 0 = .ok (.aload_n 0, 1) := by decide +kernel
theorem dX12_winning_1 : decode cX12_winning 1 = .ok (.getfield 114, 3) := by decide +kernel
theorem dX12_winning_4 : decode cX12_winning 4 = .ok (.iload_n 1, 1) := by decide +kernel
theorem dX12_winning_5 : decode cX12_winning 5 = .ok (.iaload, 1) := by decide +kernel
theorem dX12_winning_6 : decode cX12_winning 6 = .ok (.iconst 3, 1) := by decide +kernel
theorem dX12_winning_7 : decode cX12_winning 7 = .ok (.if_icmp .ne 18, 3) := by decide +kernel
theorem dX12_winning_10 : decode cX12_winning 10 = .ok (.aload_n 0, 1) := by decide +kernel
theorem dX12_winning_11 : decode cX12_winning 11 = .ok (.bipush 40, 2) := by decide +kernel
theorem dX12_winning_13 : decode cX12_winning 13 = .ok (.invokevirtual 380, 3) := by decide +kernel
theorem dX12_winning_16 : decode cX12_winning 16 = .ok (.aload_n 0, 1) := by decide +kernel
theorem dX12_winning_17 : decode cX12_winning 17 = .ok (.iload_n 1, 1) := by decide +kernel
theorem dX12_winning_18 : decode cX12_winning 18 = .ok (.iload_n 2, 1) := by decide +kernel
theorem dX12_winning_19 : decode cX12_winning 19 = .ok (.invokevirtual 404, 3) := by decide +kernel
theorem dX12_winning_22 : decode cX12_winning 22 = .ok (.iconst 3, 1) := by decide +kernel
theorem dX12_winning_23 : decode cX12_winning 23 = .ok (.imul, 1) := by decide +kernel
theorem dX12_winning_24 : decode cX12_winning 24 = .ok (.ireturn, 1) := by decide +kernel
theorem dX12_winning_25 : decode cX12_winning 25 = .ok (.aload_n 0, 1) := by decide +kernel
theorem dX12_winning_26 : decode cX12_winning 26 = .ok (.getfield 114, 3) := by decide +kernel
theorem dX12_winning_29 : decode cX12_winning 29 = .ok (.iload_n 1, 1) := by decide +kernel
theorem dX12_winning_30 : decode cX12_winning 30 = .ok (.iaload, 1) := by decide +kernel
theorem dX12_winning_31 : decode cX12_winning 31 = .ok (.iconst 5, 1) := by decide +kernel
theorem dX12_winning_32 : decode cX12_winning 32 = .ok (.if_icmp .ne 25, 3) := by decide +kernel
theorem dX12_winning_35 : decode cX12_winning 35 = .ok (.aload_n 0, 1) := by decide +kernel
theorem dX12_winning_36 : decode cX12_winning 36 = .ok (.bipush 60, 2) := by decide +kernel
theorem dX12_winning_38 : decode cX12_winning 38 = .ok (.invokevirtual 380, 3) := by decide +kernel
theorem dX12_winning_41 : decode cX12_winning 41 = .ok (.aload_n 0, 1) := by decide +kernel
theorem dX12_winning_42 : decode cX12_winning 42 = .ok (.iload_n 1, 1) := by decide +kernel
theorem dX12_winning_43 : decode cX12_winning 43 = .ok (.iload_n 2, 1) := by decide +kernel
theorem dX12_winning_44 : decode cX12_winning 44 = .ok (.invokevirtual 404, 3) := by decide +kernel
theorem dX12_winning_47 : decode cX12_winning 47 = .ok (.istore_n 3, 1) := by decide +kernel
theorem dX12_winning_48 : decode cX12_winning 48 = .ok (.iload_n 3, 1) := by decide +kernel
theorem dX12_winning_49 : decode cX12_winning 49 = .ok (.aload_n 0, 1) := by decide +kernel
theorem dX12_winning_50 : decode cX12_winning 50 = .ok (.iload_n 1, 1) := by decide +kernel
theorem dX12_winning_51 : decode cX12_winning 51 = .ok (.iconst 2, 1) := by decide +kernel
theorem dX12_winning_52 : decode cX12_winning 52 = .ok (.invokevirtual 392, 3) := by decide +kernel
theorem dX12_winning_55 : decode cX12_winning 55 = .ok (.isub, 1) := by decide +kernel
theorem dX12_winning_56 : decode cX12_winning 56 = .ok (.ireturn, 1) := by decide +kernel
theorem dX12_winning_57 : decode cX12_winning 57 = .ok (.aload_n 0, 1) := by decide +kernel
theorem dX12_winning_58 : decode cX12_winning 58 = .ok (.iload_n 1, 1) := by decide +kernel
theorem dX12_winning_59 : decode cX12_winning 59 = .ok (.iload_n 2, 1) := by decide +kernel
theorem dX12_winning_60 : decode cX12_winning 60 = .ok (.invokevirtual 404, 3) := by decide +kernel
theorem dX12_winning_63 : decode cX12_winning 63 = .ok (.ireturn, 1) := by decide +kernel
theorem dX12_plainLearns_0 : decode cX12_plainLearns 0 = .ok (.aload_n 0, 1) := by decide +kernel
theorem dX12_plainLearns_1 : decode cX12_plainLearns 1 = .ok (.iconst 2, 1) := by decide +kernel
theorem dX12_plainLearns_2 : decode cX12_plainLearns 2 = .ok (.invokevirtual 380, 3) := by decide +kernel
theorem dX12_plainLearns_5 : decode cX12_plainLearns 5 = .ok (.aload_n 0, 1) := by decide +kernel
theorem dX12_plainLearns_6 : decode cX12_plainLearns 6 = .ok (.iload_n 1, 1) := by decide +kernel
theorem dX12_plainLearns_7 : decode cX12_plainLearns 7 = .ok (.iload_n 2, 1) := by decide +kernel
theorem dX12_plainLearns_8 : decode cX12_plainLearns 8 = .ok (.invokevirtual 407, 3) := by decide +kernel
theorem dX12_plainLearns_11 : decode cX12_plainLearns 11 = .ok (.istore_n 3, 1) := by decide +kernel
theorem dX12_plainLearns_12 : decode cX12_plainLearns 12 = .ok (.iload_n 3, 1) := by decide +kernel
theorem dX12_plainLearns_13 : decode cX12_plainLearns 13 = .ok (.aload_n 0, 1) := by decide +kernel
theorem dX12_plainLearns_14 : decode cX12_plainLearns 14 = .ok (.iload_n 1, 1) := by decide +kernel
theorem dX12_plainLearns_15 : decode cX12_plainLearns 15 = .ok (.iconst 1, 1) := by decide +kernel
theorem dX12_plainLearns_16 : decode cX12_plainLearns 16 = .ok (.invokevirtual 401, 3) := by decide +kernel
theorem dX12_plainLearns_19 : decode cX12_plainLearns 19 = .ok (.isub, 1) := by decide +kernel
theorem dX12_plainLearns_20 : decode cX12_plainLearns 20 = .ok (.ireturn, 1) := by decide +kernel
theorem dX12_bestLearns_0 : decode cX12_bestLearns 0 = .ok (.aload_n 0, 1) := by decide +kernel
theorem dX12_bestLearns_1 : decode cX12_bestLearns 1 = .ok (.bipush 50, 2) := by decide +kernel
theorem dX12_bestLearns_3 : decode cX12_bestLearns 3 = .ok (.invokevirtual 380, 3) := by decide +kernel
theorem dX12_bestLearns_6 : decode cX12_bestLearns 6 = .ok (.aload_n 0, 1) := by decide +kernel
theorem dX12_bestLearns_7 : decode cX12_bestLearns 7 = .ok (.iload_n 1, 1) := by decide +kernel
theorem dX12_bestLearns_8 : decode cX12_bestLearns 8 = .ok (.iload_n 2, 1) := by decide +kernel
theorem dX12_bestLearns_9 : decode cX12_bestLearns 9 = .ok (.invokevirtual 410, 3) := by decide +kernel
theorem dX12_bestLearns_12 : decode cX12_bestLearns 12 = .ok (.iconst 5, 1) := by decide +kernel
theorem dX12_bestLearns_13 : decode cX12_bestLearns 13 = .ok (.ixor, 1) := by decide +kernel
theorem dX12_bestLearns_14 : decode cX12_bestLearns 14 = .ok (.ireturn, 1) := by decide +kernel
theorem dX12_learning_0 : decode cX12_learning 0 = .ok (.aload_n 0, 1) := by decide +kernel
theorem dX12_learning_1 : decode cX12_learning 1 = .ok (.getfield 114, 3) := by decide +kernel
theorem dX12_learning_4 : decode cX12_learning 4 = .ok (.iload_n 1, 1) := by decide +kernel
theorem dX12_learning_5 : decode cX12_learning 5 = .ok (.iaload, 1) := by decide +kernel
theorem dX12_learning_6 : decode cX12_learning 6 = .ok (.iconst 5, 1) := by decide +kernel
theorem dX12_learning_7 : decode cX12_learning 7 = .ok (.if_icmp .ne 18, 3) := by decide +kernel
theorem dX12_learning_10 : decode cX12_learning 10 = .ok (.aload_n 0, 1) := by decide +kernel
theorem dX12_learning_11 : decode cX12_learning 11 = .ok (.bipush 61, 2) := by decide +kernel
theorem dX12_learning_13 : decode cX12_learning 13 = .ok (.invokevirtual 380, 3) := by decide +kernel
theorem dX12_learning_16 : decode cX12_learning 16 = .ok (.aload_n 0, 1) := by decide +kernel
theorem dX12_learning_17 : decode cX12_learning 17 = .ok (.iload_n 1, 1) := by decide +kernel
theorem dX12_learning_18 : decode cX12_learning 18 = .ok (.iload_n 2, 1) := by decide +kernel
theorem dX12_learning_19 : decode cX12_learning 19 = .ok (.invokevirtual 413, 3) := by decide +kernel
theorem dX12_learning_22 : decode cX12_learning 22 = .ok (.iconst 1, 1) := by decide +kernel
theorem dX12_learning_23 : decode cX12_learning 23 = .ok (.iadd, 1) := by decide +kernel
theorem dX12_learning_24 : decode cX12_learning 24 = .ok (.ireturn, 1) := by decide +kernel
theorem dX12_learning_25 : decode cX12_learning 25 = .ok (.aload_n 0, 1) := by decide +kernel
theorem dX12_learning_26 : decode cX12_learning 26 = .ok (.getfield 114, 3) := by decide +kernel
theorem dX12_learning_29 : decode cX12_learning 29 = .ok (.iload_n 1, 1) := by decide +kernel
theorem dX12_learning_30 : decode cX12_learning 30 = .ok (.iaload, 1) := by decide +kernel
theorem dX12_learning_31 : decode cX12_learning 31 = .ok (.iconst 4, 1) := by decide +kernel
theorem dX12_learning_32 : decode cX12_learning 32 = .ok (.if_icmp .ne 12, 3) := by decide +kernel
theorem dX12_learning_35 : decode cX12_learning 35 = .ok (.aload_n 0, 1) := by decide +kernel
theorem dX12_learning_36 : decode cX12_learning 36 = .ok (.iload_n 1, 1) := by decide +kernel
theorem dX12_learning_37 : decode cX12_learning 37 = .ok (.iload_n 2, 1) := by decide +kernel
theorem dX12_learning_38 : decode cX12_learning 38 = .ok (.invokevirtual 413, 3) := by decide +kernel
theorem dX12_learning_41 : decode cX12_learning 41 = .ok (.goto 9, 3) := by decide +kernel
theorem dX12_learning_44 : decode cX12_learning 44 = .ok (.aload_n 0, 1) := by decide +kernel
theorem dX12_learning_45 : decode cX12_learning 45 = .ok (.iload_n 1, 1) := by decide +kernel
theorem dX12_learning_46 : decode cX12_learning 46 = .ok (.iload_n 2, 1) := by decide +kernel
theorem dX12_learning_47 : decode cX12_learning 47 = .ok (.invokevirtual 410, 3) := by decide +kernel
theorem dX12_learning_50 : decode cX12_learning 50 = .ok (.ireturn, 1) := by decide +kernel
theorem dX12_act_0 : decode cX12_act 0 = .ok (.aload_n 0, 1) := by decide +kernel
theorem dX12_act_1 : decode cX12_act 1 = .ok (.iconst 0, 1) := by decide +kernel
theorem dX12_act_2 : decode cX12_act 2 = .ok (.putfield 377, 3) := by decide +kernel
theorem dX12_act_5 : decode cX12_act 5 = .ok (.aload_n 0, 1) := by decide +kernel
theorem dX12_act_6 : decode cX12_act 6 = .ok (.iload_n 1, 1) := by decide +kernel
theorem dX12_act_7 : decode cX12_act 7 = .ok (.invokevirtual 416, 3) := by decide +kernel
theorem dX12_act_10 : decode cX12_act 10 = .ok (.ifCond .eq 12, 3) := by decide +kernel
theorem dX12_act_13 : decode cX12_act 13 = .ok (.iload_n 2, 1) := by decide +kernel
theorem dX12_act_14 : decode cX12_act 14 = .ok (.iconst 0, 1) := by decide +kernel
theorem dX12_act_15 : decode cX12_act 15 = .ok (.iconst 3, 1) := by decide +kernel
theorem dX12_act_16 : decode cX12_act 16 = .ok (.invokestatic 140, 3) := by decide +kernel
theorem dX12_act_19 : decode cX12_act 19 = .ok (.ifCond .ne 5, 3) := by decide +kernel
theorem dX12_act_22 : decode cX12_act 22 = .ok (.iconst 0, 1) := by decide +kernel
theorem dX12_act_23 : decode cX12_act 23 = .ok (.ireturn, 1) := by decide +kernel
theorem dX12_act_24 : decode cX12_act 24 = .ok (.iload_n 2, 1) := by decide +kernel
theorem dX12_act_25 : decode cX12_act 25 = .ok (.ifCond .ne 12, 3) := by decide +kernel
theorem dX12_act_28 : decode cX12_act 28 = .ok (.aload_n 0, 1) := by decide +kernel
theorem dX12_act_29 : decode cX12_act 29 = .ok (.iload_n 1, 1) := by decide +kernel
theorem dX12_act_30 : decode cX12_act 30 = .ok (.iload_n 3, 1) := by decide +kernel
theorem dX12_act_31 : decode cX12_act 31 = .ok (.invokevirtual 392, 3) := by decide +kernel
theorem dX12_act_34 : decode cX12_act 34 = .ok (.goto 37, 3) := by decide +kernel
theorem dX12_act_37 : decode cX12_act 37 = .ok (.iload_n 2, 1) := by decide +kernel
theorem dX12_act_38 : decode cX12_act 38 = .ok (.iconst 1, 1) := by decide +kernel
theorem dX12_act_39 : decode cX12_act 39 = .ok (.if_icmp .ne 12, 3) := by decide +kernel
theorem dX12_act_42 : decode cX12_act 42 = .ok (.aload_n 0, 1) := by decide +kernel
theorem dX12_act_43 : decode cX12_act 43 = .ok (.iload_n 1, 1) := by decide +kernel
theorem dX12_act_44 : decode cX12_act 44 = .ok (.iload_n 3, 1) := by decide +kernel
theorem dX12_act_45 : decode cX12_act 45 = .ok (.invokevirtual 407, 3) := by decide +kernel
theorem dX12_act_48 : decode cX12_act 48 = .ok (.goto 23, 3) := by decide +kernel
theorem dX12_act_51 : decode cX12_act 51 = .ok (.iload_n 2, 1) := by decide +kernel
theorem dX12_act_52 : decode cX12_act 52 = .ok (.iconst 2, 1) := by decide +kernel
theorem dX12_act_53 : decode cX12_act 53 = .ok (.if_icmp .ne 12, 3) := by decide +kernel
theorem dX12_act_56 : decode cX12_act 56 = .ok (.aload_n 0, 1) := by decide +kernel
theorem dX12_act_57 : decode cX12_act 57 = .ok (.iload_n 1, 1) := by decide +kernel
theorem dX12_act_58 : decode cX12_act 58 = .ok (.iload_n 3, 1) := by decide +kernel
theorem dX12_act_59 : decode cX12_act 59 = .ok (.invokevirtual 401, 3) := by decide +kernel
theorem dX12_act_62 : decode cX12_act 62 = .ok (.goto 9, 3) := by decide +kernel
theorem dX12_act_65 : decode cX12_act 65 = .ok (.aload_n 0, 1) := by decide +kernel
theorem dX12_act_66 : decode cX12_act 66 = .ok (.iload_n 1, 1) := by decide +kernel
theorem dX12_act_67 : decode cX12_act 67 = .ok (.iload_n 3, 1) := by decide +kernel
theorem dX12_act_68 : decode cX12_act 68 = .ok (.invokevirtual 419, 3) := by decide +kernel
theorem dX12_act_71 : decode cX12_act 71 = .ok (.ireturn, 1) := by decide +kernel
theorem dX12_count_0 : decode cX12_count 0 = .ok (.iload_n 1, 1) := by decide +kernel
theorem dX12_count_1 : decode cX12_count 1 = .ok (.tableswitch 60 0 4 #[35, 40, 45, 50, 55], 35) := by decide +kernel
theorem dX12_count_36 : decode cX12_count 36 = .ok (.aload_n 0, 1) := by decide +kernel
theorem dX12_count_37 : decode cX12_count 37 = .ok (.getfield 137, 3) := by decide +kernel
theorem dX12_count_40 : decode cX12_count 40 = .ok (.ireturn, 1) := by decide +kernel
theorem dX12_count_41 : decode cX12_count 41 = .ok (.aload_n 0, 1) := by decide +kernel
theorem dX12_count_42 : decode cX12_count 42 = .ok (.getfield 179, 3) := by decide +kernel
theorem dX12_count_45 : decode cX12_count 45 = .ok (.ireturn, 1) := by decide +kernel
theorem dX12_count_46 : decode cX12_count 46 = .ok (.aload_n 0, 1) := by decide +kernel
theorem dX12_count_47 : decode cX12_count 47 = .ok (.getfield 151, 3) := by decide +kernel
theorem dX12_count_50 : decode cX12_count 50 = .ok (.ireturn, 1) := by decide +kernel
theorem dX12_count_51 : decode cX12_count 51 = .ok (.aload_n 0, 1) := by decide +kernel
theorem dX12_count_52 : decode cX12_count 52 = .ok (.getfield 374, 3) := by decide +kernel
theorem dX12_count_55 : decode cX12_count 55 = .ok (.ireturn, 1) := by decide +kernel
theorem dX12_count_56 : decode cX12_count 56 = .ok (.aload_n 0, 1) := by decide +kernel
theorem dX12_count_57 : decode cX12_count 57 = .ok (.getfield 377, 3) := by decide +kernel
theorem dX12_count_60 : decode cX12_count 60 = .ok (.ireturn, 1) := by decide +kernel
theorem dX12_count_61 : decode cX12_count 61 = .ok (.iconst (-1), 1) := by decide +kernel
theorem dX12_count_62 : decode cX12_count 62 = .ok (.ireturn, 1) := by decide +kernel
theorem dX12_isShelf_0 : decode cX12_isShelf 0 = .ok (.iload_n 0, 1) := by decide +kernel
theorem dX12_isShelf_1 : decode cX12_isShelf 1 = .ok (.iconst 0, 1) := by decide +kernel
theorem dX12_isShelf_2 : decode cX12_isShelf 2 = .ok (.iconst 5, 1) := by decide +kernel
theorem dX12_isShelf_3 : decode cX12_isShelf 3 = .ok (.invokestatic 140, 3) := by decide +kernel
theorem dX12_isShelf_6 : decode cX12_isShelf 6 = .ok (.ireturn, 1) := by decide +kernel
theorem dX12_keep_0 : decode cX12_keep 0 = .ok (.iload_n 1, 1) := by decide +kernel
theorem dX12_keep_1 : decode cX12_keep 1 = .ok (.invokestatic 176, 3) := by decide +kernel
theorem dX12_keep_4 : decode cX12_keep 4 = .ok (.ifCond .eq 16, 3) := by decide +kernel
theorem dX12_keep_7 : decode cX12_keep 7 = .ok (.iload_n 2, 1) := by decide +kernel
theorem dX12_keep_8 : decode cX12_keep 8 = .ok (.iconst (-1), 1) := by decide +kernel
theorem dX12_keep_9 : decode cX12_keep 9 = .ok (.if_icmp .eq 13, 3) := by decide +kernel
theorem dX12_keep_12 : decode cX12_keep 12 = .ok (.aload_n 0, 1) := by decide +kernel
theorem dX12_keep_13 : decode cX12_keep 13 = .ok (.iload_n 2, 1) := by decide +kernel
theorem dX12_keep_14 : decode cX12_keep 14 = .ok (.invokevirtual 416, 3) := by decide +kernel
theorem dX12_keep_17 : decode cX12_keep 17 = .ok (.ifCond .ne 5, 3) := by decide +kernel
theorem dX12_keep_20 : decode cX12_keep 20 = .ok (.iconst (-1), 1) := by decide +kernel
theorem dX12_keep_21 : decode cX12_keep 21 = .ok (.ireturn, 1) := by decide +kernel
theorem dX12_keep_22 : decode cX12_keep 22 = .ok (.aload_n 0, 1) := by decide +kernel
theorem dX12_keep_23 : decode cX12_keep 23 = .ok (.getfield 120, 3) := by decide +kernel
theorem dX12_keep_26 : decode cX12_keep 26 = .ok (.iload_n 1, 1) := by decide +kernel
theorem dX12_keep_27 : decode cX12_keep 27 = .ok (.iload_n 2, 1) := by decide +kernel
theorem dX12_keep_28 : decode cX12_keep 28 = .ok (.iastore, 1) := by decide +kernel
theorem dX12_keep_29 : decode cX12_keep 29 = .ok (.iconst 1, 1) := by decide +kernel
theorem dX12_keep_30 : decode cX12_keep 30 = .ok (.ireturn, 1) := by decide +kernel
theorem dX12_row_0 : decode cX12_row 0 = .ok (.iload_n 1, 1) := by decide +kernel
theorem dX12_row_1 : decode cX12_row 1 = .ok (.invokestatic 176, 3) := by decide +kernel
theorem dX12_row_4 : decode cX12_row 4 = .ok (.ifCond .eq 18, 3) := by decide +kernel
theorem dX12_row_7 : decode cX12_row 7 = .ok (.iload_n 2, 1) := by decide +kernel
theorem dX12_row_8 : decode cX12_row 8 = .ok (.iconst 0, 1) := by decide +kernel
theorem dX12_row_9 : decode cX12_row 9 = .ok (.iconst 4, 1) := by decide +kernel
theorem dX12_row_10 : decode cX12_row 10 = .ok (.invokestatic 140, 3) := by decide +kernel
theorem dX12_row_13 : decode cX12_row 13 = .ok (.ifCond .eq 9, 3) := by decide +kernel
theorem dX12_row_16 : decode cX12_row 16 = .ok (.iload_n 3, 1) := by decide +kernel
theorem dX12_row_17 : decode cX12_row 17 = .ok (.bipush 60, 2) := by decide +kernel
theorem dX12_row_19 : decode cX12_row 19 = .ok (.if_icmp .le 5, 3) := by decide +kernel
theorem dX12_row_22 : decode cX12_row 22 = .ok (.iconst (-1), 1) := by decide +kernel
theorem dX12_row_23 : decode cX12_row 23 = .ok (.ireturn, 1) := by decide +kernel
theorem dX12_row_24 : decode cX12_row 24 = .ok (.iload_n 3, 1) := by decide +kernel
theorem dX12_row_25 : decode cX12_row 25 = .ok (.ifCond .ge 6, 3) := by decide +kernel
theorem dX12_row_28 : decode cX12_row 28 = .ok (.bipush (-14), 2) := by decide +kernel
theorem dX12_row_30 : decode cX12_row 30 = .ok (.ireturn, 1) := by decide +kernel
theorem dX12_row_31 : decode cX12_row 31 = .ok (.aload_n 0, 1) := by decide +kernel
theorem dX12_row_32 : decode cX12_row 32 = .ok (.getfield 120, 3) := by decide +kernel
theorem dX12_row_35 : decode cX12_row 35 = .ok (.iload_n 1, 1) := by decide +kernel
theorem dX12_row_36 : decode cX12_row 36 = .ok (.bipush (-2), 2) := by decide +kernel
theorem dX12_row_38 : decode cX12_row 38 = .ok (.iload_n 2, 1) := by decide +kernel
theorem dX12_row_39 : decode cX12_row 39 = .ok (.isub, 1) := by decide +kernel
theorem dX12_row_40 : decode cX12_row 40 = .ok (.iastore, 1) := by decide +kernel
theorem dX12_row_41 : decode cX12_row 41 = .ok (.aload_n 0, 1) := by decide +kernel
theorem dX12_row_42 : decode cX12_row 42 = .ok (.getfield 123, 3) := by decide +kernel
theorem dX12_row_45 : decode cX12_row 45 = .ok (.iload_n 1, 1) := by decide +kernel
theorem dX12_row_46 : decode cX12_row 46 = .ok (.iload_n 3, 1) := by decide +kernel
theorem dX12_row_47 : decode cX12_row 47 = .ok (.iastore, 1) := by decide +kernel
theorem dX12_row_48 : decode cX12_row 48 = .ok (.bipush 60, 2) := by decide +kernel
theorem dX12_row_50 : decode cX12_row 50 = .ok (.iload_n 1, 1) := by decide +kernel
theorem dX12_row_51 : decode cX12_row 51 = .ok (.imul, 1) := by decide +kernel
theorem dX12_row_52 : decode cX12_row 52 = .ok (.istore 4, 2) := by decide +kernel
theorem dX12_row_54 : decode cX12_row 54 = .ok (.iload 4, 2) := by decide +kernel
theorem dX12_row_56 : decode cX12_row 56 = .ok (.bipush 60, 2) := by decide +kernel
theorem dX12_row_58 : decode cX12_row 58 = .ok (.iload_n 1, 1) := by decide +kernel
theorem dX12_row_59 : decode cX12_row 59 = .ok (.imul, 1) := by decide +kernel
theorem dX12_row_60 : decode cX12_row 60 = .ok (.bipush 60, 2) := by decide +kernel
theorem dX12_row_62 : decode cX12_row 62 = .ok (.iadd, 1) := by decide +kernel
theorem dX12_row_63 : decode cX12_row 63 = .ok (.if_icmp .ge 17, 3) := by decide +kernel
theorem dX12_row_66 : decode cX12_row 66 = .ok (.aload_n 0, 1) := by decide +kernel
theorem dX12_row_67 : decode cX12_row 67 = .ok (.getfield 126, 3) := by decide +kernel
theorem dX12_row_70 : decode cX12_row 70 = .ok (.iload 4, 2) := by decide +kernel
theorem dX12_row_72 : decode cX12_row 72 = .ok (.lconst 0, 1) := by decide +kernel
theorem dX12_row_73 : decode cX12_row 73 = .ok (.lastore, 1) := by decide +kernel
theorem dX12_row_74 : decode cX12_row 74 = .ok (.iinc 4 1, 3) := by decide +kernel
theorem dX12_row_77 : decode cX12_row 77 = .ok (.goto (-23), 3) := by decide +kernel
theorem dX12_row_80 : decode cX12_row 80 = .ok (.iconst 1, 1) := by decide +kernel
theorem dX12_row_81 : decode cX12_row 81 = .ok (.ireturn, 1) := by decide +kernel
theorem dX12_whyNoPlace_0 : decode cX12_whyNoPlace 0 = .ok (.iload_n 1, 1) := by decide +kernel
theorem dX12_whyNoPlace_1 : decode cX12_whyNoPlace 1 = .ok (.invokestatic 176, 3) := by decide +kernel
theorem dX12_whyNoPlace_4 : decode cX12_whyNoPlace 4 = .ok (.ifCond .ne 5, 3) := by decide +kernel
theorem dX12_whyNoPlace_7 : decode cX12_whyNoPlace 7 = .ok (.iconst (-1), 1) := by decide +kernel
theorem dX12_whyNoPlace_8 : decode cX12_whyNoPlace 8 = .ok (.ireturn, 1) := by decide +kernel
theorem dX12_whyNoPlace_9 : decode cX12_whyNoPlace 9 = .ok (.aload_n 0, 1) := by decide +kernel
theorem dX12_whyNoPlace_10 : decode cX12_whyNoPlace 10 = .ok (.getfield 120, 3) := by decide +kernel
theorem dX12_whyNoPlace_13 : decode cX12_whyNoPlace 13 = .ok (.iload_n 1, 1) := by decide +kernel
theorem dX12_whyNoPlace_14 : decode cX12_whyNoPlace 14 = .ok (.iaload, 1) := by decide +kernel
theorem dX12_whyNoPlace_15 : decode cX12_whyNoPlace 15 = .ok (.iconst (-1), 1) := by decide +kernel
theorem dX12_whyNoPlace_16 : decode cX12_whyNoPlace 16 = .ok (.if_icmp .ne 6, 3) := by decide +kernel
theorem dX12_whyNoPlace_19 : decode cX12_whyNoPlace 19 = .ok (.bipush (-11), 2) := by decide +kernel
theorem dX12_whyNoPlace_21 : decode cX12_whyNoPlace 21 = .ok (.ireturn, 1) := by decide +kernel
theorem dX12_whyNoPlace_22 : decode cX12_whyNoPlace 22 = .ok (.aload_n 0, 1) := by decide +kernel
theorem dX12_whyNoPlace_23 : decode cX12_whyNoPlace 23 = .ok (.getfield 120, 3) := by decide +kernel
theorem dX12_whyNoPlace_26 : decode cX12_whyNoPlace 26 = .ok (.iload_n 1, 1) := by decide +kernel
theorem dX12_whyNoPlace_27 : decode cX12_whyNoPlace 27 = .ok (.iaload, 1) := by decide +kernel
theorem dX12_whyNoPlace_28 : decode cX12_whyNoPlace 28 = .ok (.ifCond .lt 6, 3) := by decide +kernel
theorem dX12_whyNoPlace_31 : decode cX12_whyNoPlace 31 = .ok (.bipush (-12), 2) := by decide +kernel
theorem dX12_whyNoPlace_33 : decode cX12_whyNoPlace 33 = .ok (.ireturn, 1) := by decide +kernel
theorem dX12_whyNoPlace_34 : decode cX12_whyNoPlace 34 = .ok (.iload_n 2, 1) := by decide +kernel
theorem dX12_whyNoPlace_35 : decode cX12_whyNoPlace 35 = .ok (.iconst 0, 1) := by decide +kernel
theorem dX12_whyNoPlace_36 : decode cX12_whyNoPlace 36 = .ok (.aload_n 0, 1) := by decide +kernel
theorem dX12_whyNoPlace_37 : decode cX12_whyNoPlace 37 = .ok (.getfield 123, 3) := by decide +kernel
theorem dX12_whyNoPlace_40 : decode cX12_whyNoPlace 40 = .ok (.iload_n 1, 1) := by decide +kernel
theorem dX12_whyNoPlace_41 : decode cX12_whyNoPlace 41 = .ok (.iaload, 1) := by decide +kernel
theorem dX12_whyNoPlace_42 : decode cX12_whyNoPlace 42 = .ok (.iconst 1, 1) := by decide +kernel
theorem dX12_whyNoPlace_43 : decode cX12_whyNoPlace 43 = .ok (.isub, 1) := by decide +kernel
theorem dX12_whyNoPlace_44 : decode cX12_whyNoPlace 44 = .ok (.invokestatic 140, 3) := by decide +kernel
theorem dX12_whyNoPlace_47 : decode cX12_whyNoPlace 47 = .ok (.ifCond .eq 7, 3) := by decide +kernel
theorem dX12_whyNoPlace_50 : decode cX12_whyNoPlace 50 = .ok (.iconst 0, 1) := by decide +kernel
theorem dX12_whyNoPlace_51 : decode cX12_whyNoPlace 51 = .ok (.goto 5, 3) := by decide +kernel
theorem dX12_whyNoPlace_54 : decode cX12_whyNoPlace 54 = .ok (.bipush (-13), 2) := by decide +kernel
theorem dX12_whyNoPlace_56 : decode cX12_whyNoPlace 56 = .ok (.ireturn, 1) := by decide +kernel
theorem dX12_put_0 : decode cX12_put 0 = .ok (.aload_n 0, 1) := by decide +kernel
theorem dX12_put_1 : decode cX12_put 1 = .ok (.iload_n 1, 1) := by decide +kernel
theorem dX12_put_2 : decode cX12_put 2 = .ok (.iload_n 2, 1) := by decide +kernel
theorem dX12_put_3 : decode cX12_put 3 = .ok (.invokevirtual 422, 3) := by decide +kernel
theorem dX12_put_6 : decode cX12_put 6 = .ok (.istore 5, 2) := by decide +kernel
theorem dX12_put_8 : decode cX12_put 8 = .ok (.iload 5, 2) := by decide +kernel
theorem dX12_put_10 : decode cX12_put 10 = .ok (.ifCond .ge 6, 3) := by decide +kernel
theorem dX12_put_13 : decode cX12_put 13 = .ok (.iload 5, 2) := by decide +kernel
theorem dX12_put_15 : decode cX12_put 15 = .ok (.ireturn, 1) := by decide +kernel
theorem dX12_put_16 : decode cX12_put 16 = .ok (.bipush (-2), 2) := by decide +kernel
theorem dX12_put_18 : decode cX12_put 18 = .ok (.aload_n 0, 1) := by decide +kernel
theorem dX12_put_19 : decode cX12_put 19 = .ok (.getfield 120, 3) := by decide +kernel
theorem dX12_put_22 : decode cX12_put 22 = .ok (.iload_n 1, 1) := by decide +kernel
theorem dX12_put_23 : decode cX12_put 23 = .ok (.iaload, 1) := by decide +kernel
theorem dX12_put_24 : decode cX12_put 24 = .ok (.isub, 1) := by decide +kernel
theorem dX12_put_25 : decode cX12_put 25 = .ok (.istore 6, 2) := by decide +kernel
theorem dX12_put_27 : decode cX12_put 27 = .ok (.aload_n 0, 1) := by decide +kernel
theorem dX12_put_28 : decode cX12_put 28 = .ok (.getfield 126, 3) := by decide +kernel
theorem dX12_put_31 : decode cX12_put 31 = .ok (.bipush 60, 2) := by decide +kernel
theorem dX12_put_33 : decode cX12_put 33 = .ok (.iload_n 1, 1) := by decide +kernel
theorem dX12_put_34 : decode cX12_put 34 = .ok (.imul, 1) := by decide +kernel
theorem dX12_put_35 : decode cX12_put 35 = .ok (.iload_n 2, 1) := by decide +kernel
theorem dX12_put_36 : decode cX12_put 36 = .ok (.iadd, 1) := by decide +kernel
theorem dX12_put_37 : decode cX12_put 37 = .ok (.iload 6, 2) := by decide +kernel
theorem dX12_put_39 : decode cX12_put 39 = .ok (.ifCond .ne 10, 3) := by decide +kernel
theorem dX12_put_42 : decode cX12_put 42 = .ok (.lload_n 3, 1) := by decide +kernel
theorem dX12_put_43 : decode cX12_put 43 = .ok (.l2i, 1) := by decide +kernel
theorem dX12_put_44 : decode cX12_put 44 = .ok (.i2b, 1) := by decide +kernel
theorem dX12_put_45 : decode cX12_put 45 = .ok (.i2l, 1) := by decide +kernel
theorem dX12_put_46 : decode cX12_put 46 = .ok (.goto 49, 3) := by decide +kernel
theorem dX12_put_49 : decode cX12_put 49 = .ok (.iload 6, 2) := by decide +kernel
theorem dX12_put_51 : decode cX12_put 51 = .ok (.iconst 1, 1) := by decide +kernel
theorem dX12_put_52 : decode cX12_put 52 = .ok (.if_icmp .ne 10, 3) := by decide +kernel
theorem dX12_put_55 : decode cX12_put 55 = .ok (.lload_n 3, 1) := by decide +kernel
theorem dX12_put_56 : decode cX12_put 56 = .ok (.l2i, 1) := by decide +kernel
theorem dX12_put_57 : decode cX12_put 57 = .ok (.i2s, 1) := by decide +kernel
theorem dX12_put_58 : decode cX12_put 58 = .ok (.i2l, 1) := by decide +kernel
theorem dX12_put_59 : decode cX12_put 59 = .ok (.goto 36, 3) := by decide +kernel
theorem dX12_put_62 : decode cX12_put 62 = .ok (.iload 6, 2) := by decide +kernel
theorem dX12_put_64 : decode cX12_put 64 = .ok (.iconst 2, 1) := by decide +kernel
theorem dX12_put_65 : decode cX12_put 65 = .ok (.if_icmp .ne 9, 3) := by decide +kernel
theorem dX12_put_68 : decode cX12_put 68 = .ok (.lload_n 3, 1) := by decide +kernel
theorem dX12_put_69 : decode cX12_put 69 = .ok (.l2i, 1) := by decide +kernel
theorem dX12_put_70 : decode cX12_put 70 = .ok (.i2l, 1) := by decide +kernel
theorem dX12_put_71 : decode cX12_put 71 = .ok (.goto 24, 3) := by decide +kernel
theorem dX12_put_74 : decode cX12_put 74 = .ok (.iload 6, 2) := by decide +kernel
theorem dX12_put_76 : decode cX12_put 76 = .ok (.iconst 3, 1) := by decide +kernel
theorem dX12_put_77 : decode cX12_put 77 = .ok (.if_icmp .ne 7, 3) := by decide +kernel
theorem dX12_put_80 : decode cX12_put 80 = .ok (.lload_n 3, 1) := by decide +kernel
theorem dX12_put_81 : decode cX12_put 81 = .ok (.goto 14, 3) := by decide +kernel
theorem dX12_put_84 : decode cX12_put 84 = .ok (.lload_n 3, 1) := by decide +kernel
theorem dX12_put_85 : decode cX12_put 85 = .ok (.lconst 0, 1) := by decide +kernel
theorem dX12_put_86 : decode cX12_put 86 = .ok (.lcmp, 1) := by decide +kernel
theorem dX12_put_87 : decode cX12_put 87 = .ok (.ifCond .eq 7, 3) := by decide +kernel
theorem dX12_put_90 : decode cX12_put 90 = .ok (.lconst 1, 1) := by decide +kernel
theorem dX12_put_91 : decode cX12_put 91 = .ok (.goto 4, 3) := by decide +kernel
theorem dX12_put_94 : decode cX12_put 94 = .ok (.lconst 0, 1) := by decide +kernel
theorem dX12_put_95 : decode cX12_put 95 = .ok (.lastore, 1) := by decide +kernel
theorem dX12_put_96 : decode cX12_put 96 = .ok (.iconst 1, 1) := by decide +kernel
theorem dX12_put_97 : decode cX12_put 97 = .ok (.ireturn, 1) := by decide +kernel
theorem dX12_element_0 : decode cX12_element 0 = .ok (.aload_n 0, 1) := by decide +kernel
theorem dX12_element_1 : decode cX12_element 1 = .ok (.iload_n 1, 1) := by decide +kernel
theorem dX12_element_2 : decode cX12_element 2 = .ok (.iload_n 2, 1) := by decide +kernel
theorem dX12_element_3 : decode cX12_element 3 = .ok (.invokevirtual 422, 3) := by decide +kernel
theorem dX12_element_6 : decode cX12_element 6 = .ok (.ifCond .ge 9, 3) := by decide +kernel
theorem dX12_element_9 : decode cX12_element 9 = .ok (.ldc2_w 313, 3) := by decide +kernel
theorem dX12_element_12 : decode cX12_element 12 = .ok (.goto 14, 3) := by decide +kernel
theorem dX12_element_15 : decode cX12_element 15 = .ok (.aload_n 0, 1) := by decide +kernel
theorem dX12_element_16 : decode cX12_element 16 = .ok (.getfield 126, 3) := by decide +kernel
theorem dX12_element_19 : decode cX12_element 19 = .ok (.bipush 60, 2) := by decide +kernel
theorem dX12_element_21 : decode cX12_element 21 = .ok (.iload_n 1, 1) := by decide +kernel
theorem dX12_element_22 : decode cX12_element 22 = .ok (.imul, 1) := by decide +kernel
theorem dX12_element_23 : decode cX12_element 23 = .ok (.iload_n 2, 1) := by decide +kernel
theorem dX12_element_24 : decode cX12_element 24 = .ok (.iadd, 1) := by decide +kernel
theorem dX12_element_25 : decode cX12_element 25 = .ok (.laload, 1) := by decide +kernel
theorem dX12_element_26 : decode cX12_element 26 = .ok (.lreturn, 1) := by decide +kernel
theorem dX12_shift_0 : decode cX12_shift 0 = .ok (.iload_n 1, 1) := by decide +kernel
theorem dX12_shift_1 : decode cX12_shift 1 = .ok (.invokestatic 176, 3) := by decide +kernel
theorem dX12_shift_4 : decode cX12_shift 4 = .ok (.ifCond .eq 10, 3) := by decide +kernel
theorem dX12_shift_7 : decode cX12_shift 7 = .ok (.iload_n 3, 1) := by decide +kernel
theorem dX12_shift_8 : decode cX12_shift 8 = .ok (.invokestatic 176, 3) := by decide +kernel
theorem dX12_shift_11 : decode cX12_shift 11 = .ok (.ifCond .ne 5, 3) := by decide +kernel
theorem dX12_shift_14 : decode cX12_shift 14 = .ok (.iconst (-1), 1) := by decide +kernel
theorem dX12_shift_15 : decode cX12_shift 15 = .ok (.ireturn, 1) := by decide +kernel
theorem dX12_shift_16 : decode cX12_shift 16 = .ok (.aload_n 0, 1) := by decide +kernel
theorem dX12_shift_17 : decode cX12_shift 17 = .ok (.getfield 120, 3) := by decide +kernel
theorem dX12_shift_20 : decode cX12_shift 20 = .ok (.iload_n 1, 1) := by decide +kernel
theorem dX12_shift_21 : decode cX12_shift 21 = .ok (.iaload, 1) := by decide +kernel
theorem dX12_shift_22 : decode cX12_shift 22 = .ok (.iconst (-1), 1) := by decide +kernel
theorem dX12_shift_23 : decode cX12_shift 23 = .ok (.if_icmp .eq 13, 3) := by decide +kernel
theorem dX12_shift_26 : decode cX12_shift 26 = .ok (.aload_n 0, 1) := by decide +kernel
theorem dX12_shift_27 : decode cX12_shift 27 = .ok (.getfield 120, 3) := by decide +kernel
theorem dX12_shift_30 : decode cX12_shift 30 = .ok (.iload_n 3, 1) := by decide +kernel
theorem dX12_shift_31 : decode cX12_shift 31 = .ok (.iaload, 1) := by decide +kernel
theorem dX12_shift_32 : decode cX12_shift 32 = .ok (.iconst (-1), 1) := by decide +kernel
theorem dX12_shift_33 : decode cX12_shift 33 = .ok (.if_icmp .ne 6, 3) := by decide +kernel
theorem dX12_shift_36 : decode cX12_shift 36 = .ok (.bipush (-11), 2) := by decide +kernel
theorem dX12_shift_38 : decode cX12_shift 38 = .ok (.ireturn, 1) := by decide +kernel
theorem dX12_shift_39 : decode cX12_shift 39 = .ok (.aload_n 0, 1) := by decide +kernel
theorem dX12_shift_40 : decode cX12_shift 40 = .ok (.getfield 120, 3) := by decide +kernel
theorem dX12_shift_43 : decode cX12_shift 43 = .ok (.iload_n 1, 1) := by decide +kernel
theorem dX12_shift_44 : decode cX12_shift 44 = .ok (.iaload, 1) := by decide +kernel
theorem dX12_shift_45 : decode cX12_shift 45 = .ok (.ifCond .ge 18, 3) := by decide +kernel
theorem dX12_shift_48 : decode cX12_shift 48 = .ok (.aload_n 0, 1) := by decide +kernel
theorem dX12_shift_49 : decode cX12_shift 49 = .ok (.getfield 120, 3) := by decide +kernel
theorem dX12_shift_52 : decode cX12_shift 52 = .ok (.iload_n 1, 1) := by decide +kernel
theorem dX12_shift_53 : decode cX12_shift 53 = .ok (.iaload, 1) := by decide +kernel
theorem dX12_shift_54 : decode cX12_shift 54 = .ok (.aload_n 0, 1) := by decide +kernel
theorem dX12_shift_55 : decode cX12_shift 55 = .ok (.getfield 120, 3) := by decide +kernel
theorem dX12_shift_58 : decode cX12_shift 58 = .ok (.iload_n 3, 1) := by decide +kernel
theorem dX12_shift_59 : decode cX12_shift 59 = .ok (.iaload, 1) := by decide +kernel
theorem dX12_shift_60 : decode cX12_shift 60 = .ok (.if_icmp .eq 6, 3) := by decide +kernel
theorem dX12_shift_63 : decode cX12_shift 63 = .ok (.bipush (-12), 2) := by decide +kernel
theorem dX12_shift_65 : decode cX12_shift 65 = .ok (.ireturn, 1) := by decide +kernel
theorem dX12_shift_66 : decode cX12_shift 66 = .ok (.iload 5, 2) := by decide +kernel
theorem dX12_shift_68 : decode cX12_shift 68 = .ok (.ifCond .lt 39, 3) := by decide +kernel
theorem dX12_shift_71 : decode cX12_shift 71 = .ok (.iload_n 2, 1) := by decide +kernel
theorem dX12_shift_72 : decode cX12_shift 72 = .ok (.ifCond .lt 35, 3) := by decide +kernel
theorem dX12_shift_75 : decode cX12_shift 75 = .ok (.iload 4, 2) := by decide +kernel
theorem dX12_shift_77 : decode cX12_shift 77 = .ok (.ifCond .lt 30, 3) := by decide +kernel
theorem dX12_shift_80 : decode cX12_shift 80 = .ok (.iload_n 2, 1) := by decide +kernel
theorem dX12_shift_81 : decode cX12_shift 81 = .ok (.aload_n 0, 1) := by decide +kernel
theorem dX12_shift_82 : decode cX12_shift 82 = .ok (.getfield 123, 3) := by decide +kernel
theorem dX12_shift_85 : decode cX12_shift 85 = .ok (.iload_n 1, 1) := by decide +kernel
theorem dX12_shift_86 : decode cX12_shift 86 = .ok (.iaload, 1) := by decide +kernel
theorem dX12_shift_87 : decode cX12_shift 87 = .ok (.iload 5, 2) := by decide +kernel
theorem dX12_shift_89 : decode cX12_shift 89 = .ok (.isub, 1) := by decide +kernel
theorem dX12_shift_90 : decode cX12_shift 90 = .ok (.if_icmp .gt 17, 3) := by decide +kernel
theorem dX12_shift_93 : decode cX12_shift 93 = .ok (.iload 4, 2) := by decide +kernel
theorem dX12_shift_95 : decode cX12_shift 95 = .ok (.aload_n 0, 1) := by decide +kernel
theorem dX12_shift_96 : decode cX12_shift 96 = .ok (.getfield 123, 3) := by decide +kernel
theorem dX12_shift_99 : decode cX12_shift 99 = .ok (.iload_n 3, 1) := by decide +kernel
theorem dX12_shift_100 : decode cX12_shift 100 = .ok (.iaload, 1) := by decide +kernel
theorem dX12_shift_101 : decode cX12_shift 101 = .ok (.iload 5, 2) := by decide +kernel
theorem dX12_shift_103 : decode cX12_shift 103 = .ok (.isub, 1) := by decide +kernel
theorem dX12_shift_104 : decode cX12_shift 104 = .ok (.if_icmp .le 6, 3) := by decide +kernel
theorem dX12_shift_107 : decode cX12_shift 107 = .ok (.bipush (-13), 2) := by decide +kernel
theorem dX12_shift_109 : decode cX12_shift 109 = .ok (.ireturn, 1) := by decide +kernel
theorem dX12_shift_110 : decode cX12_shift 110 = .ok (.iconst 0, 1) := by decide +kernel
theorem dX12_shift_111 : decode cX12_shift 111 = .ok (.istore 6, 2) := by decide +kernel
theorem dX12_shift_113 : decode cX12_shift 113 = .ok (.iload 6, 2) := by decide +kernel
theorem dX12_shift_115 : decode cX12_shift 115 = .ok (.iload 5, 2) := by decide +kernel
theorem dX12_shift_117 : decode cX12_shift 117 = .ok (.if_icmp .ge 30, 3) := by decide +kernel
theorem dX12_shift_120 : decode cX12_shift 120 = .ok (.aload_n 0, 1) := by decide +kernel
theorem dX12_shift_121 : decode cX12_shift 121 = .ok (.getfield 130, 3) := by decide +kernel
theorem dX12_shift_124 : decode cX12_shift 124 = .ok (.iload 6, 2) := by decide +kernel
theorem dX12_shift_126 : decode cX12_shift 126 = .ok (.aload_n 0, 1) := by decide +kernel
theorem dX12_shift_127 : decode cX12_shift 127 = .ok (.getfield 126, 3) := by decide +kernel
theorem dX12_shift_130 : decode cX12_shift 130 = .ok (.bipush 60, 2) := by decide +kernel
theorem dX12_shift_132 : decode cX12_shift 132 = .ok (.iload_n 1, 1) := by decide +kernel
theorem dX12_shift_133 : decode cX12_shift 133 = .ok (.imul, 1) := by decide +kernel
theorem dX12_shift_134 : decode cX12_shift 134 = .ok (.iload_n 2, 1) := by decide +kernel
theorem dX12_shift_135 : decode cX12_shift 135 = .ok (.iadd, 1) := by decide +kernel
theorem dX12_shift_136 : decode cX12_shift 136 = .ok (.iload 6, 2) := by decide +kernel
theorem dX12_shift_138 : decode cX12_shift 138 = .ok (.iadd, 1) := by decide +kernel
theorem dX12_shift_139 : decode cX12_shift 139 = .ok (.laload, 1) := by decide +kernel
theorem dX12_shift_140 : decode cX12_shift 140 = .ok (.lastore, 1) := by decide +kernel
theorem dX12_shift_141 : decode cX12_shift 141 = .ok (.iinc 6 1, 3) := by decide +kernel
theorem dX12_shift_144 : decode cX12_shift 144 = .ok (.goto (-31), 3) := by decide +kernel
theorem dX12_shift_147 : decode cX12_shift 147 = .ok (.iconst 0, 1) := by decide +kernel
theorem dX12_shift_148 : decode cX12_shift 148 = .ok (.istore 6, 2) := by decide +kernel
theorem dX12_shift_150 : decode cX12_shift 150 = .ok (.iload 6, 2) := by decide +kernel
theorem dX12_shift_152 : decode cX12_shift 152 = .ok (.iload 5, 2) := by decide +kernel
theorem dX12_shift_154 : decode cX12_shift 154 = .ok (.if_icmp .ge 31, 3) := by decide +kernel
theorem dX12_shift_157 : decode cX12_shift 157 = .ok (.aload_n 0, 1) := by decide +kernel
theorem dX12_shift_158 : decode cX12_shift 158 = .ok (.getfield 126, 3) := by decide +kernel
theorem dX12_shift_161 : decode cX12_shift 161 = .ok (.bipush 60, 2) := by decide +kernel
theorem dX12_shift_163 : decode cX12_shift 163 = .ok (.iload_n 3, 1) := by decide +kernel
theorem dX12_shift_164 : decode cX12_shift 164 = .ok (.imul, 1) := by decide +kernel
theorem dX12_shift_165 : decode cX12_shift 165 = .ok (.iload 4, 2) := by decide +kernel
theorem dX12_shift_167 : decode cX12_shift 167 = .ok (.iadd, 1) := by decide +kernel
theorem dX12_shift_168 : decode cX12_shift 168 = .ok (.iload 6, 2) := by decide +kernel
theorem dX12_shift_170 : decode cX12_shift 170 = .ok (.iadd, 1) := by decide +kernel
theorem dX12_shift_171 : decode cX12_shift 171 = .ok (.aload_n 0, 1) := by decide +kernel
theorem dX12_shift_172 : decode cX12_shift 172 = .ok (.getfield 130, 3) := by decide +kernel
theorem dX12_shift_175 : decode cX12_shift 175 = .ok (.iload 6, 2) := by decide +kernel
theorem dX12_shift_177 : decode cX12_shift 177 = .ok (.laload, 1) := by decide +kernel
theorem dX12_shift_178 : decode cX12_shift 178 = .ok (.lastore, 1) := by decide +kernel
theorem dX12_shift_179 : decode cX12_shift 179 = .ok (.iinc 6 1, 3) := by decide +kernel
theorem dX12_shift_182 : decode cX12_shift 182 = .ok (.goto (-32), 3) := by decide +kernel
theorem dX12_shift_185 : decode cX12_shift 185 = .ok (.iload 5, 2) := by decide +kernel
theorem dX12_shift_187 : decode cX12_shift 187 = .ok (.ireturn, 1) := by decide +kernel
theorem dX12_taken_0 : decode cX12_taken 0 = .ok (.iload_n 1, 1) := by decide +kernel
theorem dX12_taken_1 : decode cX12_taken 1 = .ok (.invokestatic 176, 3) := by decide +kernel
theorem dX12_taken_4 : decode cX12_taken 4 = .ok (.ifCond .eq 13, 3) := by decide +kernel
theorem dX12_taken_7 : decode cX12_taken 7 = .ok (.iload_n 2, 1) := by decide +kernel
theorem dX12_taken_8 : decode cX12_taken 8 = .ok (.iconst 0, 1) := by decide +kernel
theorem dX12_taken_9 : decode cX12_taken 9 = .ok (.bipush 7, 2) := by decide +kernel
theorem dX12_taken_11 : decode cX12_taken 11 = .ok (.invokestatic 140, 3) := by decide +kernel
theorem dX12_taken_14 : decode cX12_taken 14 = .ok (.ifCond .ne 5, 3) := by decide +kernel
theorem dX12_taken_17 : decode cX12_taken 17 = .ok (.iconst (-1), 1) := by decide +kernel
theorem dX12_taken_18 : decode cX12_taken 18 = .ok (.ireturn, 1) := by decide +kernel
theorem dX12_taken_19 : decode cX12_taken 19 = .ok (.aload_n 0, 1) := by decide +kernel
theorem dX12_taken_20 : decode cX12_taken 20 = .ok (.getfield 120, 3) := by decide +kernel
theorem dX12_taken_23 : decode cX12_taken 23 = .ok (.iload_n 1, 1) := by decide +kernel
theorem dX12_taken_24 : decode cX12_taken 24 = .ok (.iaload, 1) := by decide +kernel
theorem dX12_taken_25 : decode cX12_taken 25 = .ok (.iconst (-1), 1) := by decide +kernel
theorem dX12_taken_26 : decode cX12_taken 26 = .ok (.if_icmp .ne 6, 3) := by decide +kernel
theorem dX12_taken_29 : decode cX12_taken 29 = .ok (.bipush (-11), 2) := by decide +kernel
theorem dX12_taken_31 : decode cX12_taken 31 = .ok (.ireturn, 1) := by decide +kernel
theorem dX12_taken_32 : decode cX12_taken 32 = .ok (.aload_n 0, 1) := by decide +kernel
theorem dX12_taken_33 : decode cX12_taken 33 = .ok (.getfield 120, 3) := by decide +kernel
theorem dX12_taken_36 : decode cX12_taken 36 = .ok (.iload_n 1, 1) := by decide +kernel
theorem dX12_taken_37 : decode cX12_taken 37 = .ok (.iaload, 1) := by decide +kernel
theorem dX12_taken_38 : decode cX12_taken 38 = .ok (.ifCond .lt 35, 3) := by decide +kernel
theorem dX12_taken_41 : decode cX12_taken 41 = .ok (.aload_n 0, 1) := by decide +kernel
theorem dX12_taken_42 : decode cX12_taken 42 = .ok (.getfield 114, 3) := by decide +kernel
theorem dX12_taken_45 : decode cX12_taken 45 = .ok (.aload_n 0, 1) := by decide +kernel
theorem dX12_taken_46 : decode cX12_taken 46 = .ok (.getfield 120, 3) := by decide +kernel
theorem dX12_taken_49 : decode cX12_taken 49 = .ok (.iload_n 1, 1) := by decide +kernel
theorem dX12_taken_50 : decode cX12_taken 50 = .ok (.iaload, 1) := by decide +kernel
theorem dX12_taken_51 : decode cX12_taken 51 = .ok (.iaload, 1) := by decide +kernel
theorem dX12_taken_52 : decode cX12_taken 52 = .ok (.iload_n 2, 1) := by decide +kernel
theorem dX12_taken_53 : decode cX12_taken 53 = .ok (.invokestatic 386, 3) := by decide +kernel
theorem dX12_taken_56 : decode cX12_taken 56 = .ok (.ifCond .eq 17, 3) := by decide +kernel
theorem dX12_taken_59 : decode cX12_taken 59 = .ok (.aload_n 0, 1) := by decide +kernel
theorem dX12_taken_60 : decode cX12_taken 60 = .ok (.getfield 114, 3) := by decide +kernel
theorem dX12_taken_63 : decode cX12_taken 63 = .ok (.aload_n 0, 1) := by decide +kernel
theorem dX12_taken_64 : decode cX12_taken 64 = .ok (.getfield 120, 3) := by decide +kernel
theorem dX12_taken_67 : decode cX12_taken 67 = .ok (.iload_n 1, 1) := by decide +kernel
theorem dX12_taken_68 : decode cX12_taken 68 = .ok (.iaload, 1) := by decide +kernel
theorem dX12_taken_69 : decode cX12_taken 69 = .ok (.iaload, 1) := by decide +kernel
theorem dX12_taken_70 : decode cX12_taken 70 = .ok (.goto 5, 3) := by decide +kernel
theorem dX12_taken_73 : decode cX12_taken 73 = .ok (.bipush (-12), 2) := by decide +kernel
theorem dX12_taken_75 : decode cX12_taken 75 = .ok (.ireturn, 1) := by decide +kernel
theorem dJ9_abs_067f4_0 : decode cJ9_abs_067f4 0 = .ok (.lload_n 0, 1) := by decide +kernel
theorem dJ9_abs_067f4_1 : decode cJ9_abs_067f4 1 = .ok (.lconst 0, 1) := by decide +kernel
theorem dJ9_abs_067f4_2 : decode cJ9_abs_067f4 2 = .ok (.lcmp, 1) := by decide +kernel
theorem dJ9_abs_067f4_3 : decode cJ9_abs_067f4 3 = .ok (.ifCond .ge 8, 3) := by decide +kernel
theorem dJ9_abs_067f4_6 : decode cJ9_abs_067f4 6 = .ok (.lload_n 0, 1) := by decide +kernel
theorem dJ9_abs_067f4_7 : decode cJ9_abs_067f4 7 = .ok (.lneg, 1) := by decide +kernel
theorem dJ9_abs_067f4_8 : decode cJ9_abs_067f4 8 = .ok (.goto 4, 3) := by decide +kernel
theorem dJ9_abs_067f4_11 : decode cJ9_abs_067f4 11 = .ok (.lload_n 0, 1) := by decide +kernel
theorem dJ9_abs_067f4_12 : decode cJ9_abs_067f4 12 = .ok (.lreturn, 1) := by decide +kernel
theorem dJ9_max_7cf53_0 : decode cJ9_max_7cf53 0 = .ok (.iload_n 0, 1) := by decide +kernel
theorem dJ9_max_7cf53_1 : decode cJ9_max_7cf53 1 = .ok (.iload_n 1, 1) := by decide +kernel
theorem dJ9_max_7cf53_2 : decode cJ9_max_7cf53 2 = .ok (.if_icmp .lt 7, 3) := by decide +kernel
theorem dJ9_max_7cf53_5 : decode cJ9_max_7cf53 5 = .ok (.iload_n 0, 1) := by decide +kernel
theorem dJ9_max_7cf53_6 : decode cJ9_max_7cf53 6 = .ok (.goto 4, 3) := by decide +kernel
theorem dJ9_max_7cf53_9 : decode cJ9_max_7cf53 9 = .ok (.iload_n 1, 1) := by decide +kernel
theorem dJ9_max_7cf53_10 : decode cJ9_max_7cf53 10 = .ok (.ireturn, 1) := by decide +kernel
theorem dJ9_min_7cf53_0 : decode cJ9_min_7cf53 0 = .ok (.iload_n 0, 1) := by decide +kernel
theorem dJ9_min_7cf53_1 : decode cJ9_min_7cf53 1 = .ok (.iload_n 1, 1) := by decide +kernel
theorem dJ9_min_7cf53_2 : decode cJ9_min_7cf53 2 = .ok (.if_icmp .gt 7, 3) := by decide +kernel
theorem dJ9_min_7cf53_5 : decode cJ9_min_7cf53 5 = .ok (.iload_n 0, 1) := by decide +kernel
theorem dJ9_min_7cf53_6 : decode cJ9_min_7cf53 6 = .ok (.goto 4, 3) := by decide +kernel
theorem dJ9_min_7cf53_9 : decode cJ9_min_7cf53 9 = .ok (.iload_n 1, 1) := by decide +kernel
theorem dJ9_min_7cf53_10 : decode cJ9_min_7cf53 10 = .ok (.ireturn, 1) := by decide +kernel
theorem dJ7_fill_d0a16_0 : decode cJ7_fill_d0a16 0 = .ok (.iconst 0, 1) := by decide +kernel
theorem dJ7_fill_d0a16_1 : decode cJ7_fill_d0a16 1 = .ok (.istore_n 3, 1) := by decide +kernel
theorem dJ7_fill_d0a16_2 : decode cJ7_fill_d0a16 2 = .ok (.aload_n 0, 1) := by decide +kernel
theorem dJ7_fill_d0a16_3 : decode cJ7_fill_d0a16 3 = .ok (.arraylength, 1) := by decide +kernel
theorem dJ7_fill_d0a16_4 : decode cJ7_fill_d0a16 4 = .ok (.istore 4, 2) := by decide +kernel
theorem dJ7_fill_d0a16_6 : decode cJ7_fill_d0a16 6 = .ok (.iload_n 3, 1) := by decide +kernel
theorem dJ7_fill_d0a16_7 : decode cJ7_fill_d0a16 7 = .ok (.iload 4, 2) := by decide +kernel
theorem dJ7_fill_d0a16_9 : decode cJ7_fill_d0a16 9 = .ok (.if_icmp .ge 13, 3) := by decide +kernel
theorem dJ7_fill_d0a16_12 : decode cJ7_fill_d0a16 12 = .ok (.aload_n 0, 1) := by decide +kernel
theorem dJ7_fill_d0a16_13 : decode cJ7_fill_d0a16 13 = .ok (.iload_n 3, 1) := by decide +kernel
theorem dJ7_fill_d0a16_14 : decode cJ7_fill_d0a16 14 = .ok (.lload_n 1, 1) := by decide +kernel
theorem dJ7_fill_d0a16_15 : decode cJ7_fill_d0a16 15 = .ok (.lastore, 1) := by decide +kernel
theorem dJ7_fill_d0a16_16 : decode cJ7_fill_d0a16 16 = .ok (.iinc 3 1, 3) := by decide +kernel
theorem dJ7_fill_d0a16_19 : decode cJ7_fill_d0a16 19 = .ok (.goto (-13), 3) := by decide +kernel
theorem dJ7_fill_d0a16_22 : decode cJ7_fill_d0a16 22 = .ok (.return_, 1) := by decide +kernel
theorem dJ7_fill_53178_0 : decode cJ7_fill_53178 0 = .ok (.iconst 0, 1) := by decide +kernel
theorem dJ7_fill_53178_1 : decode cJ7_fill_53178 1 = .ok (.istore_n 2, 1) := by decide +kernel
theorem dJ7_fill_53178_2 : decode cJ7_fill_53178 2 = .ok (.aload_n 0, 1) := by decide +kernel
theorem dJ7_fill_53178_3 : decode cJ7_fill_53178 3 = .ok (.arraylength, 1) := by decide +kernel
theorem dJ7_fill_53178_4 : decode cJ7_fill_53178 4 = .ok (.istore_n 3, 1) := by decide +kernel
theorem dJ7_fill_53178_5 : decode cJ7_fill_53178 5 = .ok (.iload_n 2, 1) := by decide +kernel
theorem dJ7_fill_53178_6 : decode cJ7_fill_53178 6 = .ok (.iload_n 3, 1) := by decide +kernel
theorem dJ7_fill_53178_7 : decode cJ7_fill_53178 7 = .ok (.if_icmp .ge 13, 3) := by decide +kernel
theorem dJ7_fill_53178_10 : decode cJ7_fill_53178 10 = .ok (.aload_n 0, 1) := by decide +kernel
theorem dJ7_fill_53178_11 : decode cJ7_fill_53178 11 = .ok (.iload_n 2, 1) := by decide +kernel
theorem dJ7_fill_53178_12 : decode cJ7_fill_53178 12 = .ok (.iload_n 1, 1) := by decide +kernel
theorem dJ7_fill_53178_13 : decode cJ7_fill_53178 13 = .ok (.iastore, 1) := by decide +kernel
theorem dJ7_fill_53178_14 : decode cJ7_fill_53178 14 = .ok (.iinc 2 1, 3) := by decide +kernel
theorem dJ7_fill_53178_17 : decode cJ7_fill_53178 17 = .ok (.goto (-12), 3) := by decide +kernel
theorem dJ7_fill_53178_20 : decode cJ7_fill_53178 20 = .ok (.return_, 1) := by decide +kernel
theorem dL_law_0 : decode cL_law 0 = .ok (.new 7, 3) := by decide +kernel
theorem dL_law_3 : decode cL_law 3 = .ok (.dup, 1) := by decide +kernel
theorem dL_law_4 : decode cL_law 4 = .ok (.invokespecial 9, 3) := by decide +kernel
theorem dL_law_7 : decode cL_law 7 = .ok (.astore_n 1, 1) := by decide +kernel
theorem dL_law_8 : decode cL_law 8 = .ok (.new 10, 3) := by decide +kernel
theorem dL_law_11 : decode cL_law 11 = .ok (.dup, 1) := by decide +kernel
theorem dL_law_12 : decode cL_law 12 = .ok (.invokespecial 12, 3) := by decide +kernel
theorem dL_law_15 : decode cL_law 15 = .ok (.astore_n 2, 1) := by decide +kernel
theorem dL_law_16 : decode cL_law 16 = .ok (.iconst 0, 1) := by decide +kernel
theorem dL_law_17 : decode cL_law 17 = .ok (.istore_n 3, 1) := by decide +kernel
theorem dL_law_18 : decode cL_law 18 = .ok (.iload_n 3, 1) := by decide +kernel
theorem dL_law_19 : decode cL_law 19 = .ok (.aload_n 0, 1) := by decide +kernel
theorem dL_law_20 : decode cL_law 20 = .ok (.arraylength, 1) := by decide +kernel
theorem dL_law_21 : decode cL_law 21 = .ok (.bipush 6, 2) := by decide +kernel
theorem dL_law_23 : decode cL_law 23 = .ok (.isub, 1) := by decide +kernel
theorem dL_law_24 : decode cL_law 24 = .ok (.if_icmp .gt 1314, 3) := by decide +kernel
theorem dL_law_27 : decode cL_law 27 = .ok (.aload_n 0, 1) := by decide +kernel
theorem dL_law_28 : decode cL_law 28 = .ok (.iload_n 3, 1) := by decide +kernel
theorem dL_law_29 : decode cL_law 29 = .ok (.iaload, 1) := by decide +kernel
theorem dL_law_30 : decode cL_law 30 = .ok (.bipush 63, 2) := by decide +kernel
theorem dL_law_32 : decode cL_law 32 = .ok (.iand, 1) := by decide +kernel
theorem dL_law_33 : decode cL_law 33 = .ok (.tableswitch 1299 0 36 #[163, 196, 239, 272, 315, 358, 381, 394, 427, 460, 484, 507, 551, 585, 619, 652, 685, 708, 731, 754, 777, 800, 833, 856, 869, 882, 895, 908, 931, 974, 997, 1030, 1073, 1146, 1180, 1243, 1276], 163) := by decide +kernel
theorem dL_law_196 : decode cL_law 196 = .ok (.aload_n 1, 1) := by decide +kernel
theorem dL_law_197 : decode cL_law 197 = .ok (.aload_n 0, 1) := by decide +kernel
theorem dL_law_198 : decode cL_law 198 = .ok (.iload_n 3, 1) := by decide +kernel
theorem dL_law_199 : decode cL_law 199 = .ok (.iconst 1, 1) := by decide +kernel
theorem dL_law_200 : decode cL_law 200 = .ok (.iadd, 1) := by decide +kernel
theorem dL_law_201 : decode cL_law 201 = .ok (.iaload, 1) := by decide +kernel
theorem dL_law_202 : decode cL_law 202 = .ok (.aload_n 0, 1) := by decide +kernel
theorem dL_law_203 : decode cL_law 203 = .ok (.iload_n 3, 1) := by decide +kernel
theorem dL_law_204 : decode cL_law 204 = .ok (.iconst 2, 1) := by decide +kernel
theorem dL_law_205 : decode cL_law 205 = .ok (.iadd, 1) := by decide +kernel
theorem dL_law_206 : decode cL_law 206 = .ok (.iaload, 1) := by decide +kernel
theorem dL_law_207 : decode cL_law 207 = .ok (.invokevirtual 13, 3) := by decide +kernel
theorem dL_law_210 : decode cL_law 210 = .ok (.aload_n 2, 1) := by decide +kernel
theorem dL_law_211 : decode cL_law 211 = .ok (.aload_n 0, 1) := by decide +kernel
theorem dL_law_212 : decode cL_law 212 = .ok (.iload_n 3, 1) := by decide +kernel
theorem dL_law_213 : decode cL_law 213 = .ok (.iconst 1, 1) := by decide +kernel
theorem dL_law_214 : decode cL_law 214 = .ok (.iadd, 1) := by decide +kernel
theorem dL_law_215 : decode cL_law 215 = .ok (.iaload, 1) := by decide +kernel
theorem dL_law_216 : decode cL_law 216 = .ok (.aload_n 0, 1) := by decide +kernel
theorem dL_law_217 : decode cL_law 217 = .ok (.iload_n 3, 1) := by decide +kernel
theorem dL_law_218 : decode cL_law 218 = .ok (.iconst 2, 1) := by decide +kernel
theorem dL_law_219 : decode cL_law 219 = .ok (.iadd, 1) := by decide +kernel
theorem dL_law_220 : decode cL_law 220 = .ok (.iaload, 1) := by decide +kernel
theorem dL_law_221 : decode cL_law 221 = .ok (.invokevirtual 17, 3) := by decide +kernel
theorem dL_law_224 : decode cL_law 224 = .ok (.if_icmp .eq 1108, 3) := by decide +kernel
theorem dL_law_227 : decode cL_law 227 = .ok (.iconst 0, 1) := by decide +kernel
theorem dL_law_228 : decode cL_law 228 = .ok (.ireturn, 1) := by decide +kernel
theorem dL_law_229 : decode cL_law 229 = .ok (.aload_n 1, 1) := by decide +kernel
theorem dL_law_230 : decode cL_law 230 = .ok (.aload_n 0, 1) := by decide +kernel
theorem dL_law_231 : decode cL_law 231 = .ok (.iload_n 3, 1) := by decide +kernel
theorem dL_law_232 : decode cL_law 232 = .ok (.iconst 1, 1) := by decide +kernel
theorem dL_law_233 : decode cL_law 233 = .ok (.iadd, 1) := by decide +kernel
theorem dL_law_234 : decode cL_law 234 = .ok (.iaload, 1) := by decide +kernel
theorem dL_law_235 : decode cL_law 235 = .ok (.aload_n 0, 1) := by decide +kernel
theorem dL_law_236 : decode cL_law 236 = .ok (.iload_n 3, 1) := by decide +kernel
theorem dL_law_237 : decode cL_law 237 = .ok (.iconst 2, 1) := by decide +kernel
theorem dL_law_238 : decode cL_law 238 = .ok (.iadd, 1) := by decide +kernel
theorem dL_law_239 : decode cL_law 239 = .ok (.iaload, 1) := by decide +kernel
theorem dL_law_240 : decode cL_law 240 = .ok (.aload_n 0, 1) := by decide +kernel
theorem dL_law_241 : decode cL_law 241 = .ok (.iload_n 3, 1) := by decide +kernel
theorem dL_law_242 : decode cL_law 242 = .ok (.iconst 3, 1) := by decide +kernel
theorem dL_law_243 : decode cL_law 243 = .ok (.iadd, 1) := by decide +kernel
theorem dL_law_244 : decode cL_law 244 = .ok (.iaload, 1) := by decide +kernel
theorem dL_law_245 : decode cL_law 245 = .ok (.invokevirtual 18, 3) := by decide +kernel
theorem dL_law_248 : decode cL_law 248 = .ok (.aload_n 2, 1) := by decide +kernel
theorem dL_law_249 : decode cL_law 249 = .ok (.aload_n 0, 1) := by decide +kernel
theorem dL_law_250 : decode cL_law 250 = .ok (.iload_n 3, 1) := by decide +kernel
theorem dL_law_251 : decode cL_law 251 = .ok (.iconst 1, 1) := by decide +kernel
theorem dL_law_252 : decode cL_law 252 = .ok (.iadd, 1) := by decide +kernel
theorem dL_law_253 : decode cL_law 253 = .ok (.iaload, 1) := by decide +kernel
theorem dL_law_254 : decode cL_law 254 = .ok (.aload_n 0, 1) := by decide +kernel
theorem dL_law_255 : decode cL_law 255 = .ok (.iload_n 3, 1) := by decide +kernel
theorem dL_law_256 : decode cL_law 256 = .ok (.iconst 2, 1) := by decide +kernel
theorem dL_law_257 : decode cL_law 257 = .ok (.iadd, 1) := by decide +kernel
theorem dL_law_258 : decode cL_law 258 = .ok (.iaload, 1) := by decide +kernel
theorem dL_law_259 : decode cL_law 259 = .ok (.aload_n 0, 1) := by decide +kernel
theorem dL_law_260 : decode cL_law 260 = .ok (.iload_n 3, 1) := by decide +kernel
theorem dL_law_261 : decode cL_law 261 = .ok (.iconst 3, 1) := by decide +kernel
theorem dL_law_262 : decode cL_law 262 = .ok (.iadd, 1) := by decide +kernel
theorem dL_law_263 : decode cL_law 263 = .ok (.iaload, 1) := by decide +kernel
theorem dL_law_264 : decode cL_law 264 = .ok (.invokevirtual 22, 3) := by decide +kernel
theorem dL_law_267 : decode cL_law 267 = .ok (.if_icmp .eq 1065, 3) := by decide +kernel
theorem dL_law_270 : decode cL_law 270 = .ok (.iconst 0, 1) := by decide +kernel
theorem dL_law_271 : decode cL_law 271 = .ok (.ireturn, 1) := by decide +kernel
theorem dL_law_272 : decode cL_law 272 = .ok (.aload_n 1, 1) := by decide +kernel
theorem dL_law_273 : decode cL_law 273 = .ok (.aload_n 0, 1) := by decide +kernel
theorem dL_law_274 : decode cL_law 274 = .ok (.iload_n 3, 1) := by decide +kernel
theorem dL_law_275 : decode cL_law 275 = .ok (.iconst 1, 1) := by decide +kernel
theorem dL_law_276 : decode cL_law 276 = .ok (.iadd, 1) := by decide +kernel
theorem dL_law_277 : decode cL_law 277 = .ok (.iaload, 1) := by decide +kernel
theorem dL_law_278 : decode cL_law 278 = .ok (.aload_n 0, 1) := by decide +kernel
theorem dL_law_279 : decode cL_law 279 = .ok (.iload_n 3, 1) := by decide +kernel
theorem dL_law_280 : decode cL_law 280 = .ok (.iconst 2, 1) := by decide +kernel
theorem dL_law_281 : decode cL_law 281 = .ok (.iadd, 1) := by decide +kernel
theorem dL_law_282 : decode cL_law 282 = .ok (.iaload, 1) := by decide +kernel
theorem dL_law_283 : decode cL_law 283 = .ok (.invokevirtual 23, 3) := by decide +kernel
theorem dL_law_286 : decode cL_law 286 = .ok (.aload_n 2, 1) := by decide +kernel
theorem dL_law_287 : decode cL_law 287 = .ok (.aload_n 0, 1) := by decide +kernel
theorem dL_law_288 : decode cL_law 288 = .ok (.iload_n 3, 1) := by decide +kernel
theorem dL_law_289 : decode cL_law 289 = .ok (.iconst 1, 1) := by decide +kernel
theorem dL_law_290 : decode cL_law 290 = .ok (.iadd, 1) := by decide +kernel
theorem dL_law_291 : decode cL_law 291 = .ok (.iaload, 1) := by decide +kernel
theorem dL_law_292 : decode cL_law 292 = .ok (.aload_n 0, 1) := by decide +kernel
theorem dL_law_293 : decode cL_law 293 = .ok (.iload_n 3, 1) := by decide +kernel
theorem dL_law_294 : decode cL_law 294 = .ok (.iconst 2, 1) := by decide +kernel
theorem dL_law_295 : decode cL_law 295 = .ok (.iadd, 1) := by decide +kernel
theorem dL_law_296 : decode cL_law 296 = .ok (.iaload, 1) := by decide +kernel
theorem dL_law_297 : decode cL_law 297 = .ok (.invokevirtual 26, 3) := by decide +kernel
theorem dL_law_300 : decode cL_law 300 = .ok (.if_icmp .eq 1032, 3) := by decide +kernel
theorem dL_law_303 : decode cL_law 303 = .ok (.iconst 0, 1) := by decide +kernel
theorem dL_law_304 : decode cL_law 304 = .ok (.ireturn, 1) := by decide +kernel
theorem dL_law_305 : decode cL_law 305 = .ok (.aload_n 1, 1) := by decide +kernel
theorem dL_law_306 : decode cL_law 306 = .ok (.aload_n 0, 1) := by decide +kernel
theorem dL_law_307 : decode cL_law 307 = .ok (.iload_n 3, 1) := by decide +kernel
theorem dL_law_308 : decode cL_law 308 = .ok (.iconst 1, 1) := by decide +kernel
theorem dL_law_309 : decode cL_law 309 = .ok (.iadd, 1) := by decide +kernel
theorem dL_law_310 : decode cL_law 310 = .ok (.iaload, 1) := by decide +kernel
theorem dL_law_311 : decode cL_law 311 = .ok (.aload_n 0, 1) := by decide +kernel
theorem dL_law_312 : decode cL_law 312 = .ok (.iload_n 3, 1) := by decide +kernel
theorem dL_law_313 : decode cL_law 313 = .ok (.iconst 2, 1) := by decide +kernel
theorem dL_law_314 : decode cL_law 314 = .ok (.iadd, 1) := by decide +kernel
theorem dL_law_315 : decode cL_law 315 = .ok (.iaload, 1) := by decide +kernel
theorem dL_law_316 : decode cL_law 316 = .ok (.aload_n 0, 1) := by decide +kernel
theorem dL_law_317 : decode cL_law 317 = .ok (.iload_n 3, 1) := by decide +kernel
theorem dL_law_318 : decode cL_law 318 = .ok (.iconst 3, 1) := by decide +kernel
theorem dL_law_319 : decode cL_law 319 = .ok (.iadd, 1) := by decide +kernel
theorem dL_law_320 : decode cL_law 320 = .ok (.iaload, 1) := by decide +kernel
theorem dL_law_321 : decode cL_law 321 = .ok (.invokevirtual 27, 3) := by decide +kernel
theorem dL_law_324 : decode cL_law 324 = .ok (.aload_n 2, 1) := by decide +kernel
theorem dL_law_325 : decode cL_law 325 = .ok (.aload_n 0, 1) := by decide +kernel
theorem dL_law_326 : decode cL_law 326 = .ok (.iload_n 3, 1) := by decide +kernel
theorem dL_law_327 : decode cL_law 327 = .ok (.iconst 1, 1) := by decide +kernel
theorem dL_law_328 : decode cL_law 328 = .ok (.iadd, 1) := by decide +kernel
theorem dL_law_329 : decode cL_law 329 = .ok (.iaload, 1) := by decide +kernel
theorem dL_law_330 : decode cL_law 330 = .ok (.aload_n 0, 1) := by decide +kernel
theorem dL_law_331 : decode cL_law 331 = .ok (.iload_n 3, 1) := by decide +kernel
theorem dL_law_332 : decode cL_law 332 = .ok (.iconst 2, 1) := by decide +kernel
theorem dL_law_333 : decode cL_law 333 = .ok (.iadd, 1) := by decide +kernel
theorem dL_law_334 : decode cL_law 334 = .ok (.iaload, 1) := by decide +kernel
theorem dL_law_335 : decode cL_law 335 = .ok (.aload_n 0, 1) := by decide +kernel
theorem dL_law_336 : decode cL_law 336 = .ok (.iload_n 3, 1) := by decide +kernel
theorem dL_law_337 : decode cL_law 337 = .ok (.iconst 3, 1) := by decide +kernel
theorem dL_law_338 : decode cL_law 338 = .ok (.iadd, 1) := by decide +kernel
theorem dL_law_339 : decode cL_law 339 = .ok (.iaload, 1) := by decide +kernel
theorem dL_law_340 : decode cL_law 340 = .ok (.invokevirtual 30, 3) := by decide +kernel
theorem dL_law_343 : decode cL_law 343 = .ok (.if_icmp .eq 989, 3) := by decide +kernel
theorem dL_law_346 : decode cL_law 346 = .ok (.iconst 0, 1) := by decide +kernel
theorem dL_law_347 : decode cL_law 347 = .ok (.ireturn, 1) := by decide +kernel
theorem dL_law_348 : decode cL_law 348 = .ok (.aload_n 1, 1) := by decide +kernel
theorem dL_law_349 : decode cL_law 349 = .ok (.aload_n 0, 1) := by decide +kernel
theorem dL_law_350 : decode cL_law 350 = .ok (.iload_n 3, 1) := by decide +kernel
theorem dL_law_351 : decode cL_law 351 = .ok (.iconst 1, 1) := by decide +kernel
theorem dL_law_352 : decode cL_law 352 = .ok (.iadd, 1) := by decide +kernel
theorem dL_law_353 : decode cL_law 353 = .ok (.iaload, 1) := by decide +kernel
theorem dL_law_354 : decode cL_law 354 = .ok (.aload_n 0, 1) := by decide +kernel
theorem dL_law_355 : decode cL_law 355 = .ok (.iload_n 3, 1) := by decide +kernel
theorem dL_law_356 : decode cL_law 356 = .ok (.iconst 2, 1) := by decide +kernel
theorem dL_law_357 : decode cL_law 357 = .ok (.iadd, 1) := by decide +kernel
theorem dL_law_358 : decode cL_law 358 = .ok (.iaload, 1) := by decide +kernel
theorem dL_law_359 : decode cL_law 359 = .ok (.aload_n 0, 1) := by decide +kernel
theorem dL_law_360 : decode cL_law 360 = .ok (.iload_n 3, 1) := by decide +kernel
theorem dL_law_361 : decode cL_law 361 = .ok (.iconst 3, 1) := by decide +kernel
theorem dL_law_362 : decode cL_law 362 = .ok (.iadd, 1) := by decide +kernel
theorem dL_law_363 : decode cL_law 363 = .ok (.iaload, 1) := by decide +kernel
theorem dL_law_364 : decode cL_law 364 = .ok (.invokevirtual 31, 3) := by decide +kernel
theorem dL_law_367 : decode cL_law 367 = .ok (.aload_n 2, 1) := by decide +kernel
theorem dL_law_368 : decode cL_law 368 = .ok (.aload_n 0, 1) := by decide +kernel
theorem dL_law_369 : decode cL_law 369 = .ok (.iload_n 3, 1) := by decide +kernel
theorem dL_law_370 : decode cL_law 370 = .ok (.iconst 1, 1) := by decide +kernel
theorem dL_law_371 : decode cL_law 371 = .ok (.iadd, 1) := by decide +kernel
theorem dL_law_372 : decode cL_law 372 = .ok (.iaload, 1) := by decide +kernel
theorem dL_law_373 : decode cL_law 373 = .ok (.aload_n 0, 1) := by decide +kernel
theorem dL_law_374 : decode cL_law 374 = .ok (.iload_n 3, 1) := by decide +kernel
theorem dL_law_375 : decode cL_law 375 = .ok (.iconst 2, 1) := by decide +kernel
theorem dL_law_376 : decode cL_law 376 = .ok (.iadd, 1) := by decide +kernel
theorem dL_law_377 : decode cL_law 377 = .ok (.iaload, 1) := by decide +kernel
theorem dL_law_378 : decode cL_law 378 = .ok (.aload_n 0, 1) := by decide +kernel
theorem dL_law_379 : decode cL_law 379 = .ok (.iload_n 3, 1) := by decide +kernel
theorem dL_law_380 : decode cL_law 380 = .ok (.iconst 3, 1) := by decide +kernel
theorem dL_law_381 : decode cL_law 381 = .ok (.iadd, 1) := by decide +kernel
theorem dL_law_382 : decode cL_law 382 = .ok (.iaload, 1) := by decide +kernel
theorem dL_law_383 : decode cL_law 383 = .ok (.invokevirtual 34, 3) := by decide +kernel
theorem dL_law_386 : decode cL_law 386 = .ok (.if_icmp .eq 946, 3) := by decide +kernel
theorem dL_law_389 : decode cL_law 389 = .ok (.iconst 0, 1) := by decide +kernel
theorem dL_law_390 : decode cL_law 390 = .ok (.ireturn, 1) := by decide +kernel
theorem dL_law_391 : decode cL_law 391 = .ok (.aload_n 1, 1) := by decide +kernel
theorem dL_law_392 : decode cL_law 392 = .ok (.aload_n 0, 1) := by decide +kernel
theorem dL_law_393 : decode cL_law 393 = .ok (.iload_n 3, 1) := by decide +kernel
theorem dL_law_394 : decode cL_law 394 = .ok (.iconst 1, 1) := by decide +kernel
theorem dL_law_395 : decode cL_law 395 = .ok (.iadd, 1) := by decide +kernel
theorem dL_law_396 : decode cL_law 396 = .ok (.iaload, 1) := by decide +kernel
theorem dL_law_397 : decode cL_law 397 = .ok (.invokevirtual 35, 3) := by decide +kernel
theorem dL_law_400 : decode cL_law 400 = .ok (.aload_n 2, 1) := by decide +kernel
theorem dL_law_401 : decode cL_law 401 = .ok (.aload_n 0, 1) := by decide +kernel
theorem dL_law_402 : decode cL_law 402 = .ok (.iload_n 3, 1) := by decide +kernel
theorem dL_law_403 : decode cL_law 403 = .ok (.iconst 1, 1) := by decide +kernel
theorem dL_law_404 : decode cL_law 404 = .ok (.iadd, 1) := by decide +kernel
theorem dL_law_405 : decode cL_law 405 = .ok (.iaload, 1) := by decide +kernel
theorem dL_law_406 : decode cL_law 406 = .ok (.invokevirtual 39, 3) := by decide +kernel
theorem dL_law_409 : decode cL_law 409 = .ok (.if_icmp .eq 923, 3) := by decide +kernel
theorem dL_law_412 : decode cL_law 412 = .ok (.iconst 0, 1) := by decide +kernel
theorem dL_law_413 : decode cL_law 413 = .ok (.ireturn, 1) := by decide +kernel
theorem dL_law_414 : decode cL_law 414 = .ok (.aload_n 1, 1) := by decide +kernel
theorem dL_law_415 : decode cL_law 415 = .ok (.invokevirtual 40, 3) := by decide +kernel
theorem dL_law_418 : decode cL_law 418 = .ok (.aload_n 2, 1) := by decide +kernel
theorem dL_law_419 : decode cL_law 419 = .ok (.invokevirtual 44, 3) := by decide +kernel
theorem dL_law_422 : decode cL_law 422 = .ok (.if_icmp .eq 910, 3) := by decide +kernel
theorem dL_law_425 : decode cL_law 425 = .ok (.iconst 0, 1) := by decide +kernel
theorem dL_law_426 : decode cL_law 426 = .ok (.ireturn, 1) := by decide +kernel
theorem dL_law_427 : decode cL_law 427 = .ok (.aload_n 1, 1) := by decide +kernel
theorem dL_law_428 : decode cL_law 428 = .ok (.aload_n 0, 1) := by decide +kernel
theorem dL_law_429 : decode cL_law 429 = .ok (.iload_n 3, 1) := by decide +kernel
theorem dL_law_430 : decode cL_law 430 = .ok (.iconst 1, 1) := by decide +kernel
theorem dL_law_431 : decode cL_law 431 = .ok (.iadd, 1) := by decide +kernel
theorem dL_law_432 : decode cL_law 432 = .ok (.iaload, 1) := by decide +kernel
theorem dL_law_433 : decode cL_law 433 = .ok (.aload_n 0, 1) := by decide +kernel
theorem dL_law_434 : decode cL_law 434 = .ok (.iload_n 3, 1) := by decide +kernel
theorem dL_law_435 : decode cL_law 435 = .ok (.iconst 2, 1) := by decide +kernel
theorem dL_law_436 : decode cL_law 436 = .ok (.iadd, 1) := by decide +kernel
theorem dL_law_437 : decode cL_law 437 = .ok (.iaload, 1) := by decide +kernel
theorem dL_law_438 : decode cL_law 438 = .ok (.invokevirtual 45, 3) := by decide +kernel
theorem dL_law_441 : decode cL_law 441 = .ok (.aload_n 2, 1) := by decide +kernel
theorem dL_law_442 : decode cL_law 442 = .ok (.aload_n 0, 1) := by decide +kernel
theorem dL_law_443 : decode cL_law 443 = .ok (.iload_n 3, 1) := by decide +kernel
theorem dL_law_444 : decode cL_law 444 = .ok (.iconst 1, 1) := by decide +kernel
theorem dL_law_445 : decode cL_law 445 = .ok (.iadd, 1) := by decide +kernel
theorem dL_law_446 : decode cL_law 446 = .ok (.iaload, 1) := by decide +kernel
theorem dL_law_447 : decode cL_law 447 = .ok (.aload_n 0, 1) := by decide +kernel
theorem dL_law_448 : decode cL_law 448 = .ok (.iload_n 3, 1) := by decide +kernel
theorem dL_law_449 : decode cL_law 449 = .ok (.iconst 2, 1) := by decide +kernel
theorem dL_law_450 : decode cL_law 450 = .ok (.iadd, 1) := by decide +kernel
theorem dL_law_451 : decode cL_law 451 = .ok (.iaload, 1) := by decide +kernel
theorem dL_law_452 : decode cL_law 452 = .ok (.invokevirtual 48, 3) := by decide +kernel
theorem dL_law_455 : decode cL_law 455 = .ok (.if_icmp .eq 877, 3) := by decide +kernel
theorem dL_law_458 : decode cL_law 458 = .ok (.iconst 0, 1) := by decide +kernel
theorem dL_law_459 : decode cL_law 459 = .ok (.ireturn, 1) := by decide +kernel
theorem dL_law_460 : decode cL_law 460 = .ok (.aload_n 1, 1) := by decide +kernel
theorem dL_law_461 : decode cL_law 461 = .ok (.aload_n 0, 1) := by decide +kernel
theorem dL_law_462 : decode cL_law 462 = .ok (.iload_n 3, 1) := by decide +kernel
theorem dL_law_463 : decode cL_law 463 = .ok (.iconst 1, 1) := by decide +kernel
theorem dL_law_464 : decode cL_law 464 = .ok (.iadd, 1) := by decide +kernel
theorem dL_law_465 : decode cL_law 465 = .ok (.iaload, 1) := by decide +kernel
theorem dL_law_466 : decode cL_law 466 = .ok (.aload_n 0, 1) := by decide +kernel
theorem dL_law_467 : decode cL_law 467 = .ok (.iload_n 3, 1) := by decide +kernel
theorem dL_law_468 : decode cL_law 468 = .ok (.iconst 2, 1) := by decide +kernel
theorem dL_law_469 : decode cL_law 469 = .ok (.iadd, 1) := by decide +kernel
theorem dL_law_470 : decode cL_law 470 = .ok (.iaload, 1) := by decide +kernel
theorem dL_law_471 : decode cL_law 471 = .ok (.invokevirtual 49, 3) := by decide +kernel
theorem dL_law_474 : decode cL_law 474 = .ok (.aload_n 2, 1) := by decide +kernel
theorem dL_law_475 : decode cL_law 475 = .ok (.aload_n 0, 1) := by decide +kernel
theorem dL_law_476 : decode cL_law 476 = .ok (.iload_n 3, 1) := by decide +kernel
theorem dL_law_477 : decode cL_law 477 = .ok (.iconst 1, 1) := by decide +kernel
theorem dL_law_478 : decode cL_law 478 = .ok (.iadd, 1) := by decide +kernel
theorem dL_law_479 : decode cL_law 479 = .ok (.iaload, 1) := by decide +kernel
theorem dL_law_480 : decode cL_law 480 = .ok (.aload_n 0, 1) := by decide +kernel
theorem dL_law_481 : decode cL_law 481 = .ok (.iload_n 3, 1) := by decide +kernel
theorem dL_law_482 : decode cL_law 482 = .ok (.iconst 2, 1) := by decide +kernel
theorem dL_law_483 : decode cL_law 483 = .ok (.iadd, 1) := by decide +kernel
theorem dL_law_484 : decode cL_law 484 = .ok (.iaload, 1) := by decide +kernel
theorem dL_law_485 : decode cL_law 485 = .ok (.invokevirtual 52, 3) := by decide +kernel
theorem dL_law_488 : decode cL_law 488 = .ok (.if_icmp .eq 844, 3) := by decide +kernel
theorem dL_law_491 : decode cL_law 491 = .ok (.iconst 0, 1) := by decide +kernel
theorem dL_law_492 : decode cL_law 492 = .ok (.ireturn, 1) := by decide +kernel
theorem dL_law_493 : decode cL_law 493 = .ok (.aload_n 1, 1) := by decide +kernel
theorem dL_law_494 : decode cL_law 494 = .ok (.aload_n 0, 1) := by decide +kernel
theorem dL_law_495 : decode cL_law 495 = .ok (.iload_n 3, 1) := by decide +kernel
theorem dL_law_496 : decode cL_law 496 = .ok (.iconst 1, 1) := by decide +kernel
theorem dL_law_497 : decode cL_law 497 = .ok (.iadd, 1) := by decide +kernel
theorem dL_law_498 : decode cL_law 498 = .ok (.iaload, 1) := by decide +kernel
theorem dL_law_499 : decode cL_law 499 = .ok (.invokevirtual 53, 3) := by decide +kernel
theorem dL_law_502 : decode cL_law 502 = .ok (.aload_n 2, 1) := by decide +kernel
theorem dL_law_503 : decode cL_law 503 = .ok (.aload_n 0, 1) := by decide +kernel
theorem dL_law_504 : decode cL_law 504 = .ok (.iload_n 3, 1) := by decide +kernel
theorem dL_law_505 : decode cL_law 505 = .ok (.iconst 1, 1) := by decide +kernel
theorem dL_law_506 : decode cL_law 506 = .ok (.iadd, 1) := by decide +kernel
theorem dL_law_507 : decode cL_law 507 = .ok (.iaload, 1) := by decide +kernel
theorem dL_law_508 : decode cL_law 508 = .ok (.invokevirtual 57, 3) := by decide +kernel
theorem dL_law_511 : decode cL_law 511 = .ok (.lcmp, 1) := by decide +kernel
theorem dL_law_512 : decode cL_law 512 = .ok (.ifCond .eq 820, 3) := by decide +kernel
theorem dL_law_515 : decode cL_law 515 = .ok (.iconst 0, 1) := by decide +kernel
theorem dL_law_516 : decode cL_law 516 = .ok (.ireturn, 1) := by decide +kernel
theorem dL_law_517 : decode cL_law 517 = .ok (.aload_n 1, 1) := by decide +kernel
theorem dL_law_518 : decode cL_law 518 = .ok (.aload_n 0, 1) := by decide +kernel
theorem dL_law_519 : decode cL_law 519 = .ok (.iload_n 3, 1) := by decide +kernel
theorem dL_law_520 : decode cL_law 520 = .ok (.iconst 1, 1) := by decide +kernel
theorem dL_law_521 : decode cL_law 521 = .ok (.iadd, 1) := by decide +kernel
theorem dL_law_522 : decode cL_law 522 = .ok (.iaload, 1) := by decide +kernel
theorem dL_law_523 : decode cL_law 523 = .ok (.invokevirtual 58, 3) := by decide +kernel
theorem dL_law_526 : decode cL_law 526 = .ok (.aload_n 2, 1) := by decide +kernel
theorem dL_law_527 : decode cL_law 527 = .ok (.aload_n 0, 1) := by decide +kernel
theorem dL_law_528 : decode cL_law 528 = .ok (.iload_n 3, 1) := by decide +kernel
theorem dL_law_529 : decode cL_law 529 = .ok (.iconst 1, 1) := by decide +kernel
theorem dL_law_530 : decode cL_law 530 = .ok (.iadd, 1) := by decide +kernel
theorem dL_law_531 : decode cL_law 531 = .ok (.iaload, 1) := by decide +kernel
theorem dL_law_532 : decode cL_law 532 = .ok (.invokevirtual 61, 3) := by decide +kernel
theorem dL_law_535 : decode cL_law 535 = .ok (.if_icmp .eq 797, 3) := by decide +kernel
theorem dL_law_538 : decode cL_law 538 = .ok (.iconst 0, 1) := by decide +kernel
theorem dL_law_539 : decode cL_law 539 = .ok (.ireturn, 1) := by decide +kernel
theorem dL_law_540 : decode cL_law 540 = .ok (.aload_n 1, 1) := by decide +kernel
theorem dL_law_541 : decode cL_law 541 = .ok (.aload_n 0, 1) := by decide +kernel
theorem dL_law_542 : decode cL_law 542 = .ok (.iload_n 3, 1) := by decide +kernel
theorem dL_law_543 : decode cL_law 543 = .ok (.iconst 1, 1) := by decide +kernel
theorem dL_law_544 : decode cL_law 544 = .ok (.iadd, 1) := by decide +kernel
theorem dL_law_545 : decode cL_law 545 = .ok (.iaload, 1) := by decide +kernel
theorem dL_law_546 : decode cL_law 546 = .ok (.aload_n 0, 1) := by decide +kernel
theorem dL_law_547 : decode cL_law 547 = .ok (.iload_n 3, 1) := by decide +kernel
theorem dL_law_548 : decode cL_law 548 = .ok (.iconst 2, 1) := by decide +kernel
theorem dL_law_549 : decode cL_law 549 = .ok (.iadd, 1) := by decide +kernel
theorem dL_law_550 : decode cL_law 550 = .ok (.iaload, 1) := by decide +kernel
theorem dL_law_551 : decode cL_law 551 = .ok (.aload_n 0, 1) := by decide +kernel
theorem dL_law_552 : decode cL_law 552 = .ok (.iload_n 3, 1) := by decide +kernel
theorem dL_law_553 : decode cL_law 553 = .ok (.iconst 3, 1) := by decide +kernel
theorem dL_law_554 : decode cL_law 554 = .ok (.iadd, 1) := by decide +kernel
theorem dL_law_555 : decode cL_law 555 = .ok (.iaload, 1) := by decide +kernel
theorem dL_law_556 : decode cL_law 556 = .ok (.invokevirtual 62, 3) := by decide +kernel
theorem dL_law_559 : decode cL_law 559 = .ok (.aload_n 2, 1) := by decide +kernel
theorem dL_law_560 : decode cL_law 560 = .ok (.aload_n 0, 1) := by decide +kernel
theorem dL_law_561 : decode cL_law 561 = .ok (.iload_n 3, 1) := by decide +kernel
theorem dL_law_562 : decode cL_law 562 = .ok (.iconst 1, 1) := by decide +kernel
theorem dL_law_563 : decode cL_law 563 = .ok (.iadd, 1) := by decide +kernel
theorem dL_law_564 : decode cL_law 564 = .ok (.iaload, 1) := by decide +kernel
theorem dL_law_565 : decode cL_law 565 = .ok (.aload_n 0, 1) := by decide +kernel
theorem dL_law_566 : decode cL_law 566 = .ok (.iload_n 3, 1) := by decide +kernel
theorem dL_law_567 : decode cL_law 567 = .ok (.iconst 2, 1) := by decide +kernel
theorem dL_law_568 : decode cL_law 568 = .ok (.iadd, 1) := by decide +kernel
theorem dL_law_569 : decode cL_law 569 = .ok (.iaload, 1) := by decide +kernel
theorem dL_law_570 : decode cL_law 570 = .ok (.aload_n 0, 1) := by decide +kernel
theorem dL_law_571 : decode cL_law 571 = .ok (.iload_n 3, 1) := by decide +kernel
theorem dL_law_572 : decode cL_law 572 = .ok (.iconst 3, 1) := by decide +kernel
theorem dL_law_573 : decode cL_law 573 = .ok (.iadd, 1) := by decide +kernel
theorem dL_law_574 : decode cL_law 574 = .ok (.iaload, 1) := by decide +kernel
theorem dL_law_575 : decode cL_law 575 = .ok (.invokevirtual 66, 3) := by decide +kernel
theorem dL_law_578 : decode cL_law 578 = .ok (.lcmp, 1) := by decide +kernel
theorem dL_law_579 : decode cL_law 579 = .ok (.ifCond .eq 753, 3) := by decide +kernel
theorem dL_law_582 : decode cL_law 582 = .ok (.iconst 0, 1) := by decide +kernel
theorem dL_law_583 : decode cL_law 583 = .ok (.ireturn, 1) := by decide +kernel
theorem dL_law_584 : decode cL_law 584 = .ok (.aload_n 1, 1) := by decide +kernel
theorem dL_law_585 : decode cL_law 585 = .ok (.aload_n 0, 1) := by decide +kernel
theorem dL_law_586 : decode cL_law 586 = .ok (.iload_n 3, 1) := by decide +kernel
theorem dL_law_587 : decode cL_law 587 = .ok (.iconst 1, 1) := by decide +kernel
theorem dL_law_588 : decode cL_law 588 = .ok (.iadd, 1) := by decide +kernel
theorem dL_law_589 : decode cL_law 589 = .ok (.iaload, 1) := by decide +kernel
theorem dL_law_590 : decode cL_law 590 = .ok (.aload_n 0, 1) := by decide +kernel
theorem dL_law_591 : decode cL_law 591 = .ok (.iload_n 3, 1) := by decide +kernel
theorem dL_law_592 : decode cL_law 592 = .ok (.iconst 2, 1) := by decide +kernel
theorem dL_law_593 : decode cL_law 593 = .ok (.iadd, 1) := by decide +kernel
theorem dL_law_594 : decode cL_law 594 = .ok (.iaload, 1) := by decide +kernel
theorem dL_law_595 : decode cL_law 595 = .ok (.invokevirtual 67, 3) := by decide +kernel
theorem dL_law_598 : decode cL_law 598 = .ok (.aload_n 2, 1) := by decide +kernel
theorem dL_law_599 : decode cL_law 599 = .ok (.aload_n 0, 1) := by decide +kernel
theorem dL_law_600 : decode cL_law 600 = .ok (.iload_n 3, 1) := by decide +kernel
theorem dL_law_601 : decode cL_law 601 = .ok (.iconst 1, 1) := by decide +kernel
theorem dL_law_602 : decode cL_law 602 = .ok (.iadd, 1) := by decide +kernel
theorem dL_law_603 : decode cL_law 603 = .ok (.iaload, 1) := by decide +kernel
theorem dL_law_604 : decode cL_law 604 = .ok (.aload_n 0, 1) := by decide +kernel
theorem dL_law_605 : decode cL_law 605 = .ok (.iload_n 3, 1) := by decide +kernel
theorem dL_law_606 : decode cL_law 606 = .ok (.iconst 2, 1) := by decide +kernel
theorem dL_law_607 : decode cL_law 607 = .ok (.iadd, 1) := by decide +kernel
theorem dL_law_608 : decode cL_law 608 = .ok (.iaload, 1) := by decide +kernel
theorem dL_law_609 : decode cL_law 609 = .ok (.invokevirtual 71, 3) := by decide +kernel
theorem dL_law_612 : decode cL_law 612 = .ok (.lcmp, 1) := by decide +kernel
theorem dL_law_613 : decode cL_law 613 = .ok (.ifCond .eq 719, 3) := by decide +kernel
theorem dL_law_616 : decode cL_law 616 = .ok (.iconst 0, 1) := by decide +kernel
theorem dL_law_617 : decode cL_law 617 = .ok (.ireturn, 1) := by decide +kernel
theorem dL_law_618 : decode cL_law 618 = .ok (.aload_n 1, 1) := by decide +kernel
theorem dL_law_619 : decode cL_law 619 = .ok (.aload_n 0, 1) := by decide +kernel
theorem dL_law_620 : decode cL_law 620 = .ok (.iload_n 3, 1) := by decide +kernel
theorem dL_law_621 : decode cL_law 621 = .ok (.iconst 1, 1) := by decide +kernel
theorem dL_law_622 : decode cL_law 622 = .ok (.iadd, 1) := by decide +kernel
theorem dL_law_623 : decode cL_law 623 = .ok (.iaload, 1) := by decide +kernel
theorem dL_law_624 : decode cL_law 624 = .ok (.aload_n 0, 1) := by decide +kernel
theorem dL_law_625 : decode cL_law 625 = .ok (.iload_n 3, 1) := by decide +kernel
theorem dL_law_626 : decode cL_law 626 = .ok (.iconst 2, 1) := by decide +kernel
theorem dL_law_627 : decode cL_law 627 = .ok (.iadd, 1) := by decide +kernel
theorem dL_law_628 : decode cL_law 628 = .ok (.iaload, 1) := by decide +kernel
theorem dL_law_629 : decode cL_law 629 = .ok (.invokevirtual 72, 3) := by decide +kernel
theorem dL_law_632 : decode cL_law 632 = .ok (.aload_n 2, 1) := by decide +kernel
theorem dL_law_633 : decode cL_law 633 = .ok (.aload_n 0, 1) := by decide +kernel
theorem dL_law_634 : decode cL_law 634 = .ok (.iload_n 3, 1) := by decide +kernel
theorem dL_law_635 : decode cL_law 635 = .ok (.iconst 1, 1) := by decide +kernel
theorem dL_law_636 : decode cL_law 636 = .ok (.iadd, 1) := by decide +kernel
theorem dL_law_637 : decode cL_law 637 = .ok (.iaload, 1) := by decide +kernel
theorem dL_law_638 : decode cL_law 638 = .ok (.aload_n 0, 1) := by decide +kernel
theorem dL_law_639 : decode cL_law 639 = .ok (.iload_n 3, 1) := by decide +kernel
theorem dL_law_640 : decode cL_law 640 = .ok (.iconst 2, 1) := by decide +kernel
theorem dL_law_641 : decode cL_law 641 = .ok (.iadd, 1) := by decide +kernel
theorem dL_law_642 : decode cL_law 642 = .ok (.iaload, 1) := by decide +kernel
theorem dL_law_643 : decode cL_law 643 = .ok (.invokevirtual 75, 3) := by decide +kernel
theorem dL_law_646 : decode cL_law 646 = .ok (.lcmp, 1) := by decide +kernel
theorem dL_law_647 : decode cL_law 647 = .ok (.ifCond .eq 685, 3) := by decide +kernel
theorem dL_law_650 : decode cL_law 650 = .ok (.iconst 0, 1) := by decide +kernel
theorem dL_law_651 : decode cL_law 651 = .ok (.ireturn, 1) := by decide +kernel
theorem dL_law_652 : decode cL_law 652 = .ok (.aload_n 1, 1) := by decide +kernel
theorem dL_law_653 : decode cL_law 653 = .ok (.aload_n 0, 1) := by decide +kernel
theorem dL_law_654 : decode cL_law 654 = .ok (.iload_n 3, 1) := by decide +kernel
theorem dL_law_655 : decode cL_law 655 = .ok (.iconst 1, 1) := by decide +kernel
theorem dL_law_656 : decode cL_law 656 = .ok (.iadd, 1) := by decide +kernel
theorem dL_law_657 : decode cL_law 657 = .ok (.iaload, 1) := by decide +kernel
theorem dL_law_658 : decode cL_law 658 = .ok (.aload_n 0, 1) := by decide +kernel
theorem dL_law_659 : decode cL_law 659 = .ok (.iload_n 3, 1) := by decide +kernel
theorem dL_law_660 : decode cL_law 660 = .ok (.iconst 2, 1) := by decide +kernel
theorem dL_law_661 : decode cL_law 661 = .ok (.iadd, 1) := by decide +kernel
theorem dL_law_662 : decode cL_law 662 = .ok (.iaload, 1) := by decide +kernel
theorem dL_law_663 : decode cL_law 663 = .ok (.invokevirtual 76, 3) := by decide +kernel
theorem dL_law_666 : decode cL_law 666 = .ok (.aload_n 2, 1) := by decide +kernel
theorem dL_law_667 : decode cL_law 667 = .ok (.aload_n 0, 1) := by decide +kernel
theorem dL_law_668 : decode cL_law 668 = .ok (.iload_n 3, 1) := by decide +kernel
theorem dL_law_669 : decode cL_law 669 = .ok (.iconst 1, 1) := by decide +kernel
theorem dL_law_670 : decode cL_law 670 = .ok (.iadd, 1) := by decide +kernel
theorem dL_law_671 : decode cL_law 671 = .ok (.iaload, 1) := by decide +kernel
theorem dL_law_672 : decode cL_law 672 = .ok (.aload_n 0, 1) := by decide +kernel
theorem dL_law_673 : decode cL_law 673 = .ok (.iload_n 3, 1) := by decide +kernel
theorem dL_law_674 : decode cL_law 674 = .ok (.iconst 2, 1) := by decide +kernel
theorem dL_law_675 : decode cL_law 675 = .ok (.iadd, 1) := by decide +kernel
theorem dL_law_676 : decode cL_law 676 = .ok (.iaload, 1) := by decide +kernel
theorem dL_law_677 : decode cL_law 677 = .ok (.invokevirtual 79, 3) := by decide +kernel
theorem dL_law_680 : decode cL_law 680 = .ok (.if_icmp .eq 652, 3) := by decide +kernel
theorem dL_law_683 : decode cL_law 683 = .ok (.iconst 0, 1) := by decide +kernel
theorem dL_law_684 : decode cL_law 684 = .ok (.ireturn, 1) := by decide +kernel
theorem dL_law_685 : decode cL_law 685 = .ok (.aload_n 1, 1) := by decide +kernel
theorem dL_law_686 : decode cL_law 686 = .ok (.aload_n 0, 1) := by decide +kernel
theorem dL_law_687 : decode cL_law 687 = .ok (.iload_n 3, 1) := by decide +kernel
theorem dL_law_688 : decode cL_law 688 = .ok (.iconst 1, 1) := by decide +kernel
theorem dL_law_689 : decode cL_law 689 = .ok (.iadd, 1) := by decide +kernel
theorem dL_law_690 : decode cL_law 690 = .ok (.iaload, 1) := by decide +kernel
theorem dL_law_691 : decode cL_law 691 = .ok (.aload_n 0, 1) := by decide +kernel
theorem dL_law_692 : decode cL_law 692 = .ok (.iload_n 3, 1) := by decide +kernel
theorem dL_law_693 : decode cL_law 693 = .ok (.iconst 2, 1) := by decide +kernel
theorem dL_law_694 : decode cL_law 694 = .ok (.iadd, 1) := by decide +kernel
theorem dL_law_695 : decode cL_law 695 = .ok (.iaload, 1) := by decide +kernel
theorem dL_law_696 : decode cL_law 696 = .ok (.invokevirtual 80, 3) := by decide +kernel
theorem dL_law_699 : decode cL_law 699 = .ok (.aload_n 2, 1) := by decide +kernel
theorem dL_law_700 : decode cL_law 700 = .ok (.aload_n 0, 1) := by decide +kernel
theorem dL_law_701 : decode cL_law 701 = .ok (.iload_n 3, 1) := by decide +kernel
theorem dL_law_702 : decode cL_law 702 = .ok (.iconst 1, 1) := by decide +kernel
theorem dL_law_703 : decode cL_law 703 = .ok (.iadd, 1) := by decide +kernel
theorem dL_law_704 : decode cL_law 704 = .ok (.iaload, 1) := by decide +kernel
theorem dL_law_705 : decode cL_law 705 = .ok (.aload_n 0, 1) := by decide +kernel
theorem dL_law_706 : decode cL_law 706 = .ok (.iload_n 3, 1) := by decide +kernel
theorem dL_law_707 : decode cL_law 707 = .ok (.iconst 2, 1) := by decide +kernel
theorem dL_law_708 : decode cL_law 708 = .ok (.iadd, 1) := by decide +kernel
theorem dL_law_709 : decode cL_law 709 = .ok (.iaload, 1) := by decide +kernel
theorem dL_law_710 : decode cL_law 710 = .ok (.invokevirtual 83, 3) := by decide +kernel
theorem dL_law_713 : decode cL_law 713 = .ok (.if_icmp .eq 619, 3) := by decide +kernel
theorem dL_law_716 : decode cL_law 716 = .ok (.iconst 0, 1) := by decide +kernel
theorem dL_law_717 : decode cL_law 717 = .ok (.ireturn, 1) := by decide +kernel
theorem dL_law_718 : decode cL_law 718 = .ok (.aload_n 1, 1) := by decide +kernel
theorem dL_law_719 : decode cL_law 719 = .ok (.aload_n 0, 1) := by decide +kernel
theorem dL_law_720 : decode cL_law 720 = .ok (.iload_n 3, 1) := by decide +kernel
theorem dL_law_721 : decode cL_law 721 = .ok (.iconst 1, 1) := by decide +kernel
theorem dL_law_722 : decode cL_law 722 = .ok (.iadd, 1) := by decide +kernel
theorem dL_law_723 : decode cL_law 723 = .ok (.iaload, 1) := by decide +kernel
theorem dL_law_724 : decode cL_law 724 = .ok (.invokevirtual 84, 3) := by decide +kernel
theorem dL_law_727 : decode cL_law 727 = .ok (.aload_n 2, 1) := by decide +kernel
theorem dL_law_728 : decode cL_law 728 = .ok (.aload_n 0, 1) := by decide +kernel
theorem dL_law_729 : decode cL_law 729 = .ok (.iload_n 3, 1) := by decide +kernel
theorem dL_law_730 : decode cL_law 730 = .ok (.iconst 1, 1) := by decide +kernel
theorem dL_law_731 : decode cL_law 731 = .ok (.iadd, 1) := by decide +kernel
theorem dL_law_732 : decode cL_law 732 = .ok (.iaload, 1) := by decide +kernel
theorem dL_law_733 : decode cL_law 733 = .ok (.invokevirtual 87, 3) := by decide +kernel
theorem dL_law_736 : decode cL_law 736 = .ok (.if_icmp .eq 596, 3) := by decide +kernel
theorem dL_law_739 : decode cL_law 739 = .ok (.iconst 0, 1) := by decide +kernel
theorem dL_law_740 : decode cL_law 740 = .ok (.ireturn, 1) := by decide +kernel
theorem dL_law_741 : decode cL_law 741 = .ok (.aload_n 1, 1) := by decide +kernel
theorem dL_law_742 : decode cL_law 742 = .ok (.aload_n 0, 1) := by decide +kernel
theorem dL_law_743 : decode cL_law 743 = .ok (.iload_n 3, 1) := by decide +kernel
theorem dL_law_744 : decode cL_law 744 = .ok (.iconst 1, 1) := by decide +kernel
theorem dL_law_745 : decode cL_law 745 = .ok (.iadd, 1) := by decide +kernel
theorem dL_law_746 : decode cL_law 746 = .ok (.iaload, 1) := by decide +kernel
theorem dL_law_747 : decode cL_law 747 = .ok (.invokevirtual 88, 3) := by decide +kernel
theorem dL_law_750 : decode cL_law 750 = .ok (.aload_n 2, 1) := by decide +kernel
theorem dL_law_751 : decode cL_law 751 = .ok (.aload_n 0, 1) := by decide +kernel
theorem dL_law_752 : decode cL_law 752 = .ok (.iload_n 3, 1) := by decide +kernel
theorem dL_law_753 : decode cL_law 753 = .ok (.iconst 1, 1) := by decide +kernel
theorem dL_law_754 : decode cL_law 754 = .ok (.iadd, 1) := by decide +kernel
theorem dL_law_755 : decode cL_law 755 = .ok (.iaload, 1) := by decide +kernel
theorem dL_law_756 : decode cL_law 756 = .ok (.invokevirtual 91, 3) := by decide +kernel
theorem dL_law_759 : decode cL_law 759 = .ok (.if_icmp .eq 573, 3) := by decide +kernel
theorem dL_law_762 : decode cL_law 762 = .ok (.iconst 0, 1) := by decide +kernel
theorem dL_law_763 : decode cL_law 763 = .ok (.ireturn, 1) := by decide +kernel
theorem dL_law_764 : decode cL_law 764 = .ok (.aload_n 1, 1) := by decide +kernel
theorem dL_law_765 : decode cL_law 765 = .ok (.aload_n 0, 1) := by decide +kernel
theorem dL_law_766 : decode cL_law 766 = .ok (.iload_n 3, 1) := by decide +kernel
theorem dL_law_767 : decode cL_law 767 = .ok (.iconst 1, 1) := by decide +kernel
theorem dL_law_768 : decode cL_law 768 = .ok (.iadd, 1) := by decide +kernel
theorem dL_law_769 : decode cL_law 769 = .ok (.iaload, 1) := by decide +kernel
theorem dL_law_770 : decode cL_law 770 = .ok (.invokevirtual 92, 3) := by decide +kernel
theorem dL_law_773 : decode cL_law 773 = .ok (.aload_n 2, 1) := by decide +kernel
theorem dL_law_774 : decode cL_law 774 = .ok (.aload_n 0, 1) := by decide +kernel
theorem dL_law_775 : decode cL_law 775 = .ok (.iload_n 3, 1) := by decide +kernel
theorem dL_law_776 : decode cL_law 776 = .ok (.iconst 1, 1) := by decide +kernel
theorem dL_law_777 : decode cL_law 777 = .ok (.iadd, 1) := by decide +kernel
theorem dL_law_778 : decode cL_law 778 = .ok (.iaload, 1) := by decide +kernel
theorem dL_law_779 : decode cL_law 779 = .ok (.invokevirtual 95, 3) := by decide +kernel
theorem dL_law_782 : decode cL_law 782 = .ok (.if_icmp .eq 550, 3) := by decide +kernel
theorem dL_law_785 : decode cL_law 785 = .ok (.iconst 0, 1) := by decide +kernel
theorem dL_law_786 : decode cL_law 786 = .ok (.ireturn, 1) := by decide +kernel
theorem dL_law_787 : decode cL_law 787 = .ok (.aload_n 1, 1) := by decide +kernel
theorem dL_law_788 : decode cL_law 788 = .ok (.aload_n 0, 1) := by decide +kernel
theorem dL_law_789 : decode cL_law 789 = .ok (.iload_n 3, 1) := by decide +kernel
theorem dL_law_790 : decode cL_law 790 = .ok (.iconst 1, 1) := by decide +kernel
theorem dL_law_791 : decode cL_law 791 = .ok (.iadd, 1) := by decide +kernel
theorem dL_law_792 : decode cL_law 792 = .ok (.iaload, 1) := by decide +kernel
theorem dL_law_793 : decode cL_law 793 = .ok (.invokevirtual 96, 3) := by decide +kernel
theorem dL_law_796 : decode cL_law 796 = .ok (.aload_n 2, 1) := by decide +kernel
theorem dL_law_797 : decode cL_law 797 = .ok (.aload_n 0, 1) := by decide +kernel
theorem dL_law_798 : decode cL_law 798 = .ok (.iload_n 3, 1) := by decide +kernel
theorem dL_law_799 : decode cL_law 799 = .ok (.iconst 1, 1) := by decide +kernel
theorem dL_law_800 : decode cL_law 800 = .ok (.iadd, 1) := by decide +kernel
theorem dL_law_801 : decode cL_law 801 = .ok (.iaload, 1) := by decide +kernel
theorem dL_law_802 : decode cL_law 802 = .ok (.invokevirtual 99, 3) := by decide +kernel
theorem dL_law_805 : decode cL_law 805 = .ok (.if_icmp .eq 527, 3) := by decide +kernel
theorem dL_law_808 : decode cL_law 808 = .ok (.iconst 0, 1) := by decide +kernel
theorem dL_law_809 : decode cL_law 809 = .ok (.ireturn, 1) := by decide +kernel
theorem dL_law_810 : decode cL_law 810 = .ok (.aload_n 1, 1) := by decide +kernel
theorem dL_law_811 : decode cL_law 811 = .ok (.aload_n 0, 1) := by decide +kernel
theorem dL_law_812 : decode cL_law 812 = .ok (.iload_n 3, 1) := by decide +kernel
theorem dL_law_813 : decode cL_law 813 = .ok (.iconst 1, 1) := by decide +kernel
theorem dL_law_814 : decode cL_law 814 = .ok (.iadd, 1) := by decide +kernel
theorem dL_law_815 : decode cL_law 815 = .ok (.iaload, 1) := by decide +kernel
theorem dL_law_816 : decode cL_law 816 = .ok (.invokevirtual 100, 3) := by decide +kernel
theorem dL_law_819 : decode cL_law 819 = .ok (.aload_n 2, 1) := by decide +kernel
theorem dL_law_820 : decode cL_law 820 = .ok (.aload_n 0, 1) := by decide +kernel
theorem dL_law_821 : decode cL_law 821 = .ok (.iload_n 3, 1) := by decide +kernel
theorem dL_law_822 : decode cL_law 822 = .ok (.iconst 1, 1) := by decide +kernel
theorem dL_law_823 : decode cL_law 823 = .ok (.iadd, 1) := by decide +kernel
theorem dL_law_824 : decode cL_law 824 = .ok (.iaload, 1) := by decide +kernel
theorem dL_law_825 : decode cL_law 825 = .ok (.invokevirtual 103, 3) := by decide +kernel
theorem dL_law_828 : decode cL_law 828 = .ok (.if_icmp .eq 504, 3) := by decide +kernel
theorem dL_law_831 : decode cL_law 831 = .ok (.iconst 0, 1) := by decide +kernel
theorem dL_law_832 : decode cL_law 832 = .ok (.ireturn, 1) := by decide +kernel
theorem dL_law_833 : decode cL_law 833 = .ok (.aload_n 1, 1) := by decide +kernel
theorem dL_law_834 : decode cL_law 834 = .ok (.aload_n 0, 1) := by decide +kernel
theorem dL_law_835 : decode cL_law 835 = .ok (.iload_n 3, 1) := by decide +kernel
theorem dL_law_836 : decode cL_law 836 = .ok (.iconst 1, 1) := by decide +kernel
theorem dL_law_837 : decode cL_law 837 = .ok (.iadd, 1) := by decide +kernel
theorem dL_law_838 : decode cL_law 838 = .ok (.iaload, 1) := by decide +kernel
theorem dL_law_839 : decode cL_law 839 = .ok (.aload_n 0, 1) := by decide +kernel
theorem dL_law_840 : decode cL_law 840 = .ok (.iload_n 3, 1) := by decide +kernel
theorem dL_law_841 : decode cL_law 841 = .ok (.iconst 2, 1) := by decide +kernel
theorem dL_law_842 : decode cL_law 842 = .ok (.iadd, 1) := by decide +kernel
theorem dL_law_843 : decode cL_law 843 = .ok (.iaload, 1) := by decide +kernel
theorem dL_law_844 : decode cL_law 844 = .ok (.invokevirtual 104, 3) := by decide +kernel
theorem dL_law_847 : decode cL_law 847 = .ok (.aload_n 2, 1) := by decide +kernel
theorem dL_law_848 : decode cL_law 848 = .ok (.aload_n 0, 1) := by decide +kernel
theorem dL_law_849 : decode cL_law 849 = .ok (.iload_n 3, 1) := by decide +kernel
theorem dL_law_850 : decode cL_law 850 = .ok (.iconst 1, 1) := by decide +kernel
theorem dL_law_851 : decode cL_law 851 = .ok (.iadd, 1) := by decide +kernel
theorem dL_law_852 : decode cL_law 852 = .ok (.iaload, 1) := by decide +kernel
theorem dL_law_853 : decode cL_law 853 = .ok (.aload_n 0, 1) := by decide +kernel
theorem dL_law_854 : decode cL_law 854 = .ok (.iload_n 3, 1) := by decide +kernel
theorem dL_law_855 : decode cL_law 855 = .ok (.iconst 2, 1) := by decide +kernel
theorem dL_law_856 : decode cL_law 856 = .ok (.iadd, 1) := by decide +kernel
theorem dL_law_857 : decode cL_law 857 = .ok (.iaload, 1) := by decide +kernel
theorem dL_law_858 : decode cL_law 858 = .ok (.invokevirtual 107, 3) := by decide +kernel
theorem dL_law_861 : decode cL_law 861 = .ok (.if_icmp .eq 471, 3) := by decide +kernel
theorem dL_law_864 : decode cL_law 864 = .ok (.iconst 0, 1) := by decide +kernel
theorem dL_law_865 : decode cL_law 865 = .ok (.ireturn, 1) := by decide +kernel
theorem dL_law_866 : decode cL_law 866 = .ok (.aload_n 1, 1) := by decide +kernel
theorem dL_law_867 : decode cL_law 867 = .ok (.aload_n 0, 1) := by decide +kernel
theorem dL_law_868 : decode cL_law 868 = .ok (.iload_n 3, 1) := by decide +kernel
theorem dL_law_869 : decode cL_law 869 = .ok (.iconst 1, 1) := by decide +kernel
theorem dL_law_870 : decode cL_law 870 = .ok (.iadd, 1) := by decide +kernel
theorem dL_law_871 : decode cL_law 871 = .ok (.iaload, 1) := by decide +kernel
theorem dL_law_872 : decode cL_law 872 = .ok (.invokevirtual 108, 3) := by decide +kernel
theorem dL_law_875 : decode cL_law 875 = .ok (.aload_n 2, 1) := by decide +kernel
theorem dL_law_876 : decode cL_law 876 = .ok (.aload_n 0, 1) := by decide +kernel
theorem dL_law_877 : decode cL_law 877 = .ok (.iload_n 3, 1) := by decide +kernel
theorem dL_law_878 : decode cL_law 878 = .ok (.iconst 1, 1) := by decide +kernel
theorem dL_law_879 : decode cL_law 879 = .ok (.iadd, 1) := by decide +kernel
theorem dL_law_880 : decode cL_law 880 = .ok (.iaload, 1) := by decide +kernel
theorem dL_law_881 : decode cL_law 881 = .ok (.invokevirtual 111, 3) := by decide +kernel
theorem dL_law_884 : decode cL_law 884 = .ok (.if_icmp .eq 448, 3) := by decide +kernel
theorem dL_law_887 : decode cL_law 887 = .ok (.iconst 0, 1) := by decide +kernel
theorem dL_law_888 : decode cL_law 888 = .ok (.ireturn, 1) := by decide +kernel
theorem dL_law_889 : decode cL_law 889 = .ok (.aload_n 1, 1) := by decide +kernel
theorem dL_law_890 : decode cL_law 890 = .ok (.invokevirtual 112, 3) := by decide +kernel
theorem dL_law_893 : decode cL_law 893 = .ok (.aload_n 2, 1) := by decide +kernel
theorem dL_law_894 : decode cL_law 894 = .ok (.invokevirtual 115, 3) := by decide +kernel
theorem dL_law_897 : decode cL_law 897 = .ok (.if_icmp .eq 435, 3) := by decide +kernel
theorem dL_law_900 : decode cL_law 900 = .ok (.iconst 0, 1) := by decide +kernel
theorem dL_law_901 : decode cL_law 901 = .ok (.ireturn, 1) := by decide +kernel
theorem dL_law_902 : decode cL_law 902 = .ok (.aload_n 1, 1) := by decide +kernel
theorem dL_law_903 : decode cL_law 903 = .ok (.invokevirtual 116, 3) := by decide +kernel
theorem dL_law_906 : decode cL_law 906 = .ok (.aload_n 2, 1) := by decide +kernel
theorem dL_law_907 : decode cL_law 907 = .ok (.invokevirtual 119, 3) := by decide +kernel
theorem dL_law_910 : decode cL_law 910 = .ok (.if_icmp .eq 422, 3) := by decide +kernel
theorem dL_law_913 : decode cL_law 913 = .ok (.iconst 0, 1) := by decide +kernel
theorem dL_law_914 : decode cL_law 914 = .ok (.ireturn, 1) := by decide +kernel
theorem dL_law_915 : decode cL_law 915 = .ok (.aload_n 1, 1) := by decide +kernel
theorem dL_law_916 : decode cL_law 916 = .ok (.invokevirtual 120, 3) := by decide +kernel
theorem dL_law_919 : decode cL_law 919 = .ok (.aload_n 2, 1) := by decide +kernel
theorem dL_law_920 : decode cL_law 920 = .ok (.invokevirtual 123, 3) := by decide +kernel
theorem dL_law_923 : decode cL_law 923 = .ok (.if_icmp .eq 409, 3) := by decide +kernel
theorem dL_law_926 : decode cL_law 926 = .ok (.iconst 0, 1) := by decide +kernel
theorem dL_law_927 : decode cL_law 927 = .ok (.ireturn, 1) := by decide +kernel
theorem dL_law_928 : decode cL_law 928 = .ok (.aload_n 1, 1) := by decide +kernel
theorem dL_law_929 : decode cL_law 929 = .ok (.invokevirtual 124, 3) := by decide +kernel
theorem dL_law_932 : decode cL_law 932 = .ok (.aload_n 2, 1) := by decide +kernel
theorem dL_law_933 : decode cL_law 933 = .ok (.invokevirtual 127, 3) := by decide +kernel
theorem dL_law_936 : decode cL_law 936 = .ok (.if_icmp .eq 396, 3) := by decide +kernel
theorem dL_law_939 : decode cL_law 939 = .ok (.iconst 0, 1) := by decide +kernel
theorem dL_law_940 : decode cL_law 940 = .ok (.ireturn, 1) := by decide +kernel
theorem dL_law_941 : decode cL_law 941 = .ok (.aload_n 1, 1) := by decide +kernel
theorem dL_law_942 : decode cL_law 942 = .ok (.aload_n 0, 1) := by decide +kernel
theorem dL_law_943 : decode cL_law 943 = .ok (.iload_n 3, 1) := by decide +kernel
theorem dL_law_944 : decode cL_law 944 = .ok (.iconst 1, 1) := by decide +kernel
theorem dL_law_945 : decode cL_law 945 = .ok (.iadd, 1) := by decide +kernel
theorem dL_law_946 : decode cL_law 946 = .ok (.iaload, 1) := by decide +kernel
theorem dL_law_947 : decode cL_law 947 = .ok (.invokevirtual 128, 3) := by decide +kernel
theorem dL_law_950 : decode cL_law 950 = .ok (.aload_n 2, 1) := by decide +kernel
theorem dL_law_951 : decode cL_law 951 = .ok (.aload_n 0, 1) := by decide +kernel
theorem dL_law_952 : decode cL_law 952 = .ok (.iload_n 3, 1) := by decide +kernel
theorem dL_law_953 : decode cL_law 953 = .ok (.iconst 1, 1) := by decide +kernel
theorem dL_law_954 : decode cL_law 954 = .ok (.iadd, 1) := by decide +kernel
theorem dL_law_955 : decode cL_law 955 = .ok (.iaload, 1) := by decide +kernel
theorem dL_law_956 : decode cL_law 956 = .ok (.invokevirtual 131, 3) := by decide +kernel
theorem dL_law_959 : decode cL_law 959 = .ok (.if_icmp .eq 373, 3) := by decide +kernel
theorem dL_law_962 : decode cL_law 962 = .ok (.iconst 0, 1) := by decide +kernel
theorem dL_law_963 : decode cL_law 963 = .ok (.ireturn, 1) := by decide +kernel
theorem dL_law_964 : decode cL_law 964 = .ok (.aload_n 1, 1) := by decide +kernel
theorem dL_law_965 : decode cL_law 965 = .ok (.aload_n 0, 1) := by decide +kernel
theorem dL_law_966 : decode cL_law 966 = .ok (.iload_n 3, 1) := by decide +kernel
theorem dL_law_967 : decode cL_law 967 = .ok (.iconst 1, 1) := by decide +kernel
theorem dL_law_968 : decode cL_law 968 = .ok (.iadd, 1) := by decide +kernel
theorem dL_law_969 : decode cL_law 969 = .ok (.iaload, 1) := by decide +kernel
theorem dL_law_970 : decode cL_law 970 = .ok (.aload_n 0, 1) := by decide +kernel
theorem dL_law_971 : decode cL_law 971 = .ok (.iload_n 3, 1) := by decide +kernel
theorem dL_law_972 : decode cL_law 972 = .ok (.iconst 2, 1) := by decide +kernel
theorem dL_law_973 : decode cL_law 973 = .ok (.iadd, 1) := by decide +kernel
theorem dL_law_974 : decode cL_law 974 = .ok (.iaload, 1) := by decide +kernel
theorem dL_law_975 : decode cL_law 975 = .ok (.aload_n 0, 1) := by decide +kernel
theorem dL_law_976 : decode cL_law 976 = .ok (.iload_n 3, 1) := by decide +kernel
theorem dL_law_977 : decode cL_law 977 = .ok (.iconst 3, 1) := by decide +kernel
theorem dL_law_978 : decode cL_law 978 = .ok (.iadd, 1) := by decide +kernel
theorem dL_law_979 : decode cL_law 979 = .ok (.iaload, 1) := by decide +kernel
theorem dL_law_980 : decode cL_law 980 = .ok (.invokevirtual 132, 3) := by decide +kernel
theorem dL_law_983 : decode cL_law 983 = .ok (.aload_n 2, 1) := by decide +kernel
theorem dL_law_984 : decode cL_law 984 = .ok (.aload_n 0, 1) := by decide +kernel
theorem dL_law_985 : decode cL_law 985 = .ok (.iload_n 3, 1) := by decide +kernel
theorem dL_law_986 : decode cL_law 986 = .ok (.iconst 1, 1) := by decide +kernel
theorem dL_law_987 : decode cL_law 987 = .ok (.iadd, 1) := by decide +kernel
theorem dL_law_988 : decode cL_law 988 = .ok (.iaload, 1) := by decide +kernel
theorem dL_law_989 : decode cL_law 989 = .ok (.aload_n 0, 1) := by decide +kernel
theorem dL_law_990 : decode cL_law 990 = .ok (.iload_n 3, 1) := by decide +kernel
theorem dL_law_991 : decode cL_law 991 = .ok (.iconst 2, 1) := by decide +kernel
theorem dL_law_992 : decode cL_law 992 = .ok (.iadd, 1) := by decide +kernel
theorem dL_law_993 : decode cL_law 993 = .ok (.iaload, 1) := by decide +kernel
theorem dL_law_994 : decode cL_law 994 = .ok (.aload_n 0, 1) := by decide +kernel
theorem dL_law_995 : decode cL_law 995 = .ok (.iload_n 3, 1) := by decide +kernel
theorem dL_law_996 : decode cL_law 996 = .ok (.iconst 3, 1) := by decide +kernel
theorem dL_law_997 : decode cL_law 997 = .ok (.iadd, 1) := by decide +kernel
theorem dL_law_998 : decode cL_law 998 = .ok (.iaload, 1) := by decide +kernel
theorem dL_law_999 : decode cL_law 999 = .ok (.invokevirtual 135, 3) := by decide +kernel
theorem dL_law_1002 : decode cL_law 1002 = .ok (.if_icmp .eq 330, 3) := by decide +kernel
theorem dL_law_1005 : decode cL_law 1005 = .ok (.iconst 0, 1) := by decide +kernel
theorem dL_law_1006 : decode cL_law 1006 = .ok (.ireturn, 1) := by decide +kernel
theorem dL_law_1007 : decode cL_law 1007 = .ok (.aload_n 1, 1) := by decide +kernel
theorem dL_law_1008 : decode cL_law 1008 = .ok (.aload_n 0, 1) := by decide +kernel
theorem dL_law_1009 : decode cL_law 1009 = .ok (.iload_n 3, 1) := by decide +kernel
theorem dL_law_1010 : decode cL_law 1010 = .ok (.iconst 1, 1) := by decide +kernel
theorem dL_law_1011 : decode cL_law 1011 = .ok (.iadd, 1) := by decide +kernel
theorem dL_law_1012 : decode cL_law 1012 = .ok (.iaload, 1) := by decide +kernel
theorem dL_law_1013 : decode cL_law 1013 = .ok (.invokevirtual 136, 3) := by decide +kernel
theorem dL_law_1016 : decode cL_law 1016 = .ok (.aload_n 2, 1) := by decide +kernel
theorem dL_law_1017 : decode cL_law 1017 = .ok (.aload_n 0, 1) := by decide +kernel
theorem dL_law_1018 : decode cL_law 1018 = .ok (.iload_n 3, 1) := by decide +kernel
theorem dL_law_1019 : decode cL_law 1019 = .ok (.iconst 1, 1) := by decide +kernel
theorem dL_law_1020 : decode cL_law 1020 = .ok (.iadd, 1) := by decide +kernel
theorem dL_law_1021 : decode cL_law 1021 = .ok (.iaload, 1) := by decide +kernel
theorem dL_law_1022 : decode cL_law 1022 = .ok (.invokevirtual 139, 3) := by decide +kernel
theorem dL_law_1025 : decode cL_law 1025 = .ok (.if_icmp .eq 307, 3) := by decide +kernel
theorem dL_law_1028 : decode cL_law 1028 = .ok (.iconst 0, 1) := by decide +kernel
theorem dL_law_1029 : decode cL_law 1029 = .ok (.ireturn, 1) := by decide +kernel
theorem dL_law_1030 : decode cL_law 1030 = .ok (.aload_n 1, 1) := by decide +kernel
theorem dL_law_1031 : decode cL_law 1031 = .ok (.aload_n 0, 1) := by decide +kernel
theorem dL_law_1032 : decode cL_law 1032 = .ok (.iload_n 3, 1) := by decide +kernel
theorem dL_law_1033 : decode cL_law 1033 = .ok (.iconst 1, 1) := by decide +kernel
theorem dL_law_1034 : decode cL_law 1034 = .ok (.iadd, 1) := by decide +kernel
theorem dL_law_1035 : decode cL_law 1035 = .ok (.iaload, 1) := by decide +kernel
theorem dL_law_1036 : decode cL_law 1036 = .ok (.aload_n 0, 1) := by decide +kernel
theorem dL_law_1037 : decode cL_law 1037 = .ok (.iload_n 3, 1) := by decide +kernel
theorem dL_law_1038 : decode cL_law 1038 = .ok (.iconst 2, 1) := by decide +kernel
theorem dL_law_1039 : decode cL_law 1039 = .ok (.iadd, 1) := by decide +kernel
theorem dL_law_1040 : decode cL_law 1040 = .ok (.iaload, 1) := by decide +kernel
theorem dL_law_1041 : decode cL_law 1041 = .ok (.invokevirtual 140, 3) := by decide +kernel
theorem dL_law_1044 : decode cL_law 1044 = .ok (.aload_n 2, 1) := by decide +kernel
theorem dL_law_1045 : decode cL_law 1045 = .ok (.aload_n 0, 1) := by decide +kernel
theorem dL_law_1046 : decode cL_law 1046 = .ok (.iload_n 3, 1) := by decide +kernel
theorem dL_law_1047 : decode cL_law 1047 = .ok (.iconst 1, 1) := by decide +kernel
theorem dL_law_1048 : decode cL_law 1048 = .ok (.iadd, 1) := by decide +kernel
theorem dL_law_1049 : decode cL_law 1049 = .ok (.iaload, 1) := by decide +kernel
theorem dL_law_1050 : decode cL_law 1050 = .ok (.aload_n 0, 1) := by decide +kernel
theorem dL_law_1051 : decode cL_law 1051 = .ok (.iload_n 3, 1) := by decide +kernel
theorem dL_law_1052 : decode cL_law 1052 = .ok (.iconst 2, 1) := by decide +kernel
theorem dL_law_1053 : decode cL_law 1053 = .ok (.iadd, 1) := by decide +kernel
theorem dL_law_1054 : decode cL_law 1054 = .ok (.iaload, 1) := by decide +kernel
theorem dL_law_1055 : decode cL_law 1055 = .ok (.invokevirtual 143, 3) := by decide +kernel
theorem dL_law_1058 : decode cL_law 1058 = .ok (.if_icmp .eq 274, 3) := by decide +kernel
theorem dL_law_1061 : decode cL_law 1061 = .ok (.iconst 0, 1) := by decide +kernel
theorem dL_law_1062 : decode cL_law 1062 = .ok (.ireturn, 1) := by decide +kernel
theorem dL_law_1063 : decode cL_law 1063 = .ok (.aload_n 1, 1) := by decide +kernel
theorem dL_law_1064 : decode cL_law 1064 = .ok (.aload_n 0, 1) := by decide +kernel
theorem dL_law_1065 : decode cL_law 1065 = .ok (.iload_n 3, 1) := by decide +kernel
theorem dL_law_1066 : decode cL_law 1066 = .ok (.iconst 1, 1) := by decide +kernel
theorem dL_law_1067 : decode cL_law 1067 = .ok (.iadd, 1) := by decide +kernel
theorem dL_law_1068 : decode cL_law 1068 = .ok (.iaload, 1) := by decide +kernel
theorem dL_law_1069 : decode cL_law 1069 = .ok (.aload_n 0, 1) := by decide +kernel
theorem dL_law_1070 : decode cL_law 1070 = .ok (.iload_n 3, 1) := by decide +kernel
theorem dL_law_1071 : decode cL_law 1071 = .ok (.iconst 2, 1) := by decide +kernel
theorem dL_law_1072 : decode cL_law 1072 = .ok (.iadd, 1) := by decide +kernel
theorem dL_law_1073 : decode cL_law 1073 = .ok (.iaload, 1) := by decide +kernel
theorem dL_law_1074 : decode cL_law 1074 = .ok (.aload_n 0, 1) := by decide +kernel
theorem dL_law_1075 : decode cL_law 1075 = .ok (.iload_n 3, 1) := by decide +kernel
theorem dL_law_1076 : decode cL_law 1076 = .ok (.iconst 3, 1) := by decide +kernel
theorem dL_law_1077 : decode cL_law 1077 = .ok (.iadd, 1) := by decide +kernel
theorem dL_law_1078 : decode cL_law 1078 = .ok (.iaload, 1) := by decide +kernel
theorem dL_law_1079 : decode cL_law 1079 = .ok (.invokevirtual 144, 3) := by decide +kernel
theorem dL_law_1082 : decode cL_law 1082 = .ok (.aload_n 2, 1) := by decide +kernel
theorem dL_law_1083 : decode cL_law 1083 = .ok (.aload_n 0, 1) := by decide +kernel
theorem dL_law_1084 : decode cL_law 1084 = .ok (.iload_n 3, 1) := by decide +kernel
theorem dL_law_1085 : decode cL_law 1085 = .ok (.iconst 1, 1) := by decide +kernel
theorem dL_law_1086 : decode cL_law 1086 = .ok (.iadd, 1) := by decide +kernel
theorem dL_law_1087 : decode cL_law 1087 = .ok (.iaload, 1) := by decide +kernel
theorem dL_law_1088 : decode cL_law 1088 = .ok (.aload_n 0, 1) := by decide +kernel
theorem dL_law_1089 : decode cL_law 1089 = .ok (.iload_n 3, 1) := by decide +kernel
theorem dL_law_1090 : decode cL_law 1090 = .ok (.iconst 2, 1) := by decide +kernel
theorem dL_law_1091 : decode cL_law 1091 = .ok (.iadd, 1) := by decide +kernel
theorem dL_law_1092 : decode cL_law 1092 = .ok (.iaload, 1) := by decide +kernel
theorem dL_law_1093 : decode cL_law 1093 = .ok (.aload_n 0, 1) := by decide +kernel
theorem dL_law_1094 : decode cL_law 1094 = .ok (.iload_n 3, 1) := by decide +kernel
theorem dL_law_1095 : decode cL_law 1095 = .ok (.iconst 3, 1) := by decide +kernel
theorem dL_law_1096 : decode cL_law 1096 = .ok (.iadd, 1) := by decide +kernel
theorem dL_law_1097 : decode cL_law 1097 = .ok (.iaload, 1) := by decide +kernel
theorem dL_law_1098 : decode cL_law 1098 = .ok (.invokevirtual 147, 3) := by decide +kernel
theorem dL_law_1101 : decode cL_law 1101 = .ok (.if_icmp .eq 231, 3) := by decide +kernel
theorem dL_law_1104 : decode cL_law 1104 = .ok (.iconst 0, 1) := by decide +kernel
theorem dL_law_1105 : decode cL_law 1105 = .ok (.ireturn, 1) := by decide +kernel
theorem dL_law_1106 : decode cL_law 1106 = .ok (.aload_n 1, 1) := by decide +kernel
theorem dL_law_1107 : decode cL_law 1107 = .ok (.aload_n 0, 1) := by decide +kernel
theorem dL_law_1108 : decode cL_law 1108 = .ok (.iload_n 3, 1) := by decide +kernel
theorem dL_law_1109 : decode cL_law 1109 = .ok (.iconst 1, 1) := by decide +kernel
theorem dL_law_1110 : decode cL_law 1110 = .ok (.iadd, 1) := by decide +kernel
theorem dL_law_1111 : decode cL_law 1111 = .ok (.iaload, 1) := by decide +kernel
theorem dL_law_1112 : decode cL_law 1112 = .ok (.aload_n 0, 1) := by decide +kernel
theorem dL_law_1113 : decode cL_law 1113 = .ok (.iload_n 3, 1) := by decide +kernel
theorem dL_law_1114 : decode cL_law 1114 = .ok (.iconst 2, 1) := by decide +kernel
theorem dL_law_1115 : decode cL_law 1115 = .ok (.iadd, 1) := by decide +kernel
theorem dL_law_1116 : decode cL_law 1116 = .ok (.iaload, 1) := by decide +kernel
theorem dL_law_1117 : decode cL_law 1117 = .ok (.aload_n 0, 1) := by decide +kernel
theorem dL_law_1118 : decode cL_law 1118 = .ok (.iload_n 3, 1) := by decide +kernel
theorem dL_law_1119 : decode cL_law 1119 = .ok (.iconst 3, 1) := by decide +kernel
theorem dL_law_1120 : decode cL_law 1120 = .ok (.iadd, 1) := by decide +kernel
theorem dL_law_1121 : decode cL_law 1121 = .ok (.iaload, 1) := by decide +kernel
theorem dL_law_1122 : decode cL_law 1122 = .ok (.i2l, 1) := by decide +kernel
theorem dL_law_1123 : decode cL_law 1123 = .ok (.bipush 32, 2) := by decide +kernel
theorem dL_law_1125 : decode cL_law 1125 = .ok (.lshl, 1) := by decide +kernel
theorem dL_law_1126 : decode cL_law 1126 = .ok (.aload_n 0, 1) := by decide +kernel
theorem dL_law_1127 : decode cL_law 1127 = .ok (.iload_n 3, 1) := by decide +kernel
theorem dL_law_1128 : decode cL_law 1128 = .ok (.iconst 4, 1) := by decide +kernel
theorem dL_law_1129 : decode cL_law 1129 = .ok (.iadd, 1) := by decide +kernel
theorem dL_law_1130 : decode cL_law 1130 = .ok (.iaload, 1) := by decide +kernel
theorem dL_law_1131 : decode cL_law 1131 = .ok (.i2l, 1) := by decide +kernel
theorem dL_law_1132 : decode cL_law 1132 = .ok (.ldc2_w 148, 3) := by decide +kernel
theorem dL_law_1135 : decode cL_law 1135 = .ok (.land, 1) := by decide +kernel
theorem dL_law_1136 : decode cL_law 1136 = .ok (.lor, 1) := by decide +kernel
theorem dL_law_1137 : decode cL_law 1137 = .ok (.invokevirtual 150, 3) := by decide +kernel
theorem dL_law_1140 : decode cL_law 1140 = .ok (.aload_n 2, 1) := by decide +kernel
theorem dL_law_1141 : decode cL_law 1141 = .ok (.aload_n 0, 1) := by decide +kernel
theorem dL_law_1142 : decode cL_law 1142 = .ok (.iload_n 3, 1) := by decide +kernel
theorem dL_law_1143 : decode cL_law 1143 = .ok (.iconst 1, 1) := by decide +kernel
theorem dL_law_1144 : decode cL_law 1144 = .ok (.iadd, 1) := by decide +kernel
theorem dL_law_1145 : decode cL_law 1145 = .ok (.iaload, 1) := by decide +kernel
theorem dL_law_1146 : decode cL_law 1146 = .ok (.aload_n 0, 1) := by decide +kernel
theorem dL_law_1147 : decode cL_law 1147 = .ok (.iload_n 3, 1) := by decide +kernel
theorem dL_law_1148 : decode cL_law 1148 = .ok (.iconst 2, 1) := by decide +kernel
theorem dL_law_1149 : decode cL_law 1149 = .ok (.iadd, 1) := by decide +kernel
theorem dL_law_1150 : decode cL_law 1150 = .ok (.iaload, 1) := by decide +kernel
theorem dL_law_1151 : decode cL_law 1151 = .ok (.aload_n 0, 1) := by decide +kernel
theorem dL_law_1152 : decode cL_law 1152 = .ok (.iload_n 3, 1) := by decide +kernel
theorem dL_law_1153 : decode cL_law 1153 = .ok (.iconst 3, 1) := by decide +kernel
theorem dL_law_1154 : decode cL_law 1154 = .ok (.iadd, 1) := by decide +kernel
theorem dL_law_1155 : decode cL_law 1155 = .ok (.iaload, 1) := by decide +kernel
theorem dL_law_1156 : decode cL_law 1156 = .ok (.i2l, 1) := by decide +kernel
theorem dL_law_1157 : decode cL_law 1157 = .ok (.bipush 32, 2) := by decide +kernel
theorem dL_law_1159 : decode cL_law 1159 = .ok (.lshl, 1) := by decide +kernel
theorem dL_law_1160 : decode cL_law 1160 = .ok (.aload_n 0, 1) := by decide +kernel
theorem dL_law_1161 : decode cL_law 1161 = .ok (.iload_n 3, 1) := by decide +kernel
theorem dL_law_1162 : decode cL_law 1162 = .ok (.iconst 4, 1) := by decide +kernel
theorem dL_law_1163 : decode cL_law 1163 = .ok (.iadd, 1) := by decide +kernel
theorem dL_law_1164 : decode cL_law 1164 = .ok (.iaload, 1) := by decide +kernel
theorem dL_law_1165 : decode cL_law 1165 = .ok (.i2l, 1) := by decide +kernel
theorem dL_law_1166 : decode cL_law 1166 = .ok (.ldc2_w 148, 3) := by decide +kernel
theorem dL_law_1169 : decode cL_law 1169 = .ok (.land, 1) := by decide +kernel
theorem dL_law_1170 : decode cL_law 1170 = .ok (.lor, 1) := by decide +kernel
theorem dL_law_1171 : decode cL_law 1171 = .ok (.invokevirtual 154, 3) := by decide +kernel
theorem dL_law_1174 : decode cL_law 1174 = .ok (.if_icmp .eq 158, 3) := by decide +kernel
theorem dL_law_1177 : decode cL_law 1177 = .ok (.iconst 0, 1) := by decide +kernel
theorem dL_law_1178 : decode cL_law 1178 = .ok (.ireturn, 1) := by decide +kernel
theorem dL_law_1179 : decode cL_law 1179 = .ok (.aload_n 1, 1) := by decide +kernel
theorem dL_law_1180 : decode cL_law 1180 = .ok (.aload_n 0, 1) := by decide +kernel
theorem dL_law_1181 : decode cL_law 1181 = .ok (.iload_n 3, 1) := by decide +kernel
theorem dL_law_1182 : decode cL_law 1182 = .ok (.iconst 1, 1) := by decide +kernel
theorem dL_law_1183 : decode cL_law 1183 = .ok (.iadd, 1) := by decide +kernel
theorem dL_law_1184 : decode cL_law 1184 = .ok (.iaload, 1) := by decide +kernel
theorem dL_law_1185 : decode cL_law 1185 = .ok (.aload_n 0, 1) := by decide +kernel
theorem dL_law_1186 : decode cL_law 1186 = .ok (.iload_n 3, 1) := by decide +kernel
theorem dL_law_1187 : decode cL_law 1187 = .ok (.iconst 2, 1) := by decide +kernel
theorem dL_law_1188 : decode cL_law 1188 = .ok (.iadd, 1) := by decide +kernel
theorem dL_law_1189 : decode cL_law 1189 = .ok (.iaload, 1) := by decide +kernel
theorem dL_law_1190 : decode cL_law 1190 = .ok (.invokevirtual 155, 3) := by decide +kernel
theorem dL_law_1193 : decode cL_law 1193 = .ok (.aload_n 2, 1) := by decide +kernel
theorem dL_law_1194 : decode cL_law 1194 = .ok (.aload_n 0, 1) := by decide +kernel
theorem dL_law_1195 : decode cL_law 1195 = .ok (.iload_n 3, 1) := by decide +kernel
theorem dL_law_1196 : decode cL_law 1196 = .ok (.iconst 1, 1) := by decide +kernel
theorem dL_law_1197 : decode cL_law 1197 = .ok (.iadd, 1) := by decide +kernel
theorem dL_law_1198 : decode cL_law 1198 = .ok (.iaload, 1) := by decide +kernel
theorem dL_law_1199 : decode cL_law 1199 = .ok (.aload_n 0, 1) := by decide +kernel
theorem dL_law_1200 : decode cL_law 1200 = .ok (.iload_n 3, 1) := by decide +kernel
theorem dL_law_1201 : decode cL_law 1201 = .ok (.iconst 2, 1) := by decide +kernel
theorem dL_law_1202 : decode cL_law 1202 = .ok (.iadd, 1) := by decide +kernel
theorem dL_law_1203 : decode cL_law 1203 = .ok (.iaload, 1) := by decide +kernel
theorem dL_law_1204 : decode cL_law 1204 = .ok (.invokevirtual 158, 3) := by decide +kernel
theorem dL_law_1207 : decode cL_law 1207 = .ok (.lcmp, 1) := by decide +kernel
theorem dL_law_1208 : decode cL_law 1208 = .ok (.ifCond .eq 124, 3) := by decide +kernel
theorem dL_law_1211 : decode cL_law 1211 = .ok (.iconst 0, 1) := by decide +kernel
theorem dL_law_1212 : decode cL_law 1212 = .ok (.ireturn, 1) := by decide +kernel
theorem dL_law_1213 : decode cL_law 1213 = .ok (.aload_n 1, 1) := by decide +kernel
theorem dL_law_1214 : decode cL_law 1214 = .ok (.aload_n 0, 1) := by decide +kernel
theorem dL_law_1215 : decode cL_law 1215 = .ok (.iload_n 3, 1) := by decide +kernel
theorem dL_law_1216 : decode cL_law 1216 = .ok (.iconst 1, 1) := by decide +kernel
theorem dL_law_1217 : decode cL_law 1217 = .ok (.iadd, 1) := by decide +kernel
theorem dL_law_1218 : decode cL_law 1218 = .ok (.iaload, 1) := by decide +kernel
theorem dL_law_1219 : decode cL_law 1219 = .ok (.aload_n 0, 1) := by decide +kernel
theorem dL_law_1220 : decode cL_law 1220 = .ok (.iload_n 3, 1) := by decide +kernel
theorem dL_law_1221 : decode cL_law 1221 = .ok (.iconst 2, 1) := by decide +kernel
theorem dL_law_1222 : decode cL_law 1222 = .ok (.iadd, 1) := by decide +kernel
theorem dL_law_1223 : decode cL_law 1223 = .ok (.iaload, 1) := by decide +kernel
theorem dL_law_1224 : decode cL_law 1224 = .ok (.aload_n 0, 1) := by decide +kernel
theorem dL_law_1225 : decode cL_law 1225 = .ok (.iload_n 3, 1) := by decide +kernel
theorem dL_law_1226 : decode cL_law 1226 = .ok (.iconst 3, 1) := by decide +kernel
theorem dL_law_1227 : decode cL_law 1227 = .ok (.iadd, 1) := by decide +kernel
theorem dL_law_1228 : decode cL_law 1228 = .ok (.iaload, 1) := by decide +kernel
theorem dL_law_1229 : decode cL_law 1229 = .ok (.aload_n 0, 1) := by decide +kernel
theorem dL_law_1230 : decode cL_law 1230 = .ok (.iload_n 3, 1) := by decide +kernel
theorem dL_law_1231 : decode cL_law 1231 = .ok (.iconst 4, 1) := by decide +kernel
theorem dL_law_1232 : decode cL_law 1232 = .ok (.iadd, 1) := by decide +kernel
theorem dL_law_1233 : decode cL_law 1233 = .ok (.iaload, 1) := by decide +kernel
theorem dL_law_1234 : decode cL_law 1234 = .ok (.aload_n 0, 1) := by decide +kernel
theorem dL_law_1235 : decode cL_law 1235 = .ok (.iload_n 3, 1) := by decide +kernel
theorem dL_law_1236 : decode cL_law 1236 = .ok (.iconst 5, 1) := by decide +kernel
theorem dL_law_1237 : decode cL_law 1237 = .ok (.iadd, 1) := by decide +kernel
theorem dL_law_1238 : decode cL_law 1238 = .ok (.iaload, 1) := by decide +kernel
theorem dL_law_1239 : decode cL_law 1239 = .ok (.invokevirtual 159, 3) := by decide +kernel
theorem dL_law_1242 : decode cL_law 1242 = .ok (.aload_n 2, 1) := by decide +kernel
theorem dL_law_1243 : decode cL_law 1243 = .ok (.aload_n 0, 1) := by decide +kernel
theorem dL_law_1244 : decode cL_law 1244 = .ok (.iload_n 3, 1) := by decide +kernel
theorem dL_law_1245 : decode cL_law 1245 = .ok (.iconst 1, 1) := by decide +kernel
theorem dL_law_1246 : decode cL_law 1246 = .ok (.iadd, 1) := by decide +kernel
theorem dL_law_1247 : decode cL_law 1247 = .ok (.iaload, 1) := by decide +kernel
theorem dL_law_1248 : decode cL_law 1248 = .ok (.aload_n 0, 1) := by decide +kernel
theorem dL_law_1249 : decode cL_law 1249 = .ok (.iload_n 3, 1) := by decide +kernel
theorem dL_law_1250 : decode cL_law 1250 = .ok (.iconst 2, 1) := by decide +kernel
theorem dL_law_1251 : decode cL_law 1251 = .ok (.iadd, 1) := by decide +kernel
theorem dL_law_1252 : decode cL_law 1252 = .ok (.iaload, 1) := by decide +kernel
theorem dL_law_1253 : decode cL_law 1253 = .ok (.aload_n 0, 1) := by decide +kernel
theorem dL_law_1254 : decode cL_law 1254 = .ok (.iload_n 3, 1) := by decide +kernel
theorem dL_law_1255 : decode cL_law 1255 = .ok (.iconst 3, 1) := by decide +kernel
theorem dL_law_1256 : decode cL_law 1256 = .ok (.iadd, 1) := by decide +kernel
theorem dL_law_1257 : decode cL_law 1257 = .ok (.iaload, 1) := by decide +kernel
theorem dL_law_1258 : decode cL_law 1258 = .ok (.aload_n 0, 1) := by decide +kernel
theorem dL_law_1259 : decode cL_law 1259 = .ok (.iload_n 3, 1) := by decide +kernel
theorem dL_law_1260 : decode cL_law 1260 = .ok (.iconst 4, 1) := by decide +kernel
theorem dL_law_1261 : decode cL_law 1261 = .ok (.iadd, 1) := by decide +kernel
theorem dL_law_1262 : decode cL_law 1262 = .ok (.iaload, 1) := by decide +kernel
theorem dL_law_1263 : decode cL_law 1263 = .ok (.aload_n 0, 1) := by decide +kernel
theorem dL_law_1264 : decode cL_law 1264 = .ok (.iload_n 3, 1) := by decide +kernel
theorem dL_law_1265 : decode cL_law 1265 = .ok (.iconst 5, 1) := by decide +kernel
theorem dL_law_1266 : decode cL_law 1266 = .ok (.iadd, 1) := by decide +kernel
theorem dL_law_1267 : decode cL_law 1267 = .ok (.iaload, 1) := by decide +kernel
theorem dL_law_1268 : decode cL_law 1268 = .ok (.invokevirtual 163, 3) := by decide +kernel
theorem dL_law_1271 : decode cL_law 1271 = .ok (.if_icmp .eq 61, 3) := by decide +kernel
theorem dL_law_1274 : decode cL_law 1274 = .ok (.iconst 0, 1) := by decide +kernel
theorem dL_law_1275 : decode cL_law 1275 = .ok (.ireturn, 1) := by decide +kernel
theorem dL_law_1276 : decode cL_law 1276 = .ok (.aload_n 1, 1) := by decide +kernel
theorem dL_law_1277 : decode cL_law 1277 = .ok (.aload_n 0, 1) := by decide +kernel
theorem dL_law_1278 : decode cL_law 1278 = .ok (.iload_n 3, 1) := by decide +kernel
theorem dL_law_1279 : decode cL_law 1279 = .ok (.iconst 1, 1) := by decide +kernel
theorem dL_law_1280 : decode cL_law 1280 = .ok (.iadd, 1) := by decide +kernel
theorem dL_law_1281 : decode cL_law 1281 = .ok (.iaload, 1) := by decide +kernel
theorem dL_law_1282 : decode cL_law 1282 = .ok (.aload_n 0, 1) := by decide +kernel
theorem dL_law_1283 : decode cL_law 1283 = .ok (.iload_n 3, 1) := by decide +kernel
theorem dL_law_1284 : decode cL_law 1284 = .ok (.iconst 2, 1) := by decide +kernel
theorem dL_law_1285 : decode cL_law 1285 = .ok (.iadd, 1) := by decide +kernel
theorem dL_law_1286 : decode cL_law 1286 = .ok (.iaload, 1) := by decide +kernel
theorem dL_law_1287 : decode cL_law 1287 = .ok (.invokevirtual 164, 3) := by decide +kernel
theorem dL_law_1290 : decode cL_law 1290 = .ok (.aload_n 2, 1) := by decide +kernel
theorem dL_law_1291 : decode cL_law 1291 = .ok (.aload_n 0, 1) := by decide +kernel
theorem dL_law_1292 : decode cL_law 1292 = .ok (.iload_n 3, 1) := by decide +kernel
theorem dL_law_1293 : decode cL_law 1293 = .ok (.iconst 1, 1) := by decide +kernel
theorem dL_law_1294 : decode cL_law 1294 = .ok (.iadd, 1) := by decide +kernel
theorem dL_law_1295 : decode cL_law 1295 = .ok (.iaload, 1) := by decide +kernel
theorem dL_law_1296 : decode cL_law 1296 = .ok (.aload_n 0, 1) := by decide +kernel
theorem dL_law_1297 : decode cL_law 1297 = .ok (.iload_n 3, 1) := by decide +kernel
theorem dL_law_1298 : decode cL_law 1298 = .ok (.iconst 2, 1) := by decide +kernel
theorem dL_law_1299 : decode cL_law 1299 = .ok (.iadd, 1) := by decide +kernel
theorem dL_law_1300 : decode cL_law 1300 = .ok (.iaload, 1) := by decide +kernel
theorem dL_law_1301 : decode cL_law 1301 = .ok (.invokevirtual 167, 3) := by decide +kernel
theorem dL_law_1304 : decode cL_law 1304 = .ok (.if_icmp .eq 28, 3) := by decide +kernel
theorem dL_law_1307 : decode cL_law 1307 = .ok (.iconst 0, 1) := by decide +kernel
theorem dL_law_1308 : decode cL_law 1308 = .ok (.ireturn, 1) := by decide +kernel
theorem dL_law_1309 : decode cL_law 1309 = .ok (.aload_n 1, 1) := by decide +kernel
theorem dL_law_1310 : decode cL_law 1310 = .ok (.aload_n 0, 1) := by decide +kernel
theorem dL_law_1311 : decode cL_law 1311 = .ok (.iload_n 3, 1) := by decide +kernel
theorem dL_law_1312 : decode cL_law 1312 = .ok (.iconst 1, 1) := by decide +kernel
theorem dL_law_1313 : decode cL_law 1313 = .ok (.iadd, 1) := by decide +kernel
theorem dL_law_1314 : decode cL_law 1314 = .ok (.iaload, 1) := by decide +kernel
theorem dL_law_1315 : decode cL_law 1315 = .ok (.invokevirtual 168, 3) := by decide +kernel
theorem dL_law_1318 : decode cL_law 1318 = .ok (.aload_n 2, 1) := by decide +kernel
theorem dL_law_1319 : decode cL_law 1319 = .ok (.aload_n 0, 1) := by decide +kernel
theorem dL_law_1320 : decode cL_law 1320 = .ok (.iload_n 3, 1) := by decide +kernel
theorem dL_law_1321 : decode cL_law 1321 = .ok (.iconst 1, 1) := by decide +kernel
theorem dL_law_1322 : decode cL_law 1322 = .ok (.iadd, 1) := by decide +kernel
theorem dL_law_1323 : decode cL_law 1323 = .ok (.iaload, 1) := by decide +kernel
theorem dL_law_1324 : decode cL_law 1324 = .ok (.invokevirtual 171, 3) := by decide +kernel
theorem dL_law_1327 : decode cL_law 1327 = .ok (.if_icmp .eq 5, 3) := by decide +kernel
theorem dL_law_1330 : decode cL_law 1330 = .ok (.iconst 0, 1) := by decide +kernel
theorem dL_law_1331 : decode cL_law 1331 = .ok (.ireturn, 1) := by decide +kernel
theorem dL_law_1332 : decode cL_law 1332 = .ok (.iinc 3 6, 3) := by decide +kernel
theorem dL_law_1335 : decode cL_law 1335 = .ok (.goto (-1317), 3) := by decide +kernel
theorem dL_law_1338 : decode cL_law 1338 = .ok (.iconst 1, 1) := by decide +kernel
theorem dL_law_1339 : decode cL_law 1339 = .ok (.ireturn, 1) := by decide +kernel
