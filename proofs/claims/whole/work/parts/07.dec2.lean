theorem d_T_findSets_39 : decode b_T_findSets 39 = .ok (.iaload, 1) := by decide +kernel
theorem d_T_findSets_40 : decode b_T_findSets 40 = .ok (.iload 4, 2) := by decide +kernel
theorem d_T_findSets_42 : decode b_T_findSets 42 = .ok (.invokevirtual 75, 3) := by decide +kernel
theorem d_T_findSets_45 : decode b_T_findSets 45 = .ok (.istore 5, 2) := by decide +kernel
theorem d_T_findSets_47 : decode b_T_findSets 47 = .ok (.iload 5, 2) := by decide +kernel
theorem d_T_findSets_49 : decode b_T_findSets 49 = .ok (.ifCond .eq 36, 3) := by decide +kernel
theorem d_T_findSets_52 : decode b_T_findSets 52 = .ok (.aload_n 0, 1) := by decide +kernel
theorem d_T_findSets_53 : decode b_T_findSets 53 = .ok (.getfield 28, 3) := by decide +kernel
theorem d_T_findSets_56 : decode b_T_findSets 56 = .ok (.iload_n 2, 1) := by decide +kernel
theorem d_T_findSets_57 : decode b_T_findSets 57 = .ok (.iload 5, 2) := by decide +kernel
theorem d_T_findSets_59 : decode b_T_findSets 59 = .ok (.invokestatic 79, 3) := by decide +kernel
theorem d_T_findSets_62 : decode b_T_findSets 62 = .ok (.iconst (-1), 1) := by decide +kernel
theorem d_T_findSets_63 : decode b_T_findSets 63 = .ok (.if_icmp .ne 22, 3) := by decide +kernel
theorem d_T_findSets_66 : decode b_T_findSets 66 = .ok (.iload_n 2, 1) := by decide +kernel
theorem d_T_findSets_67 : decode b_T_findSets 67 = .ok (.bipush 120, 2) := by decide +kernel
theorem d_T_findSets_69 : decode b_T_findSets 69 = .ok (.if_icmp .lt 5, 3) := by decide +kernel
theorem d_T_findSets_72 : decode b_T_findSets 72 = .ok (.iconst (-1), 1) := by decide +kernel
theorem d_T_findSets_73 : decode b_T_findSets 73 = .ok (.ireturn, 1) := by decide +kernel
theorem d_T_findSets_74 : decode b_T_findSets 74 = .ok (.aload_n 0, 1) := by decide +kernel
theorem d_T_findSets_75 : decode b_T_findSets 75 = .ok (.getfield 28, 3) := by decide +kernel
theorem d_T_findSets_78 : decode b_T_findSets 78 = .ok (.iload_n 2, 1) := by decide +kernel
theorem d_T_findSets_79 : decode b_T_findSets 79 = .ok (.iload 5, 2) := by decide +kernel
theorem d_T_findSets_81 : decode b_T_findSets 81 = .ok (.iastore, 1) := by decide +kernel
theorem d_T_findSets_82 : decode b_T_findSets 82 = .ok (.iinc 2 1, 3) := by decide +kernel
theorem d_T_findSets_85 : decode b_T_findSets 85 = .ok (.iinc 4 1, 3) := by decide +kernel
theorem d_T_findSets_88 : decode b_T_findSets 88 = .ok (.goto (-64), 3) := by decide +kernel
theorem d_T_findSets_91 : decode b_T_findSets 91 = .ok (.iinc 3 1, 3) := by decide +kernel
theorem d_T_findSets_94 : decode b_T_findSets 94 = .ok (.goto (-78), 3) := by decide +kernel
theorem d_T_findSets_97 : decode b_T_findSets 97 = .ok (.iload_n 2, 1) := by decide +kernel
theorem d_T_findSets_98 : decode b_T_findSets 98 = .ok (.ireturn, 1) := by decide +kernel
theorem d_G_reach_0 : decode b_G_reach 0 = .ok (.iconst 0, 1) := by decide +kernel
theorem d_G_reach_1 : decode b_G_reach 1 = .ok (.istore_n 3, 1) := by decide +kernel
theorem d_G_reach_2 : decode b_G_reach 2 = .ok (.iconst 0, 1) := by decide +kernel
theorem d_G_reach_3 : decode b_G_reach 3 = .ok (.istore 4, 2) := by decide +kernel
theorem d_G_reach_5 : decode b_G_reach 5 = .ok (.iload 4, 2) := by decide +kernel
theorem d_G_reach_7 : decode b_G_reach 7 = .ok (.aload_n 0, 1) := by decide +kernel
theorem d_G_reach_8 : decode b_G_reach 8 = .ok (.getfield 9, 3) := by decide +kernel
theorem d_G_reach_11 : decode b_G_reach 11 = .ok (.if_icmp .ge 32, 3) := by decide +kernel
theorem d_G_reach_14 : decode b_G_reach 14 = .ok (.iload_n 1, 1) := by decide +kernel
theorem d_G_reach_15 : decode b_G_reach 15 = .ok (.iload 4, 2) := by decide +kernel
theorem d_G_reach_17 : decode b_G_reach 17 = .ok (.iushr, 1) := by decide +kernel
theorem d_G_reach_18 : decode b_G_reach 18 = .ok (.iconst 1, 1) := by decide +kernel
theorem d_G_reach_19 : decode b_G_reach 19 = .ok (.iand, 1) := by decide +kernel
theorem d_G_reach_20 : decode b_G_reach 20 = .ok (.ifCond .eq 17, 3) := by decide +kernel
theorem d_G_reach_23 : decode b_G_reach 23 = .ok (.iload_n 3, 1) := by decide +kernel
theorem d_G_reach_24 : decode b_G_reach 24 = .ok (.aload_n 0, 1) := by decide +kernel
theorem d_G_reach_25 : decode b_G_reach 25 = .ok (.getfield 21, 3) := by decide +kernel
theorem d_G_reach_28 : decode b_G_reach 28 = .ok (.iload 4, 2) := by decide +kernel
theorem d_G_reach_30 : decode b_G_reach 30 = .ok (.iload_n 2, 1) := by decide +kernel
theorem d_G_reach_31 : decode b_G_reach 31 = .ok (.invokestatic 38, 3) := by decide +kernel
theorem d_G_reach_34 : decode b_G_reach 34 = .ok (.iaload, 1) := by decide +kernel
theorem d_G_reach_35 : decode b_G_reach 35 = .ok (.ior, 1) := by decide +kernel
theorem d_G_reach_36 : decode b_G_reach 36 = .ok (.istore_n 3, 1) := by decide +kernel
theorem d_G_reach_37 : decode b_G_reach 37 = .ok (.iinc 4 1, 3) := by decide +kernel
theorem d_G_reach_40 : decode b_G_reach 40 = .ok (.goto (-35), 3) := by decide +kernel
theorem d_G_reach_43 : decode b_G_reach 43 = .ok (.iload_n 3, 1) := by decide +kernel
theorem d_G_reach_44 : decode b_G_reach 44 = .ok (.ireturn, 1) := by decide +kernel
theorem d_T_indexOf_0 : decode b_T_indexOf 0 = .ok (.iconst 0, 1) := by decide +kernel
theorem d_T_indexOf_1 : decode b_T_indexOf 1 = .ok (.istore_n 3, 1) := by decide +kernel
theorem d_T_indexOf_2 : decode b_T_indexOf 2 = .ok (.iload_n 3, 1) := by decide +kernel
theorem d_T_indexOf_3 : decode b_T_indexOf 3 = .ok (.iload_n 1, 1) := by decide +kernel
theorem d_T_indexOf_4 : decode b_T_indexOf 4 = .ok (.if_icmp .ge 18, 3) := by decide +kernel
theorem d_T_indexOf_7 : decode b_T_indexOf 7 = .ok (.aload_n 0, 1) := by decide +kernel
theorem d_T_indexOf_8 : decode b_T_indexOf 8 = .ok (.iload_n 3, 1) := by decide +kernel
theorem d_T_indexOf_9 : decode b_T_indexOf 9 = .ok (.iaload, 1) := by decide +kernel
theorem d_T_indexOf_10 : decode b_T_indexOf 10 = .ok (.iload_n 2, 1) := by decide +kernel
theorem d_T_indexOf_11 : decode b_T_indexOf 11 = .ok (.if_icmp .ne 5, 3) := by decide +kernel
theorem d_T_indexOf_14 : decode b_T_indexOf 14 = .ok (.iload_n 3, 1) := by decide +kernel
theorem d_T_indexOf_15 : decode b_T_indexOf 15 = .ok (.ireturn, 1) := by decide +kernel
theorem d_T_indexOf_16 : decode b_T_indexOf 16 = .ok (.iinc 3 1, 3) := by decide +kernel
theorem d_T_indexOf_19 : decode b_T_indexOf 19 = .ok (.goto (-17), 3) := by decide +kernel
theorem d_T_indexOf_22 : decode b_T_indexOf 22 = .ok (.iconst (-1), 1) := by decide +kernel
theorem d_T_indexOf_23 : decode b_T_indexOf 23 = .ok (.ireturn, 1) := by decide +kernel
theorem d_T_laySteps_0 : decode b_T_laySteps 0 = .ok (.iconst 0, 1) := by decide +kernel
theorem d_T_laySteps_1 : decode b_T_laySteps 1 = .ok (.istore_n 2, 1) := by decide +kernel
theorem d_T_laySteps_2 : decode b_T_laySteps 2 = .ok (.iload_n 2, 1) := by decide +kernel
theorem d_T_laySteps_3 : decode b_T_laySteps 3 = .ok (.aload_n 0, 1) := by decide +kernel
theorem d_T_laySteps_4 : decode b_T_laySteps 4 = .ok (.getfield 15, 3) := by decide +kernel
theorem d_T_laySteps_7 : decode b_T_laySteps 7 = .ok (.if_icmp .ge 71, 3) := by decide +kernel
theorem d_T_laySteps_10 : decode b_T_laySteps 10 = .ok (.iconst 0, 1) := by decide +kernel
theorem d_T_laySteps_11 : decode b_T_laySteps 11 = .ok (.istore_n 3, 1) := by decide +kernel
theorem d_T_laySteps_12 : decode b_T_laySteps 12 = .ok (.iload_n 3, 1) := by decide +kernel
theorem d_T_laySteps_13 : decode b_T_laySteps 13 = .ok (.aload_n 0, 1) := by decide +kernel
theorem d_T_laySteps_14 : decode b_T_laySteps 14 = .ok (.getfield 9, 3) := by decide +kernel
theorem d_T_laySteps_17 : decode b_T_laySteps 17 = .ok (.if_icmp .ge 55, 3) := by decide +kernel
theorem d_T_laySteps_20 : decode b_T_laySteps 20 = .ok (.aload_n 1, 1) := by decide +kernel
theorem d_T_laySteps_21 : decode b_T_laySteps 21 = .ok (.aload_n 0, 1) := by decide +kernel
theorem d_T_laySteps_22 : decode b_T_laySteps 22 = .ok (.getfield 24, 3) := by decide +kernel
theorem d_T_laySteps_25 : decode b_T_laySteps 25 = .ok (.iload_n 2, 1) := by decide +kernel
theorem d_T_laySteps_26 : decode b_T_laySteps 26 = .ok (.iaload, 1) := by decide +kernel
theorem d_T_laySteps_27 : decode b_T_laySteps 27 = .ok (.iload_n 3, 1) := by decide +kernel
theorem d_T_laySteps_28 : decode b_T_laySteps 28 = .ok (.invokevirtual 75, 3) := by decide +kernel
theorem d_T_laySteps_31 : decode b_T_laySteps 31 = .ok (.istore 4, 2) := by decide +kernel
theorem d_T_laySteps_33 : decode b_T_laySteps 33 = .ok (.aload_n 0, 1) := by decide +kernel
theorem d_T_laySteps_34 : decode b_T_laySteps 34 = .ok (.getfield 31, 3) := by decide +kernel
theorem d_T_laySteps_37 : decode b_T_laySteps 37 = .ok (.iload_n 2, 1) := by decide +kernel
theorem d_T_laySteps_38 : decode b_T_laySteps 38 = .ok (.bipush 40, 2) := by decide +kernel
theorem d_T_laySteps_40 : decode b_T_laySteps 40 = .ok (.imul, 1) := by decide +kernel
theorem d_T_laySteps_41 : decode b_T_laySteps 41 = .ok (.iload_n 3, 1) := by decide +kernel
theorem d_T_laySteps_42 : decode b_T_laySteps 42 = .ok (.iadd, 1) := by decide +kernel
theorem d_T_laySteps_43 : decode b_T_laySteps 43 = .ok (.iload 4, 2) := by decide +kernel
theorem d_T_laySteps_45 : decode b_T_laySteps 45 = .ok (.ifCond .ne 7, 3) := by decide +kernel
theorem d_T_laySteps_48 : decode b_T_laySteps 48 = .ok (.iconst (-1), 1) := by decide +kernel
theorem d_T_laySteps_49 : decode b_T_laySteps 49 = .ok (.goto 16, 3) := by decide +kernel
theorem d_T_laySteps_52 : decode b_T_laySteps 52 = .ok (.aload_n 0, 1) := by decide +kernel
theorem d_T_laySteps_53 : decode b_T_laySteps 53 = .ok (.getfield 24, 3) := by decide +kernel
theorem d_T_laySteps_56 : decode b_T_laySteps 56 = .ok (.aload_n 0, 1) := by decide +kernel
theorem d_T_laySteps_57 : decode b_T_laySteps 57 = .ok (.getfield 15, 3) := by decide +kernel
theorem d_T_laySteps_60 : decode b_T_laySteps 60 = .ok (.iload 4, 2) := by decide +kernel
theorem d_T_laySteps_62 : decode b_T_laySteps 62 = .ok (.invokestatic 79, 3) := by decide +kernel
theorem d_T_laySteps_65 : decode b_T_laySteps 65 = .ok (.iastore, 1) := by decide +kernel
theorem d_T_laySteps_66 : decode b_T_laySteps 66 = .ok (.iinc 3 1, 3) := by decide +kernel
theorem d_T_laySteps_69 : decode b_T_laySteps 69 = .ok (.goto (-57), 3) := by decide +kernel
theorem d_T_laySteps_72 : decode b_T_laySteps 72 = .ok (.iinc 2 1, 3) := by decide +kernel
theorem d_T_laySteps_75 : decode b_T_laySteps 75 = .ok (.goto (-73), 3) := by decide +kernel
theorem d_T_laySteps_78 : decode b_T_laySteps 78 = .ok (.return_, 1) := by decide +kernel
theorem d_T_partSets_0 : decode b_T_partSets 0 = .ok (.aload_n 0, 1) := by decide +kernel
theorem d_T_partSets_1 : decode b_T_partSets 1 = .ok (.getfield 34, 3) := by decide +kernel
theorem d_T_partSets_4 : decode b_T_partSets 4 = .ok (.iconst 0, 1) := by decide +kernel
theorem d_T_partSets_5 : decode b_T_partSets 5 = .ok (.aload_n 0, 1) := by decide +kernel
theorem d_T_partSets_6 : decode b_T_partSets 6 = .ok (.getfield 15, 3) := by decide +kernel
theorem d_T_partSets_9 : decode b_T_partSets 9 = .ok (.iconst 0, 1) := by decide +kernel
theorem d_T_partSets_10 : decode b_T_partSets 10 = .ok (.invokestatic 83, 3) := by decide +kernel
theorem d_T_partSets_13 : decode b_T_partSets 13 = .ok (.aload_n 0, 1) := by decide +kernel
theorem d_T_partSets_14 : decode b_T_partSets 14 = .ok (.iconst 0, 1) := by decide +kernel
theorem d_T_partSets_15 : decode b_T_partSets 15 = .ok (.putfield 21, 3) := by decide +kernel
theorem d_T_partSets_18 : decode b_T_partSets 18 = .ok (.iconst 1, 1) := by decide +kernel
theorem d_T_partSets_19 : decode b_T_partSets 19 = .ok (.istore_n 1, 1) := by decide +kernel
theorem d_T_partSets_20 : decode b_T_partSets 20 = .ok (.iload_n 1, 1) := by decide +kernel
theorem d_T_partSets_21 : decode b_T_partSets 21 = .ok (.aload_n 0, 1) := by decide +kernel
theorem d_T_partSets_22 : decode b_T_partSets 22 = .ok (.getfield 15, 3) := by decide +kernel
theorem d_T_partSets_25 : decode b_T_partSets 25 = .ok (.if_icmp .ge 23, 3) := by decide +kernel
theorem d_T_partSets_28 : decode b_T_partSets 28 = .ok (.aload_n 0, 1) := by decide +kernel
theorem d_T_partSets_29 : decode b_T_partSets 29 = .ok (.iload_n 1, 1) := by decide +kernel
theorem d_T_partSets_30 : decode b_T_partSets 30 = .ok (.invokevirtual 89, 3) := by decide +kernel
theorem d_T_partSets_33 : decode b_T_partSets 33 = .ok (.ifCond .ne 4, 3) := by decide +kernel
theorem d_T_partSets_36 : decode b_T_partSets 36 = .ok (.return_, 1) := by decide +kernel
theorem d_T_partSets_37 : decode b_T_partSets 37 = .ok (.aload_n 0, 1) := by decide +kernel
theorem d_T_partSets_38 : decode b_T_partSets 38 = .ok (.iload_n 1, 1) := by decide +kernel
theorem d_T_partSets_39 : decode b_T_partSets 39 = .ok (.putfield 21, 3) := by decide +kernel
theorem d_T_partSets_42 : decode b_T_partSets 42 = .ok (.iinc 1 1, 3) := by decide +kernel
theorem d_T_partSets_45 : decode b_T_partSets 45 = .ok (.goto (-25), 3) := by decide +kernel
theorem d_T_partSets_48 : decode b_T_partSets 48 = .ok (.return_, 1) := by decide +kernel
theorem d_A_fill4_0 : decode b_A_fill4 0 = .ok (.aload_n 0, 1) := by decide +kernel
theorem d_A_fill4_1 : decode b_A_fill4 1 = .ok (.arraylength, 1) := by decide +kernel
theorem d_A_fill4_2 : decode b_A_fill4 2 = .ok (.iload_n 1, 1) := by decide +kernel
theorem d_A_fill4_3 : decode b_A_fill4 3 = .ok (.iload_n 2, 1) := by decide +kernel
theorem d_A_fill4_4 : decode b_A_fill4 4 = .ok (.invokestatic 13, 3) := by decide +kernel
theorem d_A_fill4_7 : decode b_A_fill4 7 = .ok (.iload_n 1, 1) := by decide +kernel
theorem d_A_fill4_8 : decode b_A_fill4 8 = .ok (.istore 4, 2) := by decide +kernel
theorem d_A_fill4_10 : decode b_A_fill4 10 = .ok (.iload 4, 2) := by decide +kernel
theorem d_A_fill4_12 : decode b_A_fill4 12 = .ok (.iload_n 2, 1) := by decide +kernel
theorem d_A_fill4_13 : decode b_A_fill4 13 = .ok (.if_icmp .ge 14, 3) := by decide +kernel
theorem d_A_fill4_16 : decode b_A_fill4 16 = .ok (.aload_n 0, 1) := by decide +kernel
theorem d_A_fill4_17 : decode b_A_fill4 17 = .ok (.iload 4, 2) := by decide +kernel
theorem d_A_fill4_19 : decode b_A_fill4 19 = .ok (.iload_n 3, 1) := by decide +kernel
theorem d_A_fill4_20 : decode b_A_fill4 20 = .ok (.iastore, 1) := by decide +kernel
theorem d_A_fill4_21 : decode b_A_fill4 21 = .ok (.iinc 4 1, 3) := by decide +kernel
theorem d_A_fill4_24 : decode b_A_fill4 24 = .ok (.goto (-14), 3) := by decide +kernel
theorem d_A_fill4_27 : decode b_A_fill4 27 = .ok (.return_, 1) := by decide +kernel
theorem d_A_rangeCheck3_0 : decode b_A_rangeCheck3 0 = .ok (.iload_n 1, 1) := by decide +kernel
theorem d_A_rangeCheck3_1 : decode b_A_rangeCheck3 1 = .ok (.iload_n 2, 1) := by decide +kernel
theorem d_A_rangeCheck3_2 : decode b_A_rangeCheck3 2 = .ok (.if_icmp .le 44, 3) := by decide +kernel
theorem d_A_rangeCheck3_46 : decode b_A_rangeCheck3 46 = .ok (.iload_n 1, 1) := by decide +kernel
theorem d_A_rangeCheck3_47 : decode b_A_rangeCheck3 47 = .ok (.ifCond .ge 12, 3) := by decide +kernel
theorem d_A_rangeCheck3_59 : decode b_A_rangeCheck3 59 = .ok (.iload_n 2, 1) := by decide +kernel
theorem d_A_rangeCheck3_60 : decode b_A_rangeCheck3 60 = .ok (.iload_n 0, 1) := by decide +kernel
theorem d_A_rangeCheck3_61 : decode b_A_rangeCheck3 61 = .ok (.if_icmp .le 12, 3) := by decide +kernel
theorem d_A_rangeCheck3_73 : decode b_A_rangeCheck3 73 = .ok (.return_, 1) := by decide +kernel
theorem d_T_partOnce_0 : decode b_T_partOnce 0 = .ok (.aload_n 0, 1) := by decide +kernel
theorem d_T_partOnce_1 : decode b_T_partOnce 1 = .ok (.getfield 34, 3) := by decide +kernel
theorem d_T_partOnce_4 : decode b_T_partOnce 4 = .ok (.iconst 0, 1) := by decide +kernel
theorem d_T_partOnce_5 : decode b_T_partOnce 5 = .ok (.aload_n 0, 1) := by decide +kernel
theorem d_T_partOnce_6 : decode b_T_partOnce 6 = .ok (.getfield 37, 3) := by decide +kernel
theorem d_T_partOnce_9 : decode b_T_partOnce 9 = .ok (.iconst 0, 1) := by decide +kernel
theorem d_T_partOnce_10 : decode b_T_partOnce 10 = .ok (.aload_n 0, 1) := by decide +kernel
theorem d_T_partOnce_11 : decode b_T_partOnce 11 = .ok (.getfield 15, 3) := by decide +kernel
theorem d_T_partOnce_14 : decode b_T_partOnce 14 = .ok (.invokestatic 56, 3) := by decide +kernel
theorem d_T_partOnce_17 : decode b_T_partOnce 17 = .ok (.iconst 0, 1) := by decide +kernel
theorem d_T_partOnce_18 : decode b_T_partOnce 18 = .ok (.istore_n 2, 1) := by decide +kernel
theorem d_T_partOnce_19 : decode b_T_partOnce 19 = .ok (.iconst 0, 1) := by decide +kernel
theorem d_T_partOnce_20 : decode b_T_partOnce 20 = .ok (.istore_n 3, 1) := by decide +kernel
theorem d_T_partOnce_21 : decode b_T_partOnce 21 = .ok (.iload_n 3, 1) := by decide +kernel
theorem d_T_partOnce_22 : decode b_T_partOnce 22 = .ok (.aload_n 0, 1) := by decide +kernel
theorem d_T_partOnce_23 : decode b_T_partOnce 23 = .ok (.getfield 15, 3) := by decide +kernel
theorem d_T_partOnce_26 : decode b_T_partOnce 26 = .ok (.if_icmp .ge 48, 3) := by decide +kernel
theorem d_T_partOnce_29 : decode b_T_partOnce 29 = .ok (.aload_n 0, 1) := by decide +kernel
theorem d_T_partOnce_30 : decode b_T_partOnce 30 = .ok (.getfield 34, 3) := by decide +kernel
theorem d_T_partOnce_33 : decode b_T_partOnce 33 = .ok (.iload_n 3, 1) := by decide +kernel
theorem d_T_partOnce_34 : decode b_T_partOnce 34 = .ok (.aload_n 0, 1) := by decide +kernel
theorem d_T_partOnce_35 : decode b_T_partOnce 35 = .ok (.iload_n 3, 1) := by decide +kernel
theorem d_T_partOnce_36 : decode b_T_partOnce 36 = .ok (.invokevirtual 93, 3) := by decide +kernel
theorem d_T_partOnce_39 : decode b_T_partOnce 39 = .ok (.iastore, 1) := by decide +kernel
theorem d_T_partOnce_40 : decode b_T_partOnce 40 = .ok (.aload_n 0, 1) := by decide +kernel
theorem d_T_partOnce_41 : decode b_T_partOnce 41 = .ok (.getfield 34, 3) := by decide +kernel
theorem d_T_partOnce_44 : decode b_T_partOnce 44 = .ok (.iload_n 3, 1) := by decide +kernel
theorem d_T_partOnce_45 : decode b_T_partOnce 45 = .ok (.iaload, 1) := by decide +kernel
theorem d_T_partOnce_46 : decode b_T_partOnce 46 = .ok (.iload_n 3, 1) := by decide +kernel
theorem d_T_partOnce_47 : decode b_T_partOnce 47 = .ok (.if_icmp .ne 21, 3) := by decide +kernel
theorem d_T_partOnce_50 : decode b_T_partOnce 50 = .ok (.aload_n 0, 1) := by decide +kernel
theorem d_T_partOnce_51 : decode b_T_partOnce 51 = .ok (.getfield 37, 3) := by decide +kernel
theorem d_T_partOnce_54 : decode b_T_partOnce 54 = .ok (.iload_n 3, 1) := by decide +kernel
theorem d_T_partOnce_55 : decode b_T_partOnce 55 = .ok (.iaload, 1) := by decide +kernel
theorem d_T_partOnce_56 : decode b_T_partOnce 56 = .ok (.iload_n 3, 1) := by decide +kernel
theorem d_T_partOnce_57 : decode b_T_partOnce 57 = .ok (.if_icmp .eq 11, 3) := by decide +kernel
theorem d_T_partOnce_60 : decode b_T_partOnce 60 = .ok (.aload_n 0, 1) := by decide +kernel
theorem d_T_partOnce_61 : decode b_T_partOnce 61 = .ok (.iload_n 3, 1) := by decide +kernel
theorem d_T_partOnce_62 : decode b_T_partOnce 62 = .ok (.iload_n 1, 1) := by decide +kernel
theorem d_T_partOnce_63 : decode b_T_partOnce 63 = .ok (.invokevirtual 97, 3) := by decide +kernel
theorem d_T_partOnce_66 : decode b_T_partOnce 66 = .ok (.iconst 1, 1) := by decide +kernel
theorem d_T_partOnce_67 : decode b_T_partOnce 67 = .ok (.istore_n 2, 1) := by decide +kernel
theorem d_T_partOnce_68 : decode b_T_partOnce 68 = .ok (.iinc 3 1, 3) := by decide +kernel
theorem d_T_partOnce_71 : decode b_T_partOnce 71 = .ok (.goto (-50), 3) := by decide +kernel
theorem d_T_partOnce_74 : decode b_T_partOnce 74 = .ok (.iload_n 2, 1) := by decide +kernel
theorem d_T_partOnce_75 : decode b_T_partOnce 75 = .ok (.ireturn, 1) := by decide +kernel
theorem d_T_findLeader_0 : decode b_T_findLeader 0 = .ok (.aload_n 0, 1) := by decide +kernel
theorem d_T_findLeader_1 : decode b_T_findLeader 1 = .ok (.getfield 37, 3) := by decide +kernel
theorem d_T_findLeader_4 : decode b_T_findLeader 4 = .ok (.iload_n 1, 1) := by decide +kernel
theorem d_T_findLeader_5 : decode b_T_findLeader 5 = .ok (.iaload, 1) := by decide +kernel
theorem d_T_findLeader_6 : decode b_T_findLeader 6 = .ok (.istore_n 2, 1) := by decide +kernel
theorem d_T_findLeader_7 : decode b_T_findLeader 7 = .ok (.iload_n 2, 1) := by decide +kernel
theorem d_T_findLeader_8 : decode b_T_findLeader 8 = .ok (.istore_n 3, 1) := by decide +kernel
theorem d_T_findLeader_9 : decode b_T_findLeader 9 = .ok (.iload_n 3, 1) := by decide +kernel
theorem d_T_findLeader_10 : decode b_T_findLeader 10 = .ok (.iload_n 1, 1) := by decide +kernel
theorem d_T_findLeader_11 : decode b_T_findLeader 11 = .ok (.if_icmp .ge 40, 3) := by decide +kernel
theorem d_T_findLeader_14 : decode b_T_findLeader 14 = .ok (.aload_n 0, 1) := by decide +kernel
theorem d_T_findLeader_15 : decode b_T_findLeader 15 = .ok (.getfield 34, 3) := by decide +kernel
theorem d_T_findLeader_18 : decode b_T_findLeader 18 = .ok (.iload_n 3, 1) := by decide +kernel
theorem d_T_findLeader_19 : decode b_T_findLeader 19 = .ok (.iaload, 1) := by decide +kernel
theorem d_T_findLeader_20 : decode b_T_findLeader 20 = .ok (.iload_n 3, 1) := by decide +kernel
theorem d_T_findLeader_21 : decode b_T_findLeader 21 = .ok (.if_icmp .ne 24, 3) := by decide +kernel
theorem d_T_findLeader_24 : decode b_T_findLeader 24 = .ok (.aload_n 0, 1) := by decide +kernel
theorem d_T_findLeader_25 : decode b_T_findLeader 25 = .ok (.getfield 37, 3) := by decide +kernel
theorem d_T_findLeader_28 : decode b_T_findLeader 28 = .ok (.iload_n 3, 1) := by decide +kernel
theorem d_T_findLeader_29 : decode b_T_findLeader 29 = .ok (.iaload, 1) := by decide +kernel
theorem d_T_findLeader_30 : decode b_T_findLeader 30 = .ok (.iload_n 2, 1) := by decide +kernel
theorem d_T_findLeader_31 : decode b_T_findLeader 31 = .ok (.if_icmp .ne 14, 3) := by decide +kernel
theorem d_T_findLeader_34 : decode b_T_findLeader 34 = .ok (.aload_n 0, 1) := by decide +kernel
theorem d_T_findLeader_35 : decode b_T_findLeader 35 = .ok (.iload_n 3, 1) := by decide +kernel
theorem d_T_findLeader_36 : decode b_T_findLeader 36 = .ok (.iload_n 1, 1) := by decide +kernel
theorem d_T_findLeader_37 : decode b_T_findLeader 37 = .ok (.invokevirtual 101, 3) := by decide +kernel
theorem d_T_findLeader_40 : decode b_T_findLeader 40 = .ok (.ifCond .eq 5, 3) := by decide +kernel
theorem d_T_findLeader_43 : decode b_T_findLeader 43 = .ok (.iload_n 3, 1) := by decide +kernel
theorem d_T_findLeader_44 : decode b_T_findLeader 44 = .ok (.ireturn, 1) := by decide +kernel
theorem d_T_findLeader_45 : decode b_T_findLeader 45 = .ok (.iinc 3 1, 3) := by decide +kernel
theorem d_T_findLeader_48 : decode b_T_findLeader 48 = .ok (.goto (-39), 3) := by decide +kernel
theorem d_T_findLeader_51 : decode b_T_findLeader 51 = .ok (.iload_n 1, 1) := by decide +kernel
theorem d_T_findLeader_52 : decode b_T_findLeader 52 = .ok (.ireturn, 1) := by decide +kernel
theorem d_T_goAlike_0 : decode b_T_goAlike 0 = .ok (.iconst 0, 1) := by decide +kernel
theorem d_T_goAlike_1 : decode b_T_goAlike 1 = .ok (.istore_n 3, 1) := by decide +kernel
theorem d_T_goAlike_2 : decode b_T_goAlike 2 = .ok (.iload_n 3, 1) := by decide +kernel
theorem d_T_goAlike_3 : decode b_T_goAlike 3 = .ok (.aload_n 0, 1) := by decide +kernel
theorem d_T_goAlike_4 : decode b_T_goAlike 4 = .ok (.getfield 9, 3) := by decide +kernel
theorem d_T_goAlike_7 : decode b_T_goAlike 7 = .ok (.if_icmp .ge 34, 3) := by decide +kernel
theorem d_T_goAlike_10 : decode b_T_goAlike 10 = .ok (.aload_n 0, 1) := by decide +kernel
theorem d_T_goAlike_11 : decode b_T_goAlike 11 = .ok (.aload_n 0, 1) := by decide +kernel
theorem d_T_goAlike_12 : decode b_T_goAlike 12 = .ok (.getfield 37, 3) := by decide +kernel
theorem d_T_goAlike_15 : decode b_T_goAlike 15 = .ok (.iload_n 1, 1) := by decide +kernel
theorem d_T_goAlike_16 : decode b_T_goAlike 16 = .ok (.iload_n 3, 1) := by decide +kernel
theorem d_T_goAlike_17 : decode b_T_goAlike 17 = .ok (.invokevirtual 105, 3) := by decide +kernel
theorem d_T_goAlike_20 : decode b_T_goAlike 20 = .ok (.aload_n 0, 1) := by decide +kernel
theorem d_T_goAlike_21 : decode b_T_goAlike 21 = .ok (.aload_n 0, 1) := by decide +kernel
theorem d_T_goAlike_22 : decode b_T_goAlike 22 = .ok (.getfield 37, 3) := by decide +kernel
theorem d_T_goAlike_25 : decode b_T_goAlike 25 = .ok (.iload_n 2, 1) := by decide +kernel
theorem d_T_goAlike_26 : decode b_T_goAlike 26 = .ok (.iload_n 3, 1) := by decide +kernel
theorem d_T_goAlike_27 : decode b_T_goAlike 27 = .ok (.invokevirtual 105, 3) := by decide +kernel
theorem d_T_goAlike_30 : decode b_T_goAlike 30 = .ok (.if_icmp .eq 5, 3) := by decide +kernel
theorem d_T_goAlike_33 : decode b_T_goAlike 33 = .ok (.iconst 0, 1) := by decide +kernel
theorem d_T_goAlike_34 : decode b_T_goAlike 34 = .ok (.ireturn, 1) := by decide +kernel
theorem d_T_goAlike_35 : decode b_T_goAlike 35 = .ok (.iinc 3 1, 3) := by decide +kernel
theorem d_T_goAlike_38 : decode b_T_goAlike 38 = .ok (.goto (-36), 3) := by decide +kernel
theorem d_T_goAlike_41 : decode b_T_goAlike 41 = .ok (.iconst 1, 1) := by decide +kernel
theorem d_T_goAlike_42 : decode b_T_goAlike 42 = .ok (.ireturn, 1) := by decide +kernel
theorem d_T_leaderAfter_0 : decode b_T_leaderAfter 0 = .ok (.aload_n 0, 1) := by decide +kernel
theorem d_T_leaderAfter_1 : decode b_T_leaderAfter 1 = .ok (.getfield 31, 3) := by decide +kernel
theorem d_T_leaderAfter_4 : decode b_T_leaderAfter 4 = .ok (.iload_n 2, 1) := by decide +kernel
theorem d_T_leaderAfter_5 : decode b_T_leaderAfter 5 = .ok (.bipush 40, 2) := by decide +kernel
theorem d_T_leaderAfter_7 : decode b_T_leaderAfter 7 = .ok (.imul, 1) := by decide +kernel
theorem d_T_leaderAfter_8 : decode b_T_leaderAfter 8 = .ok (.iload_n 3, 1) := by decide +kernel
theorem d_T_leaderAfter_9 : decode b_T_leaderAfter 9 = .ok (.iadd, 1) := by decide +kernel
theorem d_T_leaderAfter_10 : decode b_T_leaderAfter 10 = .ok (.iaload, 1) := by decide +kernel
theorem d_T_leaderAfter_11 : decode b_T_leaderAfter 11 = .ok (.istore 4, 2) := by decide +kernel
theorem d_T_leaderAfter_13 : decode b_T_leaderAfter 13 = .ok (.iload 4, 2) := by decide +kernel
theorem d_T_leaderAfter_15 : decode b_T_leaderAfter 15 = .ok (.iconst (-1), 1) := by decide +kernel
theorem d_T_leaderAfter_16 : decode b_T_leaderAfter 16 = .ok (.if_icmp .ne 7, 3) := by decide +kernel
theorem d_T_leaderAfter_19 : decode b_T_leaderAfter 19 = .ok (.iconst (-1), 1) := by decide +kernel
theorem d_T_leaderAfter_20 : decode b_T_leaderAfter 20 = .ok (.goto 7, 3) := by decide +kernel
theorem d_T_leaderAfter_23 : decode b_T_leaderAfter 23 = .ok (.aload_n 1, 1) := by decide +kernel
theorem d_T_leaderAfter_24 : decode b_T_leaderAfter 24 = .ok (.iload 4, 2) := by decide +kernel
theorem d_T_leaderAfter_26 : decode b_T_leaderAfter 26 = .ok (.iaload, 1) := by decide +kernel
theorem d_T_leaderAfter_27 : decode b_T_leaderAfter 27 = .ok (.ireturn, 1) := by decide +kernel
theorem d_T_measure_0 : decode b_T_measure 0 = .ok (.aload_n 0, 1) := by decide +kernel
theorem d_T_measure_1 : decode b_T_measure 1 = .ok (.getfield 37, 3) := by decide +kernel
theorem d_T_measure_4 : decode b_T_measure 4 = .ok (.iload_n 1, 1) := by decide +kernel
theorem d_T_measure_5 : decode b_T_measure 5 = .ok (.iaload, 1) := by decide +kernel
theorem d_T_measure_6 : decode b_T_measure 6 = .ok (.istore_n 3, 1) := by decide +kernel
theorem d_T_measure_7 : decode b_T_measure 7 = .ok (.iconst 0, 1) := by decide +kernel
theorem d_T_measure_8 : decode b_T_measure 8 = .ok (.istore 4, 2) := by decide +kernel
theorem d_T_measure_10 : decode b_T_measure 10 = .ok (.iload 4, 2) := by decide +kernel
theorem d_T_measure_12 : decode b_T_measure 12 = .ok (.aload_n 0, 1) := by decide +kernel
theorem d_T_measure_13 : decode b_T_measure 13 = .ok (.getfield 15, 3) := by decide +kernel
theorem d_T_measure_16 : decode b_T_measure 16 = .ok (.if_icmp .ge 59, 3) := by decide +kernel
theorem d_T_measure_19 : decode b_T_measure 19 = .ok (.aload_n 0, 1) := by decide +kernel
theorem d_T_measure_20 : decode b_T_measure 20 = .ok (.getfield 34, 3) := by decide +kernel
theorem d_T_measure_23 : decode b_T_measure 23 = .ok (.iload 4, 2) := by decide +kernel
theorem d_T_measure_25 : decode b_T_measure 25 = .ok (.iaload, 1) := by decide +kernel
theorem d_T_measure_26 : decode b_T_measure 26 = .ok (.iload 4, 2) := by decide +kernel
theorem d_T_measure_28 : decode b_T_measure 28 = .ok (.if_icmp .ne 41, 3) := by decide +kernel
theorem d_T_measure_31 : decode b_T_measure 31 = .ok (.iload 4, 2) := by decide +kernel
theorem d_T_measure_33 : decode b_T_measure 33 = .ok (.iload_n 1, 1) := by decide +kernel
theorem d_T_measure_34 : decode b_T_measure 34 = .ok (.if_icmp .eq 35, 3) := by decide +kernel
theorem d_T_measure_37 : decode b_T_measure 37 = .ok (.aload_n 0, 1) := by decide +kernel
theorem d_T_measure_38 : decode b_T_measure 38 = .ok (.getfield 46, 3) := by decide +kernel
theorem d_T_measure_41 : decode b_T_measure 41 = .ok (.iload 4, 2) := by decide +kernel
theorem d_T_measure_43 : decode b_T_measure 43 = .ok (.iload_n 1, 1) := by decide +kernel
theorem d_T_measure_44 : decode b_T_measure 44 = .ok (.invokestatic 108, 3) := by decide +kernel
theorem d_T_measure_47 : decode b_T_measure 47 = .ok (.iload 4, 2) := by decide +kernel
theorem d_T_measure_49 : decode b_T_measure 49 = .ok (.iload_n 3, 1) := by decide +kernel
theorem d_T_measure_50 : decode b_T_measure 50 = .ok (.if_icmp .ne 7, 3) := by decide +kernel
theorem d_T_measure_53 : decode b_T_measure 53 = .ok (.iload_n 2, 1) := by decide +kernel
theorem d_T_measure_54 : decode b_T_measure 54 = .ok (.goto 14, 3) := by decide +kernel
theorem d_T_measure_57 : decode b_T_measure 57 = .ok (.aload_n 0, 1) := by decide +kernel
theorem d_T_measure_58 : decode b_T_measure 58 = .ok (.getfield 46, 3) := by decide +kernel
theorem d_T_measure_61 : decode b_T_measure 61 = .ok (.iload 4, 2) := by decide +kernel
theorem d_T_measure_63 : decode b_T_measure 63 = .ok (.iload_n 3, 1) := by decide +kernel
theorem d_T_measure_64 : decode b_T_measure 64 = .ok (.invokestatic 108, 3) := by decide +kernel
theorem d_T_measure_67 : decode b_T_measure 67 = .ok (.iaload, 1) := by decide +kernel
theorem d_T_measure_68 : decode b_T_measure 68 = .ok (.iastore, 1) := by decide +kernel
theorem d_T_measure_69 : decode b_T_measure 69 = .ok (.iinc 4 1, 3) := by decide +kernel
theorem d_T_measure_72 : decode b_T_measure 72 = .ok (.goto (-62), 3) := by decide +kernel
theorem d_T_measure_75 : decode b_T_measure 75 = .ok (.return_, 1) := by decide +kernel
theorem d_T_pair_0 : decode b_T_pair 0 = .ok (.iload_n 0, 1) := by decide +kernel
theorem d_T_pair_1 : decode b_T_pair 1 = .ok (.iload_n 1, 1) := by decide +kernel
theorem d_T_pair_2 : decode b_T_pair 2 = .ok (.invokestatic 111, 3) := by decide +kernel
theorem d_T_pair_5 : decode b_T_pair 5 = .ok (.istore_n 2, 1) := by decide +kernel
theorem d_T_pair_6 : decode b_T_pair 6 = .ok (.iload_n 2, 1) := by decide +kernel
theorem d_T_pair_7 : decode b_T_pair 7 = .ok (.iload_n 2, 1) := by decide +kernel
theorem d_T_pair_8 : decode b_T_pair 8 = .ok (.iconst 1, 1) := by decide +kernel
theorem d_T_pair_9 : decode b_T_pair 9 = .ok (.isub, 1) := by decide +kernel
theorem d_T_pair_10 : decode b_T_pair 10 = .ok (.imul, 1) := by decide +kernel
theorem d_T_pair_11 : decode b_T_pair 11 = .ok (.iconst 2, 1) := by decide +kernel
theorem d_T_pair_12 : decode b_T_pair 12 = .ok (.idiv, 1) := by decide +kernel
theorem d_T_pair_13 : decode b_T_pair 13 = .ok (.iload_n 0, 1) := by decide +kernel
theorem d_T_pair_14 : decode b_T_pair 14 = .ok (.iload_n 1, 1) := by decide +kernel
theorem d_T_pair_15 : decode b_T_pair 15 = .ok (.invokestatic 116, 3) := by decide +kernel
theorem d_T_pair_18 : decode b_T_pair 18 = .ok (.iadd, 1) := by decide +kernel
theorem d_T_pair_19 : decode b_T_pair 19 = .ok (.ireturn, 1) := by decide +kernel
theorem d_T_numberStates_0 : decode b_T_numberStates 0 = .ok (.aload_n 0, 1) := by decide +kernel
theorem d_T_numberStates_1 : decode b_T_numberStates 1 = .ok (.iconst 0, 1) := by decide +kernel
theorem d_T_numberStates_2 : decode b_T_numberStates 2 = .ok (.putfield 18, 3) := by decide +kernel
theorem d_T_numberStates_5 : decode b_T_numberStates 5 = .ok (.iconst 0, 1) := by decide +kernel
theorem d_T_numberStates_6 : decode b_T_numberStates 6 = .ok (.istore_n 1, 1) := by decide +kernel
theorem d_T_numberStates_7 : decode b_T_numberStates 7 = .ok (.iload_n 1, 1) := by decide +kernel
theorem d_T_numberStates_8 : decode b_T_numberStates 8 = .ok (.aload_n 0, 1) := by decide +kernel
theorem d_T_numberStates_9 : decode b_T_numberStates 9 = .ok (.getfield 15, 3) := by decide +kernel
theorem d_T_numberStates_12 : decode b_T_numberStates 12 = .ok (.if_icmp .ge 69, 3) := by decide +kernel
theorem d_T_numberStates_15 : decode b_T_numberStates 15 = .ok (.aload_n 0, 1) := by decide +kernel
theorem d_T_numberStates_16 : decode b_T_numberStates 16 = .ok (.getfield 34, 3) := by decide +kernel
theorem d_T_numberStates_19 : decode b_T_numberStates 19 = .ok (.iload_n 1, 1) := by decide +kernel
theorem d_T_numberStates_20 : decode b_T_numberStates 20 = .ok (.iaload, 1) := by decide +kernel
theorem d_T_numberStates_21 : decode b_T_numberStates 21 = .ok (.iload_n 1, 1) := by decide +kernel
theorem d_T_numberStates_22 : decode b_T_numberStates 22 = .ok (.if_icmp .ne 36, 3) := by decide +kernel
theorem d_T_numberStates_25 : decode b_T_numberStates 25 = .ok (.aload_n 0, 1) := by decide +kernel
theorem d_T_numberStates_26 : decode b_T_numberStates 26 = .ok (.getfield 40, 3) := by decide +kernel
theorem d_T_numberStates_29 : decode b_T_numberStates 29 = .ok (.iload_n 1, 1) := by decide +kernel
theorem d_T_numberStates_30 : decode b_T_numberStates 30 = .ok (.aload_n 0, 1) := by decide +kernel
theorem d_T_numberStates_31 : decode b_T_numberStates 31 = .ok (.getfield 18, 3) := by decide +kernel
theorem d_T_numberStates_34 : decode b_T_numberStates 34 = .ok (.iastore, 1) := by decide +kernel
theorem d_T_numberStates_35 : decode b_T_numberStates 35 = .ok (.aload_n 0, 1) := by decide +kernel
theorem d_T_numberStates_36 : decode b_T_numberStates 36 = .ok (.getfield 43, 3) := by decide +kernel
theorem d_T_numberStates_39 : decode b_T_numberStates 39 = .ok (.aload_n 0, 1) := by decide +kernel
theorem d_T_numberStates_40 : decode b_T_numberStates 40 = .ok (.getfield 18, 3) := by decide +kernel
theorem d_T_numberStates_43 : decode b_T_numberStates 43 = .ok (.iload_n 1, 1) := by decide +kernel
theorem d_T_numberStates_44 : decode b_T_numberStates 44 = .ok (.iastore, 1) := by decide +kernel
theorem d_T_numberStates_45 : decode b_T_numberStates 45 = .ok (.aload_n 0, 1) := by decide +kernel
theorem d_T_numberStates_46 : decode b_T_numberStates 46 = .ok (.dup, 1) := by decide +kernel
theorem d_T_numberStates_47 : decode b_T_numberStates 47 = .ok (.getfield 18, 3) := by decide +kernel
theorem d_T_numberStates_50 : decode b_T_numberStates 50 = .ok (.iconst 1, 1) := by decide +kernel
theorem d_T_numberStates_51 : decode b_T_numberStates 51 = .ok (.iadd, 1) := by decide +kernel
theorem d_T_numberStates_52 : decode b_T_numberStates 52 = .ok (.putfield 18, 3) := by decide +kernel
theorem d_T_numberStates_55 : decode b_T_numberStates 55 = .ok (.goto 20, 3) := by decide +kernel
theorem d_T_numberStates_58 : decode b_T_numberStates 58 = .ok (.aload_n 0, 1) := by decide +kernel
theorem d_T_numberStates_59 : decode b_T_numberStates 59 = .ok (.getfield 40, 3) := by decide +kernel
theorem d_T_numberStates_62 : decode b_T_numberStates 62 = .ok (.iload_n 1, 1) := by decide +kernel
theorem d_T_numberStates_63 : decode b_T_numberStates 63 = .ok (.aload_n 0, 1) := by decide +kernel
theorem d_T_numberStates_64 : decode b_T_numberStates 64 = .ok (.getfield 40, 3) := by decide +kernel
theorem d_T_numberStates_67 : decode b_T_numberStates 67 = .ok (.aload_n 0, 1) := by decide +kernel
theorem d_T_numberStates_68 : decode b_T_numberStates 68 = .ok (.getfield 34, 3) := by decide +kernel
theorem d_T_numberStates_71 : decode b_T_numberStates 71 = .ok (.iload_n 1, 1) := by decide +kernel
theorem d_T_numberStates_72 : decode b_T_numberStates 72 = .ok (.iaload, 1) := by decide +kernel
theorem d_T_numberStates_73 : decode b_T_numberStates 73 = .ok (.iaload, 1) := by decide +kernel
theorem d_T_numberStates_74 : decode b_T_numberStates 74 = .ok (.iastore, 1) := by decide +kernel
theorem d_T_numberStates_75 : decode b_T_numberStates 75 = .ok (.iinc 1 1, 3) := by decide +kernel
theorem d_T_numberStates_78 : decode b_T_numberStates 78 = .ok (.goto (-71), 3) := by decide +kernel
theorem d_T_numberStates_81 : decode b_T_numberStates 81 = .ok (.return_, 1) := by decide +kernel
theorem d_M_make_0 : decode b_M_make 0 = .ok (.aload_n 0, 1) := by decide +kernel
theorem d_M_make_1 : decode b_M_make 1 = .ok (.iconst 0, 1) := by decide +kernel
theorem d_M_make_2 : decode b_M_make 2 = .ok (.putfield 48, 3) := by decide +kernel
theorem d_M_make_5 : decode b_M_make 5 = .ok (.aload_n 0, 1) := by decide +kernel
theorem d_M_make_6 : decode b_M_make 6 = .ok (.invokevirtual 79, 3) := by decide +kernel
theorem d_M_make_9 : decode b_M_make 9 = .ok (.istore_n 1, 1) := by decide +kernel
theorem d_M_make_10 : decode b_M_make 10 = .ok (.iload_n 1, 1) := by decide +kernel
theorem d_M_make_11 : decode b_M_make 11 = .ok (.ifCond .ge 5, 3) := by decide +kernel
theorem d_M_make_14 : decode b_M_make 14 = .ok (.iconst (-1), 1) := by decide +kernel
theorem d_M_make_15 : decode b_M_make 15 = .ok (.ireturn, 1) := by decide +kernel
theorem d_M_make_16 : decode b_M_make 16 = .ok (.aload_n 0, 1) := by decide +kernel
theorem d_M_make_17 : decode b_M_make 17 = .ok (.iload_n 1, 1) := by decide +kernel
theorem d_M_make_18 : decode b_M_make 18 = .ok (.putfield 73, 3) := by decide +kernel
theorem d_M_make_21 : decode b_M_make 21 = .ok (.aload_n 0, 1) := by decide +kernel
theorem d_M_make_22 : decode b_M_make 22 = .ok (.aload_n 0, 1) := by decide +kernel
theorem d_M_make_23 : decode b_M_make 23 = .ok (.getfield 13, 3) := by decide +kernel
theorem d_M_make_26 : decode b_M_make 26 = .ok (.putfield 76, 3) := by decide +kernel
theorem d_M_make_29 : decode b_M_make 29 = .ok (.iconst 0, 1) := by decide +kernel
theorem d_M_make_30 : decode b_M_make 30 = .ok (.istore_n 2, 1) := by decide +kernel
theorem d_M_make_31 : decode b_M_make 31 = .ok (.iload_n 2, 1) := by decide +kernel
theorem d_M_make_32 : decode b_M_make 32 = .ok (.iload_n 1, 1) := by decide +kernel
theorem d_M_make_33 : decode b_M_make 33 = .ok (.if_icmp .ge 59, 3) := by decide +kernel
theorem d_M_make_36 : decode b_M_make 36 = .ok (.aload_n 0, 1) := by decide +kernel
theorem d_M_make_37 : decode b_M_make 37 = .ok (.getfield 20, 3) := by decide +kernel
theorem d_M_make_40 : decode b_M_make 40 = .ok (.iload_n 2, 1) := by decide +kernel
theorem d_M_make_41 : decode b_M_make 41 = .ok (.aload_n 0, 1) := by decide +kernel
theorem d_M_make_42 : decode b_M_make 42 = .ok (.getfield 38, 3) := by decide +kernel
theorem d_M_make_45 : decode b_M_make 45 = .ok (.iload_n 2, 1) := by decide +kernel
theorem d_M_make_46 : decode b_M_make 46 = .ok (.iaload, 1) := by decide +kernel
theorem d_M_make_47 : decode b_M_make 47 = .ok (.iastore, 1) := by decide +kernel
theorem d_M_make_48 : decode b_M_make 48 = .ok (.iconst 0, 1) := by decide +kernel
theorem d_M_make_49 : decode b_M_make 49 = .ok (.istore_n 3, 1) := by decide +kernel
theorem d_M_make_50 : decode b_M_make 50 = .ok (.iload_n 3, 1) := by decide +kernel
theorem d_M_make_51 : decode b_M_make 51 = .ok (.aload_n 0, 1) := by decide +kernel
theorem d_M_make_52 : decode b_M_make 52 = .ok (.getfield 13, 3) := by decide +kernel
theorem d_M_make_55 : decode b_M_make 55 = .ok (.if_icmp .ge 31, 3) := by decide +kernel
theorem d_M_make_58 : decode b_M_make 58 = .ok (.aload_n 0, 1) := by decide +kernel
theorem d_M_make_59 : decode b_M_make 59 = .ok (.getfield 23, 3) := by decide +kernel
theorem d_M_make_62 : decode b_M_make 62 = .ok (.bipush 40, 2) := by decide +kernel
theorem d_M_make_64 : decode b_M_make 64 = .ok (.iload_n 2, 1) := by decide +kernel
theorem d_M_make_65 : decode b_M_make 65 = .ok (.imul, 1) := by decide +kernel
theorem d_M_make_66 : decode b_M_make 66 = .ok (.iload_n 3, 1) := by decide +kernel
theorem d_M_make_67 : decode b_M_make 67 = .ok (.iadd, 1) := by decide +kernel
theorem d_M_make_68 : decode b_M_make 68 = .ok (.aload_n 0, 1) := by decide +kernel
theorem d_M_make_69 : decode b_M_make 69 = .ok (.getfield 41, 3) := by decide +kernel
theorem d_M_make_72 : decode b_M_make 72 = .ok (.bipush 40, 2) := by decide +kernel
theorem d_M_make_74 : decode b_M_make 74 = .ok (.iload_n 2, 1) := by decide +kernel
theorem d_M_make_75 : decode b_M_make 75 = .ok (.imul, 1) := by decide +kernel
theorem d_M_make_76 : decode b_M_make 76 = .ok (.iload_n 3, 1) := by decide +kernel
theorem d_M_make_77 : decode b_M_make 77 = .ok (.iadd, 1) := by decide +kernel
theorem d_M_make_78 : decode b_M_make 78 = .ok (.iaload, 1) := by decide +kernel
theorem d_M_make_79 : decode b_M_make 79 = .ok (.iastore, 1) := by decide +kernel
theorem d_M_make_80 : decode b_M_make 80 = .ok (.iinc 3 1, 3) := by decide +kernel
theorem d_M_make_83 : decode b_M_make 83 = .ok (.goto (-33), 3) := by decide +kernel
theorem d_M_make_86 : decode b_M_make 86 = .ok (.iinc 2 1, 3) := by decide +kernel
theorem d_M_make_89 : decode b_M_make 89 = .ok (.goto (-58), 3) := by decide +kernel
theorem d_M_make_92 : decode b_M_make 92 = .ok (.iconst 0, 1) := by decide +kernel
theorem d_M_make_93 : decode b_M_make 93 = .ok (.istore_n 2, 1) := by decide +kernel
theorem d_M_make_94 : decode b_M_make 94 = .ok (.iload_n 2, 1) := by decide +kernel
theorem d_M_make_95 : decode b_M_make 95 = .ok (.sipush 14400, 3) := by decide +kernel
theorem d_M_make_98 : decode b_M_make 98 = .ok (.if_icmp .ge 16, 3) := by decide +kernel
theorem d_M_make_101 : decode b_M_make 101 = .ok (.aload_n 0, 1) := by decide +kernel
theorem d_M_make_102 : decode b_M_make 102 = .ok (.getfield 26, 3) := by decide +kernel
theorem d_M_make_105 : decode b_M_make 105 = .ok (.iload_n 2, 1) := by decide +kernel
theorem d_M_make_106 : decode b_M_make 106 = .ok (.iconst 0, 1) := by decide +kernel
theorem d_M_make_107 : decode b_M_make 107 = .ok (.iastore, 1) := by decide +kernel
theorem d_M_make_108 : decode b_M_make 108 = .ok (.iinc 2 1, 3) := by decide +kernel
theorem d_M_make_111 : decode b_M_make 111 = .ok (.goto (-17), 3) := by decide +kernel
theorem d_M_make_114 : decode b_M_make 114 = .ok (.iconst 1, 1) := by decide +kernel
theorem d_M_make_115 : decode b_M_make 115 = .ok (.istore_n 2, 1) := by decide +kernel
theorem d_M_make_116 : decode b_M_make 116 = .ok (.aload_n 0, 1) := by decide +kernel
theorem d_M_make_117 : decode b_M_make 117 = .ok (.iload_n 2, 1) := by decide +kernel
theorem d_M_make_118 : decode b_M_make 118 = .ok (.invokevirtual 82, 3) := by decide +kernel
theorem d_M_make_121 : decode b_M_make 121 = .ok (.ifCond .eq 9, 3) := by decide +kernel
theorem d_M_make_124 : decode b_M_make 124 = .ok (.iinc 2 1, 3) := by decide +kernel
theorem d_M_make_127 : decode b_M_make 127 = .ok (.goto (-11), 3) := by decide +kernel
theorem d_M_make_130 : decode b_M_make 130 = .ok (.iconst 0, 1) := by decide +kernel
theorem d_M_make_131 : decode b_M_make 131 = .ok (.istore_n 3, 1) := by decide +kernel
theorem d_M_make_132 : decode b_M_make 132 = .ok (.iload_n 3, 1) := by decide +kernel
theorem d_M_make_133 : decode b_M_make 133 = .ok (.iload_n 1, 1) := by decide +kernel
theorem d_M_make_134 : decode b_M_make 134 = .ok (.if_icmp .ge 16, 3) := by decide +kernel
theorem d_M_make_137 : decode b_M_make 137 = .ok (.aload_n 0, 1) := by decide +kernel
theorem d_M_make_138 : decode b_M_make 138 = .ok (.getfield 32, 3) := by decide +kernel
theorem d_M_make_141 : decode b_M_make 141 = .ok (.iload_n 3, 1) := by decide +kernel
theorem d_M_make_142 : decode b_M_make 142 = .ok (.iconst (-1), 1) := by decide +kernel
theorem d_M_make_143 : decode b_M_make 143 = .ok (.iastore, 1) := by decide +kernel
theorem d_M_make_144 : decode b_M_make 144 = .ok (.iinc 3 1, 3) := by decide +kernel
theorem d_M_make_147 : decode b_M_make 147 = .ok (.goto (-15), 3) := by decide +kernel
theorem d_M_make_150 : decode b_M_make 150 = .ok (.aload_n 0, 1) := by decide +kernel
theorem d_M_make_151 : decode b_M_make 151 = .ok (.getfield 32, 3) := by decide +kernel
theorem d_M_make_154 : decode b_M_make 154 = .ok (.iconst 0, 1) := by decide +kernel
theorem d_M_make_155 : decode b_M_make 155 = .ok (.iconst 0, 1) := by decide +kernel
theorem d_M_make_156 : decode b_M_make 156 = .ok (.iastore, 1) := by decide +kernel
theorem d_M_make_157 : decode b_M_make 157 = .ok (.aload_n 0, 1) := by decide +kernel
theorem d_M_make_158 : decode b_M_make 158 = .ok (.getfield 35, 3) := by decide +kernel
theorem d_M_make_161 : decode b_M_make 161 = .ok (.iconst 0, 1) := by decide +kernel
theorem d_M_make_162 : decode b_M_make 162 = .ok (.iconst 0, 1) := by decide +kernel
theorem d_M_make_163 : decode b_M_make 163 = .ok (.iastore, 1) := by decide +kernel
theorem d_M_make_164 : decode b_M_make 164 = .ok (.aload_n 0, 1) := by decide +kernel
theorem d_M_make_165 : decode b_M_make 165 = .ok (.iconst 1, 1) := by decide +kernel
theorem d_M_make_166 : decode b_M_make 166 = .ok (.putfield 85, 3) := by decide +kernel
theorem d_M_make_169 : decode b_M_make 169 = .ok (.iconst 0, 1) := by decide +kernel
theorem d_M_make_170 : decode b_M_make 170 = .ok (.istore_n 3, 1) := by decide +kernel
theorem d_M_make_171 : decode b_M_make 171 = .ok (.iload_n 3, 1) := by decide +kernel
theorem d_M_make_172 : decode b_M_make 172 = .ok (.aload_n 0, 1) := by decide +kernel
theorem d_M_make_173 : decode b_M_make 173 = .ok (.getfield 85, 3) := by decide +kernel
theorem d_M_make_176 : decode b_M_make 176 = .ok (.if_icmp .ge 110, 3) := by decide +kernel
theorem d_M_make_179 : decode b_M_make 179 = .ok (.iconst 0, 1) := by decide +kernel
theorem d_M_make_180 : decode b_M_make 180 = .ok (.istore 4, 2) := by decide +kernel
theorem d_M_make_182 : decode b_M_make 182 = .ok (.iload 4, 2) := by decide +kernel
theorem d_M_make_184 : decode b_M_make 184 = .ok (.aload_n 0, 1) := by decide +kernel
theorem d_M_make_185 : decode b_M_make 185 = .ok (.getfield 13, 3) := by decide +kernel
theorem d_M_make_188 : decode b_M_make 188 = .ok (.if_icmp .ge 92, 3) := by decide +kernel
theorem d_M_make_191 : decode b_M_make 191 = .ok (.aload_n 0, 1) := by decide +kernel
theorem d_M_make_192 : decode b_M_make 192 = .ok (.getfield 23, 3) := by decide +kernel
theorem d_M_make_195 : decode b_M_make 195 = .ok (.bipush 40, 2) := by decide +kernel
theorem d_M_make_197 : decode b_M_make 197 = .ok (.aload_n 0, 1) := by decide +kernel
theorem d_M_make_198 : decode b_M_make 198 = .ok (.getfield 35, 3) := by decide +kernel
theorem d_M_make_201 : decode b_M_make 201 = .ok (.iload_n 3, 1) := by decide +kernel
theorem d_M_make_202 : decode b_M_make 202 = .ok (.iaload, 1) := by decide +kernel
theorem d_M_make_203 : decode b_M_make 203 = .ok (.imul, 1) := by decide +kernel
theorem d_M_make_204 : decode b_M_make 204 = .ok (.iload 4, 2) := by decide +kernel
theorem d_M_make_206 : decode b_M_make 206 = .ok (.iadd, 1) := by decide +kernel
theorem d_M_make_207 : decode b_M_make 207 = .ok (.iaload, 1) := by decide +kernel
theorem d_M_make_208 : decode b_M_make 208 = .ok (.istore 5, 2) := by decide +kernel
theorem d_M_make_210 : decode b_M_make 210 = .ok (.iload 5, 2) := by decide +kernel
theorem d_M_make_212 : decode b_M_make 212 = .ok (.ifCond .ge 7, 3) := by decide +kernel
theorem d_M_make_215 : decode b_M_make 215 = .ok (.iconst 0, 1) := by decide +kernel
theorem d_M_make_216 : decode b_M_make 216 = .ok (.goto 9, 3) := by decide +kernel
theorem d_M_make_219 : decode b_M_make 219 = .ok (.aload_n 0, 1) := by decide +kernel
theorem d_M_make_220 : decode b_M_make 220 = .ok (.iload 5, 2) := by decide +kernel
theorem d_M_make_222 : decode b_M_make 222 = .ok (.invokevirtual 88, 3) := by decide +kernel
theorem d_M_make_225 : decode b_M_make 225 = .ok (.istore 6, 2) := by decide +kernel
theorem d_M_make_227 : decode b_M_make 227 = .ok (.iload 5, 2) := by decide +kernel
theorem d_M_make_229 : decode b_M_make 229 = .ok (.ifCond .lt 45, 3) := by decide +kernel
theorem d_M_make_232 : decode b_M_make 232 = .ok (.aload_n 0, 1) := by decide +kernel
theorem d_M_make_233 : decode b_M_make 233 = .ok (.getfield 32, 3) := by decide +kernel
theorem d_M_make_236 : decode b_M_make 236 = .ok (.iload 6, 2) := by decide +kernel
theorem d_M_make_238 : decode b_M_make 238 = .ok (.iaload, 1) := by decide +kernel
theorem d_M_make_239 : decode b_M_make 239 = .ok (.ifCond .ge 35, 3) := by decide +kernel
theorem d_M_make_242 : decode b_M_make 242 = .ok (.aload_n 0, 1) := by decide +kernel
theorem d_M_make_243 : decode b_M_make 243 = .ok (.getfield 32, 3) := by decide +kernel
theorem d_M_make_246 : decode b_M_make 246 = .ok (.iload 6, 2) := by decide +kernel
theorem d_M_make_248 : decode b_M_make 248 = .ok (.aload_n 0, 1) := by decide +kernel
theorem d_M_make_249 : decode b_M_make 249 = .ok (.getfield 85, 3) := by decide +kernel
theorem d_M_make_252 : decode b_M_make 252 = .ok (.iastore, 1) := by decide +kernel
theorem d_M_make_253 : decode b_M_make 253 = .ok (.aload_n 0, 1) := by decide +kernel
theorem d_M_make_254 : decode b_M_make 254 = .ok (.getfield 35, 3) := by decide +kernel
theorem d_M_make_257 : decode b_M_make 257 = .ok (.aload_n 0, 1) := by decide +kernel
theorem d_M_make_258 : decode b_M_make 258 = .ok (.getfield 85, 3) := by decide +kernel
theorem d_M_make_261 : decode b_M_make 261 = .ok (.iload 6, 2) := by decide +kernel
theorem d_M_make_263 : decode b_M_make 263 = .ok (.iastore, 1) := by decide +kernel
theorem d_M_make_264 : decode b_M_make 264 = .ok (.aload_n 0, 1) := by decide +kernel
theorem d_M_make_265 : decode b_M_make 265 = .ok (.dup, 1) := by decide +kernel
theorem d_M_make_266 : decode b_M_make 266 = .ok (.getfield 85, 3) := by decide +kernel
theorem d_M_make_269 : decode b_M_make 269 = .ok (.iconst 1, 1) := by decide +kernel
theorem d_M_make_270 : decode b_M_make 270 = .ok (.iadd, 1) := by decide +kernel
theorem d_M_make_271 : decode b_M_make 271 = .ok (.putfield 85, 3) := by decide +kernel
theorem d_M_make_274 : decode b_M_make 274 = .ok (.iinc 4 1, 3) := by decide +kernel
theorem d_M_make_277 : decode b_M_make 277 = .ok (.goto (-95), 3) := by decide +kernel
theorem d_M_make_280 : decode b_M_make 280 = .ok (.iinc 3 1, 3) := by decide +kernel
theorem d_M_make_283 : decode b_M_make 283 = .ok (.goto (-112), 3) := by decide +kernel
theorem d_M_make_286 : decode b_M_make 286 = .ok (.iconst 0, 1) := by decide +kernel
theorem d_M_make_287 : decode b_M_make 287 = .ok (.istore_n 3, 1) := by decide +kernel
theorem d_M_make_288 : decode b_M_make 288 = .ok (.iload_n 3, 1) := by decide +kernel
theorem d_M_make_289 : decode b_M_make 289 = .ok (.iload_n 1, 1) := by decide +kernel
theorem d_M_make_290 : decode b_M_make 290 = .ok (.if_icmp .ge 25, 3) := by decide +kernel
theorem d_M_make_293 : decode b_M_make 293 = .ok (.aload_n 0, 1) := by decide +kernel
theorem d_M_make_294 : decode b_M_make 294 = .ok (.getfield 32, 3) := by decide +kernel
theorem d_M_make_297 : decode b_M_make 297 = .ok (.iload_n 3, 1) := by decide +kernel
theorem d_M_make_298 : decode b_M_make 298 = .ok (.aload_n 0, 1) := by decide +kernel
theorem d_M_make_299 : decode b_M_make 299 = .ok (.getfield 32, 3) := by decide +kernel
theorem d_M_make_302 : decode b_M_make 302 = .ok (.aload_n 0, 1) := by decide +kernel
theorem d_M_make_303 : decode b_M_make 303 = .ok (.iload_n 3, 1) := by decide +kernel
theorem d_M_make_304 : decode b_M_make 304 = .ok (.invokevirtual 88, 3) := by decide +kernel
theorem d_M_make_307 : decode b_M_make 307 = .ok (.iaload, 1) := by decide +kernel
theorem d_M_make_308 : decode b_M_make 308 = .ok (.iastore, 1) := by decide +kernel
theorem d_M_make_309 : decode b_M_make 309 = .ok (.iinc 3 1, 3) := by decide +kernel
theorem d_M_make_312 : decode b_M_make 312 = .ok (.goto (-24), 3) := by decide +kernel
theorem d_M_make_315 : decode b_M_make 315 = .ok (.aload_n 0, 1) := by decide +kernel
theorem d_M_make_316 : decode b_M_make 316 = .ok (.iconst 0, 1) := by decide +kernel
theorem d_M_make_317 : decode b_M_make 317 = .ok (.putfield 92, 3) := by decide +kernel
theorem d_M_make_320 : decode b_M_make 320 = .ok (.aload_n 0, 1) := by decide +kernel
theorem d_M_make_321 : decode b_M_make 321 = .ok (.getfield 85, 3) := by decide +kernel
theorem d_M_make_324 : decode b_M_make 324 = .ok (.ireturn, 1) := by decide +kernel
theorem d_M_follow_0 : decode b_M_follow 0 = .ok (.iconst 1, 1) := by decide +kernel
theorem d_M_follow_1 : decode b_M_follow 1 = .ok (.istore_n 1, 1) := by decide +kernel
theorem d_M_follow_2 : decode b_M_follow 2 = .ok (.aload_n 0, 1) := by decide +kernel
theorem d_M_follow_3 : decode b_M_follow 3 = .ok (.getfield 38, 3) := by decide +kernel
theorem d_M_follow_6 : decode b_M_follow 6 = .ok (.iconst 0, 1) := by decide +kernel
theorem d_M_follow_7 : decode b_M_follow 7 = .ok (.iconst 1, 1) := by decide +kernel
theorem d_M_follow_8 : decode b_M_follow 8 = .ok (.aload_n 0, 1) := by decide +kernel
theorem d_M_follow_9 : decode b_M_follow 9 = .ok (.getfield 51, 3) := by decide +kernel
theorem d_M_follow_12 : decode b_M_follow 12 = .ok (.ishl, 1) := by decide +kernel
theorem d_M_follow_13 : decode b_M_follow 13 = .ok (.iastore, 1) := by decide +kernel
theorem d_M_follow_14 : decode b_M_follow 14 = .ok (.iconst 0, 1) := by decide +kernel
theorem d_M_follow_15 : decode b_M_follow 15 = .ok (.istore_n 2, 1) := by decide +kernel
theorem d_M_follow_16 : decode b_M_follow 16 = .ok (.iload_n 2, 1) := by decide +kernel
theorem d_M_follow_17 : decode b_M_follow 17 = .ok (.iload_n 1, 1) := by decide +kernel
theorem d_M_follow_18 : decode b_M_follow 18 = .ok (.if_icmp .ge 117, 3) := by decide +kernel
theorem d_M_follow_21 : decode b_M_follow 21 = .ok (.iconst 0, 1) := by decide +kernel
theorem d_M_follow_22 : decode b_M_follow 22 = .ok (.istore_n 3, 1) := by decide +kernel
theorem d_M_follow_23 : decode b_M_follow 23 = .ok (.iload_n 3, 1) := by decide +kernel
theorem d_M_follow_24 : decode b_M_follow 24 = .ok (.aload_n 0, 1) := by decide +kernel
theorem d_M_follow_25 : decode b_M_follow 25 = .ok (.getfield 13, 3) := by decide +kernel
