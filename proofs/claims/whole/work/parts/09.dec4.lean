theorem d_T_rowLetter_43 : decode b_T_rowLetter 43 = .ok (.iload_n 3, 1) := by decide +kernel
theorem d_T_rowLetter_44 : decode b_T_rowLetter 44 = .ok (.if_icmp .ge 72, 3) := by decide +kernel
theorem d_T_rowLetter_47 : decode b_T_rowLetter 47 = .ok (.iload 7, 2) := by decide +kernel
theorem d_T_rowLetter_49 : decode b_T_rowLetter 49 = .ok (.iconst (-1), 1) := by decide +kernel
theorem d_T_rowLetter_50 : decode b_T_rowLetter 50 = .ok (.if_icmp .eq 66, 3) := by decide +kernel
theorem d_T_rowLetter_53 : decode b_T_rowLetter 53 = .ok (.aload_n 0, 1) := by decide +kernel
theorem d_T_rowLetter_54 : decode b_T_rowLetter 54 = .ok (.aload_n 0, 1) := by decide +kernel
theorem d_T_rowLetter_55 : decode b_T_rowLetter 55 = .ok (.getfield 34, 3) := by decide +kernel
theorem d_T_rowLetter_58 : decode b_T_rowLetter 58 = .ok (.iload 4, 2) := by decide +kernel
theorem d_T_rowLetter_60 : decode b_T_rowLetter 60 = .ok (.iload 7, 2) := by decide +kernel
theorem d_T_rowLetter_62 : decode b_T_rowLetter 62 = .ok (.invokevirtual 105, 3) := by decide +kernel
theorem d_T_rowLetter_65 : decode b_T_rowLetter 65 = .ok (.istore 4, 2) := by decide +kernel
theorem d_T_rowLetter_67 : decode b_T_rowLetter 67 = .ok (.aload_n 0, 1) := by decide +kernel
theorem d_T_rowLetter_68 : decode b_T_rowLetter 68 = .ok (.aload_n 0, 1) := by decide +kernel
theorem d_T_rowLetter_69 : decode b_T_rowLetter 69 = .ok (.getfield 34, 3) := by decide +kernel
theorem d_T_rowLetter_72 : decode b_T_rowLetter 72 = .ok (.iload 5, 2) := by decide +kernel
theorem d_T_rowLetter_74 : decode b_T_rowLetter 74 = .ok (.iload 7, 2) := by decide +kernel
theorem d_T_rowLetter_76 : decode b_T_rowLetter 76 = .ok (.invokevirtual 105, 3) := by decide +kernel
theorem d_T_rowLetter_79 : decode b_T_rowLetter 79 = .ok (.istore 5, 2) := by decide +kernel
theorem d_T_rowLetter_81 : decode b_T_rowLetter 81 = .ok (.iload 4, 2) := by decide +kernel
theorem d_T_rowLetter_83 : decode b_T_rowLetter 83 = .ok (.iconst (-1), 1) := by decide +kernel
theorem d_T_rowLetter_84 : decode b_T_rowLetter 84 = .ok (.if_icmp .eq 9, 3) := by decide +kernel
theorem d_T_rowLetter_87 : decode b_T_rowLetter 87 = .ok (.iload 5, 2) := by decide +kernel
theorem d_T_rowLetter_89 : decode b_T_rowLetter 89 = .ok (.iconst (-1), 1) := by decide +kernel
theorem d_T_rowLetter_90 : decode b_T_rowLetter 90 = .ok (.if_icmp .ne 5, 3) := by decide +kernel
theorem d_T_rowLetter_93 : decode b_T_rowLetter 93 = .ok (.iconst (-1), 1) := by decide +kernel
theorem d_T_rowLetter_94 : decode b_T_rowLetter 94 = .ok (.ireturn, 1) := by decide +kernel
theorem d_T_rowLetter_95 : decode b_T_rowLetter 95 = .ok (.iinc 6 (-1), 3) := by decide +kernel
theorem d_T_rowLetter_98 : decode b_T_rowLetter 98 = .ok (.aload_n 0, 1) := by decide +kernel
theorem d_T_rowLetter_99 : decode b_T_rowLetter 99 = .ok (.iload 4, 2) := by decide +kernel
theorem d_T_rowLetter_101 : decode b_T_rowLetter 101 = .ok (.iload 5, 2) := by decide +kernel
theorem d_T_rowLetter_103 : decode b_T_rowLetter 103 = .ok (.iload 6, 2) := by decide +kernel
theorem d_T_rowLetter_105 : decode b_T_rowLetter 105 = .ok (.invokevirtual 125, 3) := by decide +kernel
theorem d_T_rowLetter_108 : decode b_T_rowLetter 108 = .ok (.istore 7, 2) := by decide +kernel
theorem d_T_rowLetter_110 : decode b_T_rowLetter 110 = .ok (.iinc 8 1, 3) := by decide +kernel
theorem d_T_rowLetter_113 : decode b_T_rowLetter 113 = .ok (.goto (-72), 3) := by decide +kernel
theorem d_T_rowLetter_116 : decode b_T_rowLetter 116 = .ok (.iload 7, 2) := by decide +kernel
theorem d_T_rowLetter_118 : decode b_T_rowLetter 118 = .ok (.ireturn, 1) := by decide +kernel
theorem d_T_leastLetter_0 : decode b_T_leastLetter 0 = .ok (.iconst 0, 1) := by decide +kernel
theorem d_T_leastLetter_1 : decode b_T_leastLetter 1 = .ok (.istore 4, 2) := by decide +kernel
theorem d_T_leastLetter_3 : decode b_T_leastLetter 3 = .ok (.iload 4, 2) := by decide +kernel
theorem d_T_leastLetter_5 : decode b_T_leastLetter 5 = .ok (.aload_n 0, 1) := by decide +kernel
theorem d_T_leastLetter_6 : decode b_T_leastLetter 6 = .ok (.getfield 9, 3) := by decide +kernel
theorem d_T_leastLetter_9 : decode b_T_leastLetter 9 = .ok (.if_icmp .ge 57, 3) := by decide +kernel
theorem d_T_leastLetter_12 : decode b_T_leastLetter 12 = .ok (.aload_n 0, 1) := by decide +kernel
theorem d_T_leastLetter_13 : decode b_T_leastLetter 13 = .ok (.aload_n 0, 1) := by decide +kernel
theorem d_T_leastLetter_14 : decode b_T_leastLetter 14 = .ok (.getfield 34, 3) := by decide +kernel
theorem d_T_leastLetter_17 : decode b_T_leastLetter 17 = .ok (.iload_n 1, 1) := by decide +kernel
theorem d_T_leastLetter_18 : decode b_T_leastLetter 18 = .ok (.iload 4, 2) := by decide +kernel
theorem d_T_leastLetter_20 : decode b_T_leastLetter 20 = .ok (.invokevirtual 105, 3) := by decide +kernel
theorem d_T_leastLetter_23 : decode b_T_leastLetter 23 = .ok (.istore 5, 2) := by decide +kernel
theorem d_T_leastLetter_25 : decode b_T_leastLetter 25 = .ok (.aload_n 0, 1) := by decide +kernel
theorem d_T_leastLetter_26 : decode b_T_leastLetter 26 = .ok (.aload_n 0, 1) := by decide +kernel
theorem d_T_leastLetter_27 : decode b_T_leastLetter 27 = .ok (.getfield 34, 3) := by decide +kernel
theorem d_T_leastLetter_30 : decode b_T_leastLetter 30 = .ok (.iload_n 2, 1) := by decide +kernel
theorem d_T_leastLetter_31 : decode b_T_leastLetter 31 = .ok (.iload 4, 2) := by decide +kernel
theorem d_T_leastLetter_33 : decode b_T_leastLetter 33 = .ok (.invokevirtual 105, 3) := by decide +kernel
theorem d_T_leastLetter_36 : decode b_T_leastLetter 36 = .ok (.istore 6, 2) := by decide +kernel
theorem d_T_leastLetter_38 : decode b_T_leastLetter 38 = .ok (.iload 5, 2) := by decide +kernel
theorem d_T_leastLetter_40 : decode b_T_leastLetter 40 = .ok (.iload 6, 2) := by decide +kernel
theorem d_T_leastLetter_42 : decode b_T_leastLetter 42 = .ok (.if_icmp .eq 18, 3) := by decide +kernel
theorem d_T_leastLetter_45 : decode b_T_leastLetter 45 = .ok (.aload_n 0, 1) := by decide +kernel
theorem d_T_leastLetter_46 : decode b_T_leastLetter 46 = .ok (.iload 5, 2) := by decide +kernel
theorem d_T_leastLetter_48 : decode b_T_leastLetter 48 = .ok (.iload 6, 2) := by decide +kernel
theorem d_T_leastLetter_50 : decode b_T_leastLetter 50 = .ok (.invokevirtual 129, 3) := by decide +kernel
theorem d_T_leastLetter_53 : decode b_T_leastLetter 53 = .ok (.iload_n 3, 1) := by decide +kernel
theorem d_T_leastLetter_54 : decode b_T_leastLetter 54 = .ok (.if_icmp .ne 6, 3) := by decide +kernel
theorem d_T_leastLetter_57 : decode b_T_leastLetter 57 = .ok (.iload 4, 2) := by decide +kernel
theorem d_T_leastLetter_59 : decode b_T_leastLetter 59 = .ok (.ireturn, 1) := by decide +kernel
theorem d_T_leastLetter_60 : decode b_T_leastLetter 60 = .ok (.iinc 4 1, 3) := by decide +kernel
theorem d_T_leastLetter_63 : decode b_T_leastLetter 63 = .ok (.goto (-60), 3) := by decide +kernel
theorem d_T_leastLetter_66 : decode b_T_leastLetter 66 = .ok (.iconst (-1), 1) := by decide +kernel
theorem d_T_leastLetter_67 : decode b_T_leastLetter 67 = .ok (.ireturn, 1) := by decide +kernel
theorem d_T_lengthBehind_0 : decode b_T_lengthBehind 0 = .ok (.iload_n 1, 1) := by decide +kernel
theorem d_T_lengthBehind_1 : decode b_T_lengthBehind 1 = .ok (.iconst (-1), 1) := by decide +kernel
theorem d_T_lengthBehind_2 : decode b_T_lengthBehind 2 = .ok (.if_icmp .eq 8, 3) := by decide +kernel
theorem d_T_lengthBehind_5 : decode b_T_lengthBehind 5 = .ok (.iload_n 2, 1) := by decide +kernel
theorem d_T_lengthBehind_6 : decode b_T_lengthBehind 6 = .ok (.iconst (-1), 1) := by decide +kernel
theorem d_T_lengthBehind_7 : decode b_T_lengthBehind 7 = .ok (.if_icmp .ne 5, 3) := by decide +kernel
theorem d_T_lengthBehind_10 : decode b_T_lengthBehind 10 = .ok (.iconst 0, 1) := by decide +kernel
theorem d_T_lengthBehind_11 : decode b_T_lengthBehind 11 = .ok (.ireturn, 1) := by decide +kernel
theorem d_T_lengthBehind_12 : decode b_T_lengthBehind 12 = .ok (.aload_n 0, 1) := by decide +kernel
theorem d_T_lengthBehind_13 : decode b_T_lengthBehind 13 = .ok (.getfield 46, 3) := by decide +kernel
theorem d_T_lengthBehind_16 : decode b_T_lengthBehind 16 = .ok (.iload_n 1, 1) := by decide +kernel
theorem d_T_lengthBehind_17 : decode b_T_lengthBehind 17 = .ok (.iload_n 2, 1) := by decide +kernel
theorem d_T_lengthBehind_18 : decode b_T_lengthBehind 18 = .ok (.invokestatic 108, 3) := by decide +kernel
theorem d_T_lengthBehind_21 : decode b_T_lengthBehind 21 = .ok (.iaload, 1) := by decide +kernel
theorem d_T_lengthBehind_22 : decode b_T_lengthBehind 22 = .ok (.ireturn, 1) := by decide +kernel
theorem d_M_apartBy_0 : decode b_M_apartBy 0 = .ok (.aload_n 0, 1) := by decide +kernel
theorem d_M_apartBy_1 : decode b_M_apartBy 1 = .ok (.iconst 0, 1) := by decide +kernel
theorem d_M_apartBy_2 : decode b_M_apartBy 2 = .ok (.putfield 48, 3) := by decide +kernel
theorem d_M_apartBy_5 : decode b_M_apartBy 5 = .ok (.aload_n 0, 1) := by decide +kernel
theorem d_M_apartBy_6 : decode b_M_apartBy 6 = .ok (.iload_n 1, 1) := by decide +kernel
theorem d_M_apartBy_7 : decode b_M_apartBy 7 = .ok (.invokevirtual 98, 3) := by decide +kernel
theorem d_M_apartBy_10 : decode b_M_apartBy 10 = .ok (.ifCond .eq 40, 3) := by decide +kernel
theorem d_M_apartBy_13 : decode b_M_apartBy 13 = .ok (.aload_n 0, 1) := by decide +kernel
theorem d_M_apartBy_14 : decode b_M_apartBy 14 = .ok (.iload_n 2, 1) := by decide +kernel
theorem d_M_apartBy_15 : decode b_M_apartBy 15 = .ok (.invokevirtual 98, 3) := by decide +kernel
theorem d_M_apartBy_18 : decode b_M_apartBy 18 = .ok (.ifCond .eq 32, 3) := by decide +kernel
theorem d_M_apartBy_21 : decode b_M_apartBy 21 = .ok (.iload_n 3, 1) := by decide +kernel
theorem d_M_apartBy_22 : decode b_M_apartBy 22 = .ok (.ifCond .lt 28, 3) := by decide +kernel
theorem d_M_apartBy_25 : decode b_M_apartBy 25 = .ok (.iload_n 3, 1) := by decide +kernel
theorem d_M_apartBy_26 : decode b_M_apartBy 26 = .ok (.aload_n 0, 1) := by decide +kernel
theorem d_M_apartBy_27 : decode b_M_apartBy 27 = .ok (.getfield 26, 3) := by decide +kernel
theorem d_M_apartBy_30 : decode b_M_apartBy 30 = .ok (.bipush 120, 2) := by decide +kernel
theorem d_M_apartBy_32 : decode b_M_apartBy 32 = .ok (.aload_n 0, 1) := by decide +kernel
theorem d_M_apartBy_33 : decode b_M_apartBy 33 = .ok (.getfield 35, 3) := by decide +kernel
theorem d_M_apartBy_36 : decode b_M_apartBy 36 = .ok (.iload_n 1, 1) := by decide +kernel
theorem d_M_apartBy_37 : decode b_M_apartBy 37 = .ok (.iaload, 1) := by decide +kernel
theorem d_M_apartBy_38 : decode b_M_apartBy 38 = .ok (.imul, 1) := by decide +kernel
theorem d_M_apartBy_39 : decode b_M_apartBy 39 = .ok (.aload_n 0, 1) := by decide +kernel
theorem d_M_apartBy_40 : decode b_M_apartBy 40 = .ok (.getfield 35, 3) := by decide +kernel
theorem d_M_apartBy_43 : decode b_M_apartBy 43 = .ok (.iload_n 2, 1) := by decide +kernel
theorem d_M_apartBy_44 : decode b_M_apartBy 44 = .ok (.iaload, 1) := by decide +kernel
theorem d_M_apartBy_45 : decode b_M_apartBy 45 = .ok (.iadd, 1) := by decide +kernel
theorem d_M_apartBy_46 : decode b_M_apartBy 46 = .ok (.iaload, 1) := by decide +kernel
theorem d_M_apartBy_47 : decode b_M_apartBy 47 = .ok (.if_icmp .lt 5, 3) := by decide +kernel
theorem d_M_apartBy_50 : decode b_M_apartBy 50 = .ok (.iconst (-1), 1) := by decide +kernel
theorem d_M_apartBy_51 : decode b_M_apartBy 51 = .ok (.ireturn, 1) := by decide +kernel
theorem d_M_apartBy_52 : decode b_M_apartBy 52 = .ok (.aload_n 0, 1) := by decide +kernel
theorem d_M_apartBy_53 : decode b_M_apartBy 53 = .ok (.getfield 35, 3) := by decide +kernel
theorem d_M_apartBy_56 : decode b_M_apartBy 56 = .ok (.iload_n 1, 1) := by decide +kernel
theorem d_M_apartBy_57 : decode b_M_apartBy 57 = .ok (.iaload, 1) := by decide +kernel
theorem d_M_apartBy_58 : decode b_M_apartBy 58 = .ok (.istore 4, 2) := by decide +kernel
theorem d_M_apartBy_60 : decode b_M_apartBy 60 = .ok (.aload_n 0, 1) := by decide +kernel
theorem d_M_apartBy_61 : decode b_M_apartBy 61 = .ok (.getfield 35, 3) := by decide +kernel
theorem d_M_apartBy_64 : decode b_M_apartBy 64 = .ok (.iload_n 2, 1) := by decide +kernel
theorem d_M_apartBy_65 : decode b_M_apartBy 65 = .ok (.iaload, 1) := by decide +kernel
theorem d_M_apartBy_66 : decode b_M_apartBy 66 = .ok (.istore 5, 2) := by decide +kernel
theorem d_M_apartBy_68 : decode b_M_apartBy 68 = .ok (.iconst 0, 1) := by decide +kernel
theorem d_M_apartBy_69 : decode b_M_apartBy 69 = .ok (.istore 6, 2) := by decide +kernel
theorem d_M_apartBy_71 : decode b_M_apartBy 71 = .ok (.iload 6, 2) := by decide +kernel
theorem d_M_apartBy_73 : decode b_M_apartBy 73 = .ok (.iload_n 3, 1) := by decide +kernel
theorem d_M_apartBy_74 : decode b_M_apartBy 74 = .ok (.if_icmp .ge 54, 3) := by decide +kernel
theorem d_M_apartBy_77 : decode b_M_apartBy 77 = .ok (.aload_n 0, 1) := by decide +kernel
theorem d_M_apartBy_78 : decode b_M_apartBy 78 = .ok (.getfield 29, 3) := by decide +kernel
theorem d_M_apartBy_81 : decode b_M_apartBy 81 = .ok (.bipush 120, 2) := by decide +kernel
theorem d_M_apartBy_83 : decode b_M_apartBy 83 = .ok (.iload 4, 2) := by decide +kernel
theorem d_M_apartBy_85 : decode b_M_apartBy 85 = .ok (.imul, 1) := by decide +kernel
theorem d_M_apartBy_86 : decode b_M_apartBy 86 = .ok (.iload 5, 2) := by decide +kernel
theorem d_M_apartBy_88 : decode b_M_apartBy 88 = .ok (.iadd, 1) := by decide +kernel
theorem d_M_apartBy_89 : decode b_M_apartBy 89 = .ok (.iaload, 1) := by decide +kernel
theorem d_M_apartBy_90 : decode b_M_apartBy 90 = .ok (.istore 7, 2) := by decide +kernel
theorem d_M_apartBy_92 : decode b_M_apartBy 92 = .ok (.aload_n 0, 1) := by decide +kernel
theorem d_M_apartBy_93 : decode b_M_apartBy 93 = .ok (.getfield 23, 3) := by decide +kernel
theorem d_M_apartBy_96 : decode b_M_apartBy 96 = .ok (.bipush 40, 2) := by decide +kernel
theorem d_M_apartBy_98 : decode b_M_apartBy 98 = .ok (.iload 4, 2) := by decide +kernel
theorem d_M_apartBy_100 : decode b_M_apartBy 100 = .ok (.imul, 1) := by decide +kernel
theorem d_M_apartBy_101 : decode b_M_apartBy 101 = .ok (.iload 7, 2) := by decide +kernel
theorem d_M_apartBy_103 : decode b_M_apartBy 103 = .ok (.iadd, 1) := by decide +kernel
theorem d_M_apartBy_104 : decode b_M_apartBy 104 = .ok (.iaload, 1) := by decide +kernel
theorem d_M_apartBy_105 : decode b_M_apartBy 105 = .ok (.istore 4, 2) := by decide +kernel
theorem d_M_apartBy_107 : decode b_M_apartBy 107 = .ok (.aload_n 0, 1) := by decide +kernel
theorem d_M_apartBy_108 : decode b_M_apartBy 108 = .ok (.getfield 23, 3) := by decide +kernel
theorem d_M_apartBy_111 : decode b_M_apartBy 111 = .ok (.bipush 40, 2) := by decide +kernel
theorem d_M_apartBy_113 : decode b_M_apartBy 113 = .ok (.iload 5, 2) := by decide +kernel
theorem d_M_apartBy_115 : decode b_M_apartBy 115 = .ok (.imul, 1) := by decide +kernel
theorem d_M_apartBy_116 : decode b_M_apartBy 116 = .ok (.iload 7, 2) := by decide +kernel
theorem d_M_apartBy_118 : decode b_M_apartBy 118 = .ok (.iadd, 1) := by decide +kernel
theorem d_M_apartBy_119 : decode b_M_apartBy 119 = .ok (.iaload, 1) := by decide +kernel
theorem d_M_apartBy_120 : decode b_M_apartBy 120 = .ok (.istore 5, 2) := by decide +kernel
theorem d_M_apartBy_122 : decode b_M_apartBy 122 = .ok (.iinc 6 1, 3) := by decide +kernel
theorem d_M_apartBy_125 : decode b_M_apartBy 125 = .ok (.goto (-54), 3) := by decide +kernel
theorem d_M_apartBy_128 : decode b_M_apartBy 128 = .ok (.aload_n 0, 1) := by decide +kernel
theorem d_M_apartBy_129 : decode b_M_apartBy 129 = .ok (.getfield 29, 3) := by decide +kernel
theorem d_M_apartBy_132 : decode b_M_apartBy 132 = .ok (.bipush 120, 2) := by decide +kernel
theorem d_M_apartBy_134 : decode b_M_apartBy 134 = .ok (.iload 4, 2) := by decide +kernel
theorem d_M_apartBy_136 : decode b_M_apartBy 136 = .ok (.imul, 1) := by decide +kernel
theorem d_M_apartBy_137 : decode b_M_apartBy 137 = .ok (.iload 5, 2) := by decide +kernel
theorem d_M_apartBy_139 : decode b_M_apartBy 139 = .ok (.iadd, 1) := by decide +kernel
theorem d_M_apartBy_140 : decode b_M_apartBy 140 = .ok (.iaload, 1) := by decide +kernel
theorem d_M_apartBy_141 : decode b_M_apartBy 141 = .ok (.ireturn, 1) := by decide +kernel
theorem d_W_is_0 : decode b_W_is 0 = .ok (.aload_n 0, 1) := by decide +kernel
theorem d_W_is_1 : decode b_W_is 1 = .ok (.getfield 12, 3) := by decide +kernel
theorem d_W_is_4 : decode b_W_is 4 = .ok (.iload_n 1, 1) := by decide +kernel
theorem d_W_is_5 : decode b_W_is 5 = .ok (.iload_n 2, 1) := by decide +kernel
theorem d_W_is_6 : decode b_W_is 6 = .ok (.iload_n 3, 1) := by decide +kernel
theorem d_W_is_7 : decode b_W_is 7 = .ok (.invokevirtual 31, 3) := by decide +kernel
theorem d_W_is_10 : decode b_W_is 10 = .ok (.ifCond .eq 20, 3) := by decide +kernel
theorem d_W_is_13 : decode b_W_is 13 = .ok (.aload_n 0, 1) := by decide +kernel
theorem d_W_is_14 : decode b_W_is 14 = .ok (.getfield 12, 3) := by decide +kernel
theorem d_W_is_17 : decode b_W_is 17 = .ok (.iload_n 1, 1) := by decide +kernel
theorem d_W_is_18 : decode b_W_is 18 = .ok (.iload_n 2, 1) := by decide +kernel
theorem d_W_is_19 : decode b_W_is 19 = .ok (.iload_n 3, 1) := by decide +kernel
theorem d_W_is_20 : decode b_W_is 20 = .ok (.invokevirtual 35, 3) := by decide +kernel
theorem d_W_is_23 : decode b_W_is 23 = .ok (.ifCond .eq 7, 3) := by decide +kernel
theorem d_W_is_26 : decode b_W_is 26 = .ok (.iconst 1, 1) := by decide +kernel
theorem d_W_is_27 : decode b_W_is 27 = .ok (.goto 4, 3) := by decide +kernel
theorem d_W_is_30 : decode b_W_is 30 = .ok (.iconst 0, 1) := by decide +kernel
theorem d_W_is_31 : decode b_W_is 31 = .ok (.ireturn, 1) := by decide +kernel
theorem d_W_look_0 : decode b_W_look 0 = .ok (.iload_n 1, 1) := by decide +kernel
theorem d_W_look_1 : decode b_W_look 1 = .ok (.tableswitch 132 0 9 #[55, 63, 71, 79, 87, 95, 103, 111, 119, 127], 55) := by decide +kernel
theorem d_W_look_56 : decode b_W_look 56 = .ok (.aload_n 0, 1) := by decide +kernel
theorem d_W_look_57 : decode b_W_look 57 = .ok (.getfield 12, 3) := by decide +kernel
theorem d_W_look_60 : decode b_W_look 60 = .ok (.getfield 49, 3) := by decide +kernel
theorem d_W_look_63 : decode b_W_look 63 = .ok (.ireturn, 1) := by decide +kernel
theorem d_W_look_64 : decode b_W_look 64 = .ok (.aload_n 0, 1) := by decide +kernel
theorem d_W_look_65 : decode b_W_look 65 = .ok (.getfield 12, 3) := by decide +kernel
theorem d_W_look_68 : decode b_W_look 68 = .ok (.getfield 52, 3) := by decide +kernel
theorem d_W_look_71 : decode b_W_look 71 = .ok (.ireturn, 1) := by decide +kernel
theorem d_W_look_72 : decode b_W_look 72 = .ok (.aload_n 0, 1) := by decide +kernel
theorem d_W_look_73 : decode b_W_look 73 = .ok (.getfield 12, 3) := by decide +kernel
theorem d_W_look_76 : decode b_W_look 76 = .ok (.invokevirtual 100, 3) := by decide +kernel
theorem d_W_look_79 : decode b_W_look 79 = .ok (.ireturn, 1) := by decide +kernel
theorem d_W_look_80 : decode b_W_look 80 = .ok (.aload_n 0, 1) := by decide +kernel
theorem d_W_look_81 : decode b_W_look 81 = .ok (.getfield 12, 3) := by decide +kernel
theorem d_W_look_84 : decode b_W_look 84 = .ok (.getfield 59, 3) := by decide +kernel
theorem d_W_look_87 : decode b_W_look 87 = .ok (.ireturn, 1) := by decide +kernel
theorem d_W_look_88 : decode b_W_look 88 = .ok (.aload_n 0, 1) := by decide +kernel
theorem d_W_look_89 : decode b_W_look 89 = .ok (.getfield 19, 3) := by decide +kernel
theorem d_W_look_92 : decode b_W_look 92 = .ok (.getfield 104, 3) := by decide +kernel
theorem d_W_look_95 : decode b_W_look 95 = .ok (.ireturn, 1) := by decide +kernel
theorem d_W_look_96 : decode b_W_look 96 = .ok (.aload_n 0, 1) := by decide +kernel
theorem d_W_look_97 : decode b_W_look 97 = .ok (.getfield 19, 3) := by decide +kernel
theorem d_W_look_100 : decode b_W_look 100 = .ok (.getfield 66, 3) := by decide +kernel
theorem d_W_look_103 : decode b_W_look 103 = .ok (.ireturn, 1) := by decide +kernel
theorem d_W_look_104 : decode b_W_look 104 = .ok (.aload_n 0, 1) := by decide +kernel
theorem d_W_look_105 : decode b_W_look 105 = .ok (.getfield 19, 3) := by decide +kernel
theorem d_W_look_108 : decode b_W_look 108 = .ok (.getfield 107, 3) := by decide +kernel
theorem d_W_look_111 : decode b_W_look 111 = .ok (.ireturn, 1) := by decide +kernel
theorem d_W_look_112 : decode b_W_look 112 = .ok (.aload_n 0, 1) := by decide +kernel
theorem d_W_look_113 : decode b_W_look 113 = .ok (.getfield 19, 3) := by decide +kernel
theorem d_W_look_116 : decode b_W_look 116 = .ok (.invokevirtual 108, 3) := by decide +kernel
theorem d_W_look_119 : decode b_W_look 119 = .ok (.ireturn, 1) := by decide +kernel
theorem d_W_look_120 : decode b_W_look 120 = .ok (.aload_n 0, 1) := by decide +kernel
theorem d_W_look_121 : decode b_W_look 121 = .ok (.getfield 19, 3) := by decide +kernel
theorem d_W_look_124 : decode b_W_look 124 = .ok (.getfield 111, 3) := by decide +kernel
theorem d_W_look_127 : decode b_W_look 127 = .ok (.ireturn, 1) := by decide +kernel
theorem d_W_look_128 : decode b_W_look 128 = .ok (.aload_n 0, 1) := by decide +kernel
theorem d_W_look_129 : decode b_W_look 129 = .ok (.getfield 23, 3) := by decide +kernel
theorem d_W_look_132 : decode b_W_look 132 = .ok (.ireturn, 1) := by decide +kernel
theorem d_W_look_133 : decode b_W_look 133 = .ok (.iconst (-1), 1) := by decide +kernel
theorem d_W_look_134 : decode b_W_look 134 = .ok (.ireturn, 1) := by decide +kernel
theorem d_G_countWays_0 : decode b_G_countWays 0 = .ok (.iconst 0, 1) := by decide +kernel
theorem d_G_countWays_1 : decode b_G_countWays 1 = .ok (.istore_n 1, 1) := by decide +kernel
theorem d_G_countWays_2 : decode b_G_countWays 2 = .ok (.iconst 0, 1) := by decide +kernel
theorem d_G_countWays_3 : decode b_G_countWays 3 = .ok (.istore_n 2, 1) := by decide +kernel
theorem d_G_countWays_4 : decode b_G_countWays 4 = .ok (.iload_n 2, 1) := by decide +kernel
theorem d_G_countWays_5 : decode b_G_countWays 5 = .ok (.aload_n 0, 1) := by decide +kernel
theorem d_G_countWays_6 : decode b_G_countWays 6 = .ok (.getfield 21, 3) := by decide +kernel
theorem d_G_countWays_9 : decode b_G_countWays 9 = .ok (.arraylength, 1) := by decide +kernel
theorem d_G_countWays_10 : decode b_G_countWays 10 = .ok (.if_icmp .ge 21, 3) := by decide +kernel
theorem d_G_countWays_13 : decode b_G_countWays 13 = .ok (.iload_n 1, 1) := by decide +kernel
theorem d_G_countWays_14 : decode b_G_countWays 14 = .ok (.aload_n 0, 1) := by decide +kernel
theorem d_G_countWays_15 : decode b_G_countWays 15 = .ok (.getfield 21, 3) := by decide +kernel
theorem d_G_countWays_18 : decode b_G_countWays 18 = .ok (.iload_n 2, 1) := by decide +kernel
theorem d_G_countWays_19 : decode b_G_countWays 19 = .ok (.iaload, 1) := by decide +kernel
theorem d_G_countWays_20 : decode b_G_countWays 20 = .ok (.invokestatic 50, 3) := by decide +kernel
theorem d_G_countWays_23 : decode b_G_countWays 23 = .ok (.iadd, 1) := by decide +kernel
theorem d_G_countWays_24 : decode b_G_countWays 24 = .ok (.istore_n 1, 1) := by decide +kernel
theorem d_G_countWays_25 : decode b_G_countWays 25 = .ok (.iinc 2 1, 3) := by decide +kernel
theorem d_G_countWays_28 : decode b_G_countWays 28 = .ok (.goto (-24), 3) := by decide +kernel
theorem d_G_countWays_31 : decode b_G_countWays 31 = .ok (.iload_n 1, 1) := by decide +kernel
theorem d_G_countWays_32 : decode b_G_countWays 32 = .ok (.ireturn, 1) := by decide +kernel
theorem d_I_bitCount1_0 : decode b_I_bitCount1 0 = .ok (.iload_n 0, 1) := by decide +kernel
theorem d_I_bitCount1_1 : decode b_I_bitCount1 1 = .ok (.iload_n 0, 1) := by decide +kernel
theorem d_I_bitCount1_2 : decode b_I_bitCount1 2 = .ok (.iconst 1, 1) := by decide +kernel
theorem d_I_bitCount1_3 : decode b_I_bitCount1 3 = .ok (.iushr, 1) := by decide +kernel
theorem d_I_bitCount1_4 : decode b_I_bitCount1 4 = .ok (.ldc_w 265, 3) := by decide +kernel
theorem d_I_bitCount1_7 : decode b_I_bitCount1 7 = .ok (.iand, 1) := by decide +kernel
theorem d_I_bitCount1_8 : decode b_I_bitCount1 8 = .ok (.isub, 1) := by decide +kernel
theorem d_I_bitCount1_9 : decode b_I_bitCount1 9 = .ok (.istore_n 0, 1) := by decide +kernel
theorem d_I_bitCount1_10 : decode b_I_bitCount1 10 = .ok (.iload_n 0, 1) := by decide +kernel
theorem d_I_bitCount1_11 : decode b_I_bitCount1 11 = .ok (.ldc_w 266, 3) := by decide +kernel
theorem d_I_bitCount1_14 : decode b_I_bitCount1 14 = .ok (.iand, 1) := by decide +kernel
theorem d_I_bitCount1_15 : decode b_I_bitCount1 15 = .ok (.iload_n 0, 1) := by decide +kernel
theorem d_I_bitCount1_16 : decode b_I_bitCount1 16 = .ok (.iconst 2, 1) := by decide +kernel
theorem d_I_bitCount1_17 : decode b_I_bitCount1 17 = .ok (.iushr, 1) := by decide +kernel
theorem d_I_bitCount1_18 : decode b_I_bitCount1 18 = .ok (.ldc_w 266, 3) := by decide +kernel
theorem d_I_bitCount1_21 : decode b_I_bitCount1 21 = .ok (.iand, 1) := by decide +kernel
theorem d_I_bitCount1_22 : decode b_I_bitCount1 22 = .ok (.iadd, 1) := by decide +kernel
theorem d_I_bitCount1_23 : decode b_I_bitCount1 23 = .ok (.istore_n 0, 1) := by decide +kernel
theorem d_I_bitCount1_24 : decode b_I_bitCount1 24 = .ok (.iload_n 0, 1) := by decide +kernel
theorem d_I_bitCount1_25 : decode b_I_bitCount1 25 = .ok (.iload_n 0, 1) := by decide +kernel
theorem d_I_bitCount1_26 : decode b_I_bitCount1 26 = .ok (.iconst 4, 1) := by decide +kernel
theorem d_I_bitCount1_27 : decode b_I_bitCount1 27 = .ok (.iushr, 1) := by decide +kernel
theorem d_I_bitCount1_28 : decode b_I_bitCount1 28 = .ok (.iadd, 1) := by decide +kernel
theorem d_I_bitCount1_29 : decode b_I_bitCount1 29 = .ok (.ldc_w 267, 3) := by decide +kernel
theorem d_I_bitCount1_32 : decode b_I_bitCount1 32 = .ok (.iand, 1) := by decide +kernel
theorem d_I_bitCount1_33 : decode b_I_bitCount1 33 = .ok (.istore_n 0, 1) := by decide +kernel
theorem d_I_bitCount1_34 : decode b_I_bitCount1 34 = .ok (.iload_n 0, 1) := by decide +kernel
theorem d_I_bitCount1_35 : decode b_I_bitCount1 35 = .ok (.iload_n 0, 1) := by decide +kernel
theorem d_I_bitCount1_36 : decode b_I_bitCount1 36 = .ok (.bipush 8, 2) := by decide +kernel
theorem d_I_bitCount1_38 : decode b_I_bitCount1 38 = .ok (.iushr, 1) := by decide +kernel
theorem d_I_bitCount1_39 : decode b_I_bitCount1 39 = .ok (.iadd, 1) := by decide +kernel
theorem d_I_bitCount1_40 : decode b_I_bitCount1 40 = .ok (.istore_n 0, 1) := by decide +kernel
theorem d_I_bitCount1_41 : decode b_I_bitCount1 41 = .ok (.iload_n 0, 1) := by decide +kernel
theorem d_I_bitCount1_42 : decode b_I_bitCount1 42 = .ok (.iload_n 0, 1) := by decide +kernel
theorem d_I_bitCount1_43 : decode b_I_bitCount1 43 = .ok (.bipush 16, 2) := by decide +kernel
theorem d_I_bitCount1_45 : decode b_I_bitCount1 45 = .ok (.iushr, 1) := by decide +kernel
theorem d_I_bitCount1_46 : decode b_I_bitCount1 46 = .ok (.iadd, 1) := by decide +kernel
theorem d_I_bitCount1_47 : decode b_I_bitCount1 47 = .ok (.istore_n 0, 1) := by decide +kernel
theorem d_I_bitCount1_48 : decode b_I_bitCount1 48 = .ok (.iload_n 0, 1) := by decide +kernel
theorem d_I_bitCount1_49 : decode b_I_bitCount1 49 = .ok (.bipush 63, 2) := by decide +kernel
theorem d_I_bitCount1_51 : decode b_I_bitCount1 51 = .ok (.iand, 1) := by decide +kernel
theorem d_I_bitCount1_52 : decode b_I_bitCount1 52 = .ok (.ireturn, 1) := by decide +kernel
theorem d_T_countGoing_0 : decode b_T_countGoing 0 = .ok (.iconst 0, 1) := by decide +kernel
theorem d_T_countGoing_1 : decode b_T_countGoing 1 = .ok (.istore_n 1, 1) := by decide +kernel
theorem d_T_countGoing_2 : decode b_T_countGoing 2 = .ok (.iconst 0, 1) := by decide +kernel
theorem d_T_countGoing_3 : decode b_T_countGoing 3 = .ok (.istore_n 2, 1) := by decide +kernel
theorem d_T_countGoing_4 : decode b_T_countGoing 4 = .ok (.iload_n 2, 1) := by decide +kernel
theorem d_T_countGoing_5 : decode b_T_countGoing 5 = .ok (.aload_n 0, 1) := by decide +kernel
theorem d_T_countGoing_6 : decode b_T_countGoing 6 = .ok (.getfield 18, 3) := by decide +kernel
theorem d_T_countGoing_9 : decode b_T_countGoing 9 = .ok (.if_icmp .ge 38, 3) := by decide +kernel
theorem d_T_countGoing_12 : decode b_T_countGoing 12 = .ok (.iconst 0, 1) := by decide +kernel
theorem d_T_countGoing_13 : decode b_T_countGoing 13 = .ok (.istore_n 3, 1) := by decide +kernel
theorem d_T_countGoing_14 : decode b_T_countGoing 14 = .ok (.iload_n 3, 1) := by decide +kernel
theorem d_T_countGoing_15 : decode b_T_countGoing 15 = .ok (.aload_n 0, 1) := by decide +kernel
theorem d_T_countGoing_16 : decode b_T_countGoing 16 = .ok (.getfield 9, 3) := by decide +kernel
theorem d_T_countGoing_19 : decode b_T_countGoing 19 = .ok (.if_icmp .ge 22, 3) := by decide +kernel
theorem d_T_countGoing_22 : decode b_T_countGoing 22 = .ok (.aload_n 0, 1) := by decide +kernel
theorem d_T_countGoing_23 : decode b_T_countGoing 23 = .ok (.iload_n 2, 1) := by decide +kernel
theorem d_T_countGoing_24 : decode b_T_countGoing 24 = .ok (.iload_n 3, 1) := by decide +kernel
theorem d_T_countGoing_25 : decode b_T_countGoing 25 = .ok (.invokevirtual 119, 3) := by decide +kernel
theorem d_T_countGoing_28 : decode b_T_countGoing 28 = .ok (.iconst (-1), 1) := by decide +kernel
theorem d_T_countGoing_29 : decode b_T_countGoing 29 = .ok (.if_icmp .eq 6, 3) := by decide +kernel
theorem d_T_countGoing_32 : decode b_T_countGoing 32 = .ok (.iinc 1 1, 3) := by decide +kernel
theorem d_T_countGoing_35 : decode b_T_countGoing 35 = .ok (.iinc 3 1, 3) := by decide +kernel
theorem d_T_countGoing_38 : decode b_T_countGoing 38 = .ok (.goto (-24), 3) := by decide +kernel
theorem d_T_countGoing_41 : decode b_T_countGoing 41 = .ok (.iinc 2 1, 3) := by decide +kernel
theorem d_T_countGoing_44 : decode b_T_countGoing 44 = .ok (.goto (-40), 3) := by decide +kernel
theorem d_T_countGoing_47 : decode b_T_countGoing 47 = .ok (.iload_n 1, 1) := by decide +kernel
theorem d_T_countGoing_48 : decode b_T_countGoing 48 = .ok (.ireturn, 1) := by decide +kernel
theorem d_M_look_0 : decode b_M_look 0 = .ok (.aload_n 0, 1) := by decide +kernel
theorem d_M_look_1 : decode b_M_look 1 = .ok (.iconst 0, 1) := by decide +kernel
theorem d_M_look_2 : decode b_M_look 2 = .ok (.putfield 48, 3) := by decide +kernel
theorem d_M_look_5 : decode b_M_look 5 = .ok (.iload_n 1, 1) := by decide +kernel
theorem d_M_look_6 : decode b_M_look 6 = .ok (.tableswitch 104 0 9 #[54, 59, 64, 69, 74, 79, 84, 89, 94, 99], 54) := by decide +kernel
theorem d_M_look_60 : decode b_M_look 60 = .ok (.aload_n 0, 1) := by decide +kernel
theorem d_M_look_61 : decode b_M_look 61 = .ok (.getfield 7, 3) := by decide +kernel
theorem d_M_look_64 : decode b_M_look 64 = .ok (.ireturn, 1) := by decide +kernel
theorem d_M_look_65 : decode b_M_look 65 = .ok (.aload_n 0, 1) := by decide +kernel
theorem d_M_look_66 : decode b_M_look 66 = .ok (.getfield 13, 3) := by decide +kernel
theorem d_M_look_69 : decode b_M_look 69 = .ok (.ireturn, 1) := by decide +kernel
theorem d_M_look_70 : decode b_M_look 70 = .ok (.aload_n 0, 1) := by decide +kernel
theorem d_M_look_71 : decode b_M_look 71 = .ok (.invokevirtual 101, 3) := by decide +kernel
theorem d_M_look_74 : decode b_M_look 74 = .ok (.ireturn, 1) := by decide +kernel
theorem d_M_look_75 : decode b_M_look 75 = .ok (.aload_n 0, 1) := by decide +kernel
theorem d_M_look_76 : decode b_M_look 76 = .ok (.getfield 51, 3) := by decide +kernel
theorem d_M_look_79 : decode b_M_look 79 = .ok (.ireturn, 1) := by decide +kernel
theorem d_M_look_80 : decode b_M_look 80 = .ok (.aload_n 0, 1) := by decide +kernel
theorem d_M_look_81 : decode b_M_look 81 = .ok (.getfield 73, 3) := by decide +kernel
theorem d_M_look_84 : decode b_M_look 84 = .ok (.ireturn, 1) := by decide +kernel
theorem d_M_look_85 : decode b_M_look 85 = .ok (.aload_n 0, 1) := by decide +kernel
theorem d_M_look_86 : decode b_M_look 86 = .ok (.getfield 85, 3) := by decide +kernel
theorem d_M_look_89 : decode b_M_look 89 = .ok (.ireturn, 1) := by decide +kernel
theorem d_M_look_90 : decode b_M_look 90 = .ok (.aload_n 0, 1) := by decide +kernel
theorem d_M_look_91 : decode b_M_look 91 = .ok (.getfield 76, 3) := by decide +kernel
theorem d_M_look_94 : decode b_M_look 94 = .ok (.ireturn, 1) := by decide +kernel
theorem d_M_look_95 : decode b_M_look 95 = .ok (.aload_n 0, 1) := by decide +kernel
theorem d_M_look_96 : decode b_M_look 96 = .ok (.invokevirtual 104, 3) := by decide +kernel
theorem d_M_look_99 : decode b_M_look 99 = .ok (.ireturn, 1) := by decide +kernel
theorem d_M_look_100 : decode b_M_look 100 = .ok (.aload_n 0, 1) := by decide +kernel
theorem d_M_look_101 : decode b_M_look 101 = .ok (.invokevirtual 107, 3) := by decide +kernel
theorem d_M_look_104 : decode b_M_look 104 = .ok (.ireturn, 1) := by decide +kernel
theorem d_M_look_105 : decode b_M_look 105 = .ok (.aload_n 0, 1) := by decide +kernel
theorem d_M_look_106 : decode b_M_look 106 = .ok (.getfield 92, 3) := by decide +kernel
theorem d_M_look_109 : decode b_M_look 109 = .ok (.ireturn, 1) := by decide +kernel
theorem d_M_look_110 : decode b_M_look 110 = .ok (.iconst (-1), 1) := by decide +kernel
theorem d_M_look_111 : decode b_M_look 111 = .ok (.ireturn, 1) := by decide +kernel
theorem d_M_wayMany_0 : decode b_M_wayMany 0 = .ok (.iconst 0, 1) := by decide +kernel
theorem d_M_wayMany_1 : decode b_M_wayMany 1 = .ok (.istore_n 1, 1) := by decide +kernel
theorem d_M_wayMany_2 : decode b_M_wayMany 2 = .ok (.iconst 0, 1) := by decide +kernel
theorem d_M_wayMany_3 : decode b_M_wayMany 3 = .ok (.istore_n 2, 1) := by decide +kernel
theorem d_M_wayMany_4 : decode b_M_wayMany 4 = .ok (.iload_n 2, 1) := by decide +kernel
theorem d_M_wayMany_5 : decode b_M_wayMany 5 = .ok (.bipush 24, 2) := by decide +kernel
theorem d_M_wayMany_7 : decode b_M_wayMany 7 = .ok (.aload_n 0, 1) := by decide +kernel
theorem d_M_wayMany_8 : decode b_M_wayMany 8 = .ok (.getfield 13, 3) := by decide +kernel
theorem d_M_wayMany_11 : decode b_M_wayMany 11 = .ok (.imul, 1) := by decide +kernel
theorem d_M_wayMany_12 : decode b_M_wayMany 12 = .ok (.if_icmp .ge 38, 3) := by decide +kernel
theorem d_M_wayMany_15 : decode b_M_wayMany 15 = .ok (.iconst 0, 1) := by decide +kernel
theorem d_M_wayMany_16 : decode b_M_wayMany 16 = .ok (.istore_n 3, 1) := by decide +kernel
theorem d_M_wayMany_17 : decode b_M_wayMany 17 = .ok (.iload_n 3, 1) := by decide +kernel
theorem d_M_wayMany_18 : decode b_M_wayMany 18 = .ok (.aload_n 0, 1) := by decide +kernel
theorem d_M_wayMany_19 : decode b_M_wayMany 19 = .ok (.getfield 7, 3) := by decide +kernel
theorem d_M_wayMany_22 : decode b_M_wayMany 22 = .ok (.if_icmp .ge 22, 3) := by decide +kernel
theorem d_M_wayMany_25 : decode b_M_wayMany 25 = .ok (.iload_n 1, 1) := by decide +kernel
theorem d_M_wayMany_26 : decode b_M_wayMany 26 = .ok (.aload_n 0, 1) := by decide +kernel
theorem d_M_wayMany_27 : decode b_M_wayMany 27 = .ok (.getfield 16, 3) := by decide +kernel
theorem d_M_wayMany_30 : decode b_M_wayMany 30 = .ok (.iload_n 2, 1) := by decide +kernel
theorem d_M_wayMany_31 : decode b_M_wayMany 31 = .ok (.iaload, 1) := by decide +kernel
theorem d_M_wayMany_32 : decode b_M_wayMany 32 = .ok (.iload_n 3, 1) := by decide +kernel
theorem d_M_wayMany_33 : decode b_M_wayMany 33 = .ok (.ishr, 1) := by decide +kernel
theorem d_M_wayMany_34 : decode b_M_wayMany 34 = .ok (.iconst 1, 1) := by decide +kernel
theorem d_M_wayMany_35 : decode b_M_wayMany 35 = .ok (.iand, 1) := by decide +kernel
theorem d_M_wayMany_36 : decode b_M_wayMany 36 = .ok (.iadd, 1) := by decide +kernel
theorem d_M_wayMany_37 : decode b_M_wayMany 37 = .ok (.istore_n 1, 1) := by decide +kernel
theorem d_M_wayMany_38 : decode b_M_wayMany 38 = .ok (.iinc 3 1, 3) := by decide +kernel
theorem d_M_wayMany_41 : decode b_M_wayMany 41 = .ok (.goto (-24), 3) := by decide +kernel
theorem d_M_wayMany_44 : decode b_M_wayMany 44 = .ok (.iinc 2 1, 3) := by decide +kernel
theorem d_M_wayMany_47 : decode b_M_wayMany 47 = .ok (.goto (-43), 3) := by decide +kernel
theorem d_M_wayMany_50 : decode b_M_wayMany 50 = .ok (.iload_n 1, 1) := by decide +kernel
theorem d_M_wayMany_51 : decode b_M_wayMany 51 = .ok (.ireturn, 1) := by decide +kernel
theorem d_M_somewhere_0 : decode b_M_somewhere 0 = .ok (.iconst 0, 1) := by decide +kernel
theorem d_M_somewhere_1 : decode b_M_somewhere 1 = .ok (.istore_n 1, 1) := by decide +kernel
theorem d_M_somewhere_2 : decode b_M_somewhere 2 = .ok (.iconst 0, 1) := by decide +kernel
theorem d_M_somewhere_3 : decode b_M_somewhere 3 = .ok (.istore_n 2, 1) := by decide +kernel
theorem d_M_somewhere_4 : decode b_M_somewhere 4 = .ok (.iload_n 2, 1) := by decide +kernel
theorem d_M_somewhere_5 : decode b_M_somewhere 5 = .ok (.aload_n 0, 1) := by decide +kernel
theorem d_M_somewhere_6 : decode b_M_somewhere 6 = .ok (.getfield 85, 3) := by decide +kernel
theorem d_M_somewhere_9 : decode b_M_somewhere 9 = .ok (.if_icmp .ge 42, 3) := by decide +kernel
theorem d_M_somewhere_12 : decode b_M_somewhere 12 = .ok (.iconst 0, 1) := by decide +kernel
theorem d_M_somewhere_13 : decode b_M_somewhere 13 = .ok (.istore_n 3, 1) := by decide +kernel
theorem d_M_somewhere_14 : decode b_M_somewhere 14 = .ok (.iload_n 3, 1) := by decide +kernel
theorem d_M_somewhere_15 : decode b_M_somewhere 15 = .ok (.aload_n 0, 1) := by decide +kernel
theorem d_M_somewhere_16 : decode b_M_somewhere 16 = .ok (.getfield 76, 3) := by decide +kernel
theorem d_M_somewhere_19 : decode b_M_somewhere 19 = .ok (.if_icmp .ge 26, 3) := by decide +kernel
theorem d_M_somewhere_22 : decode b_M_somewhere 22 = .ok (.iload_n 1, 1) := by decide +kernel
theorem d_M_somewhere_23 : decode b_M_somewhere 23 = .ok (.aload_n 0, 1) := by decide +kernel
theorem d_M_somewhere_24 : decode b_M_somewhere 24 = .ok (.iload_n 2, 1) := by decide +kernel
theorem d_M_somewhere_25 : decode b_M_somewhere 25 = .ok (.iload_n 3, 1) := by decide +kernel
theorem d_M_somewhere_26 : decode b_M_somewhere 26 = .ok (.invokevirtual 95, 3) := by decide +kernel
theorem d_M_somewhere_29 : decode b_M_somewhere 29 = .ok (.ifCond .lt 7, 3) := by decide +kernel
theorem d_M_somewhere_32 : decode b_M_somewhere 32 = .ok (.iconst 1, 1) := by decide +kernel
theorem d_M_somewhere_33 : decode b_M_somewhere 33 = .ok (.goto 4, 3) := by decide +kernel
theorem d_M_somewhere_36 : decode b_M_somewhere 36 = .ok (.iconst 0, 1) := by decide +kernel
theorem d_M_somewhere_37 : decode b_M_somewhere 37 = .ok (.iadd, 1) := by decide +kernel
theorem d_M_somewhere_38 : decode b_M_somewhere 38 = .ok (.istore_n 1, 1) := by decide +kernel
theorem d_M_somewhere_39 : decode b_M_somewhere 39 = .ok (.iinc 3 1, 3) := by decide +kernel
theorem d_M_somewhere_42 : decode b_M_somewhere 42 = .ok (.goto (-28), 3) := by decide +kernel
theorem d_M_somewhere_45 : decode b_M_somewhere 45 = .ok (.iinc 2 1, 3) := by decide +kernel
theorem d_M_somewhere_48 : decode b_M_somewhere 48 = .ok (.goto (-44), 3) := by decide +kernel
theorem d_M_somewhere_51 : decode b_M_somewhere 51 = .ok (.iload_n 1, 1) := by decide +kernel
theorem d_M_somewhere_52 : decode b_M_somewhere 52 = .ok (.ireturn, 1) := by decide +kernel
theorem d_M_longest_0 : decode b_M_longest 0 = .ok (.iconst 0, 1) := by decide +kernel
theorem d_M_longest_1 : decode b_M_longest 1 = .ok (.istore_n 1, 1) := by decide +kernel
theorem d_M_longest_2 : decode b_M_longest 2 = .ok (.iconst 0, 1) := by decide +kernel
theorem d_M_longest_3 : decode b_M_longest 3 = .ok (.istore_n 2, 1) := by decide +kernel
theorem d_M_longest_4 : decode b_M_longest 4 = .ok (.iload_n 2, 1) := by decide +kernel
theorem d_M_longest_5 : decode b_M_longest 5 = .ok (.aload_n 0, 1) := by decide +kernel
theorem d_M_longest_6 : decode b_M_longest 6 = .ok (.getfield 85, 3) := by decide +kernel
theorem d_M_longest_9 : decode b_M_longest 9 = .ok (.if_icmp .ge 58, 3) := by decide +kernel
theorem d_M_longest_12 : decode b_M_longest 12 = .ok (.iconst 0, 1) := by decide +kernel
theorem d_M_longest_13 : decode b_M_longest 13 = .ok (.istore_n 3, 1) := by decide +kernel
theorem d_M_longest_14 : decode b_M_longest 14 = .ok (.iload_n 3, 1) := by decide +kernel
theorem d_M_longest_15 : decode b_M_longest 15 = .ok (.iload_n 2, 1) := by decide +kernel
theorem d_M_longest_16 : decode b_M_longest 16 = .ok (.if_icmp .ge 45, 3) := by decide +kernel
theorem d_M_longest_19 : decode b_M_longest 19 = .ok (.aload_n 0, 1) := by decide +kernel
theorem d_M_longest_20 : decode b_M_longest 20 = .ok (.getfield 26, 3) := by decide +kernel
theorem d_M_longest_23 : decode b_M_longest 23 = .ok (.bipush 120, 2) := by decide +kernel
theorem d_M_longest_25 : decode b_M_longest 25 = .ok (.aload_n 0, 1) := by decide +kernel
theorem d_M_longest_26 : decode b_M_longest 26 = .ok (.getfield 35, 3) := by decide +kernel
theorem d_M_longest_29 : decode b_M_longest 29 = .ok (.iload_n 2, 1) := by decide +kernel
theorem d_M_longest_30 : decode b_M_longest 30 = .ok (.iaload, 1) := by decide +kernel
theorem d_M_longest_31 : decode b_M_longest 31 = .ok (.imul, 1) := by decide +kernel
theorem d_M_longest_32 : decode b_M_longest 32 = .ok (.aload_n 0, 1) := by decide +kernel
theorem d_M_longest_33 : decode b_M_longest 33 = .ok (.getfield 35, 3) := by decide +kernel
theorem d_M_longest_36 : decode b_M_longest 36 = .ok (.iload_n 3, 1) := by decide +kernel
theorem d_M_longest_37 : decode b_M_longest 37 = .ok (.iaload, 1) := by decide +kernel
theorem d_M_longest_38 : decode b_M_longest 38 = .ok (.iadd, 1) := by decide +kernel
theorem d_M_longest_39 : decode b_M_longest 39 = .ok (.iaload, 1) := by decide +kernel
theorem d_M_longest_40 : decode b_M_longest 40 = .ok (.istore 4, 2) := by decide +kernel
theorem d_M_longest_42 : decode b_M_longest 42 = .ok (.iload 4, 2) := by decide +kernel
theorem d_M_longest_44 : decode b_M_longest 44 = .ok (.iload_n 1, 1) := by decide +kernel
theorem d_M_longest_45 : decode b_M_longest 45 = .ok (.if_icmp .le 8, 3) := by decide +kernel
theorem d_M_longest_48 : decode b_M_longest 48 = .ok (.iload 4, 2) := by decide +kernel
theorem d_M_longest_50 : decode b_M_longest 50 = .ok (.goto 4, 3) := by decide +kernel
theorem d_M_longest_53 : decode b_M_longest 53 = .ok (.iload_n 1, 1) := by decide +kernel
theorem d_M_longest_54 : decode b_M_longest 54 = .ok (.istore_n 1, 1) := by decide +kernel
theorem d_M_longest_55 : decode b_M_longest 55 = .ok (.iinc 3 1, 3) := by decide +kernel
theorem d_M_longest_58 : decode b_M_longest 58 = .ok (.goto (-44), 3) := by decide +kernel
theorem d_M_longest_61 : decode b_M_longest 61 = .ok (.iinc 2 1, 3) := by decide +kernel
theorem d_M_longest_64 : decode b_M_longest 64 = .ok (.goto (-60), 3) := by decide +kernel
theorem d_M_longest_67 : decode b_M_longest 67 = .ok (.iload_n 1, 1) := by decide +kernel
theorem d_M_longest_68 : decode b_M_longest 68 = .ok (.ireturn, 1) := by decide +kernel
theorem d_G_init_0 : decode b_G_init 0 = .ok (.aload_n 0, 1) := by decide +kernel
theorem d_G_init_1 : decode b_G_init 1 = .ok (.invokespecial 3, 3) := by decide +kernel
theorem d_G_init_4 : decode b_G_init 4 = .ok (.aload_n 0, 1) := by decide +kernel
theorem d_G_init_5 : decode b_G_init 5 = .ok (.iconst 1, 1) := by decide +kernel
theorem d_G_init_6 : decode b_G_init 6 = .ok (.putfield 9, 3) := by decide +kernel
theorem d_G_init_9 : decode b_G_init 9 = .ok (.aload_n 0, 1) := by decide +kernel
theorem d_G_init_10 : decode b_G_init 10 = .ok (.iconst 1, 1) := by decide +kernel
theorem d_G_init_11 : decode b_G_init 11 = .ok (.putfield 15, 3) := by decide +kernel
theorem d_G_init_14 : decode b_G_init 14 = .ok (.aload_n 0, 1) := by decide +kernel
theorem d_G_init_15 : decode b_G_init 15 = .ok (.iconst 0, 1) := by decide +kernel
theorem d_G_init_16 : decode b_G_init 16 = .ok (.putfield 18, 3) := by decide +kernel
theorem d_G_init_19 : decode b_G_init 19 = .ok (.aload_n 0, 1) := by decide +kernel
theorem d_G_init_20 : decode b_G_init 20 = .ok (.sipush 960, 3) := by decide +kernel
theorem d_G_init_23 : decode b_G_init 23 = .ok (.newarray .int, 2) := by decide +kernel
theorem d_G_init_25 : decode b_G_init 25 = .ok (.putfield 21, 3) := by decide +kernel
theorem d_G_init_28 : decode b_G_init 28 = .ok (.return_, 1) := by decide +kernel
theorem d_T_init_0 : decode b_T_init 0 = .ok (.aload_n 0, 1) := by decide +kernel
theorem d_T_init_1 : decode b_T_init 1 = .ok (.invokespecial 3, 3) := by decide +kernel
theorem d_T_init_4 : decode b_T_init 4 = .ok (.aload_n 0, 1) := by decide +kernel
theorem d_T_init_5 : decode b_T_init 5 = .ok (.iconst 1, 1) := by decide +kernel
theorem d_T_init_6 : decode b_T_init 6 = .ok (.putfield 9, 3) := by decide +kernel
theorem d_T_init_9 : decode b_T_init 9 = .ok (.aload_n 0, 1) := by decide +kernel
theorem d_T_init_10 : decode b_T_init 10 = .ok (.iconst 1, 1) := by decide +kernel
theorem d_T_init_11 : decode b_T_init 11 = .ok (.putfield 15, 3) := by decide +kernel
theorem d_T_init_14 : decode b_T_init 14 = .ok (.aload_n 0, 1) := by decide +kernel
theorem d_T_init_15 : decode b_T_init 15 = .ok (.iconst 1, 1) := by decide +kernel
theorem d_T_init_16 : decode b_T_init 16 = .ok (.putfield 18, 3) := by decide +kernel
theorem d_T_init_19 : decode b_T_init 19 = .ok (.aload_n 0, 1) := by decide +kernel
theorem d_T_init_20 : decode b_T_init 20 = .ok (.iconst 0, 1) := by decide +kernel
theorem d_T_init_21 : decode b_T_init 21 = .ok (.putfield 21, 3) := by decide +kernel
theorem d_T_init_24 : decode b_T_init 24 = .ok (.aload_n 0, 1) := by decide +kernel
theorem d_T_init_25 : decode b_T_init 25 = .ok (.bipush 120, 2) := by decide +kernel
theorem d_T_init_27 : decode b_T_init 27 = .ok (.newarray .int, 2) := by decide +kernel
theorem d_T_init_29 : decode b_T_init 29 = .ok (.putfield 24, 3) := by decide +kernel
theorem d_T_init_32 : decode b_T_init 32 = .ok (.aload_n 0, 1) := by decide +kernel
theorem d_T_init_33 : decode b_T_init 33 = .ok (.bipush 120, 2) := by decide +kernel
theorem d_T_init_35 : decode b_T_init 35 = .ok (.newarray .int, 2) := by decide +kernel
theorem d_T_init_37 : decode b_T_init 37 = .ok (.putfield 28, 3) := by decide +kernel
theorem d_T_init_40 : decode b_T_init 40 = .ok (.aload_n 0, 1) := by decide +kernel
theorem d_T_init_41 : decode b_T_init 41 = .ok (.sipush 4800, 3) := by decide +kernel
theorem d_T_init_44 : decode b_T_init 44 = .ok (.newarray .int, 2) := by decide +kernel
theorem d_T_init_46 : decode b_T_init 46 = .ok (.putfield 31, 3) := by decide +kernel
theorem d_T_init_49 : decode b_T_init 49 = .ok (.aload_n 0, 1) := by decide +kernel
theorem d_T_init_50 : decode b_T_init 50 = .ok (.bipush 120, 2) := by decide +kernel
theorem d_T_init_52 : decode b_T_init 52 = .ok (.newarray .int, 2) := by decide +kernel
theorem d_T_init_54 : decode b_T_init 54 = .ok (.putfield 34, 3) := by decide +kernel
theorem d_T_init_57 : decode b_T_init 57 = .ok (.aload_n 0, 1) := by decide +kernel
theorem d_T_init_58 : decode b_T_init 58 = .ok (.bipush 120, 2) := by decide +kernel
theorem d_T_init_60 : decode b_T_init 60 = .ok (.newarray .int, 2) := by decide +kernel
theorem d_T_init_62 : decode b_T_init 62 = .ok (.putfield 37, 3) := by decide +kernel
theorem d_T_init_65 : decode b_T_init 65 = .ok (.aload_n 0, 1) := by decide +kernel
theorem d_T_init_66 : decode b_T_init 66 = .ok (.bipush 120, 2) := by decide +kernel
theorem d_T_init_68 : decode b_T_init 68 = .ok (.newarray .int, 2) := by decide +kernel
theorem d_T_init_70 : decode b_T_init 70 = .ok (.putfield 40, 3) := by decide +kernel
theorem d_T_init_73 : decode b_T_init 73 = .ok (.aload_n 0, 1) := by decide +kernel
theorem d_T_init_74 : decode b_T_init 74 = .ok (.bipush 120, 2) := by decide +kernel
theorem d_T_init_76 : decode b_T_init 76 = .ok (.newarray .int, 2) := by decide +kernel
theorem d_T_init_78 : decode b_T_init 78 = .ok (.putfield 43, 3) := by decide +kernel
theorem d_T_init_81 : decode b_T_init 81 = .ok (.aload_n 0, 1) := by decide +kernel
theorem d_T_init_82 : decode b_T_init 82 = .ok (.sipush 7140, 3) := by decide +kernel
theorem d_T_init_85 : decode b_T_init 85 = .ok (.newarray .int, 2) := by decide +kernel
theorem d_T_init_87 : decode b_T_init 87 = .ok (.putfield 46, 3) := by decide +kernel
theorem d_T_init_90 : decode b_T_init 90 = .ok (.aload_n 0, 1) := by decide +kernel
theorem d_T_init_91 : decode b_T_init 91 = .ok (.getfield 24, 3) := by decide +kernel
theorem d_T_init_94 : decode b_T_init 94 = .ok (.iconst 0, 1) := by decide +kernel
theorem d_T_init_95 : decode b_T_init 95 = .ok (.iconst 1, 1) := by decide +kernel
theorem d_T_init_96 : decode b_T_init 96 = .ok (.iastore, 1) := by decide +kernel
theorem d_T_init_97 : decode b_T_init 97 = .ok (.aload_n 0, 1) := by decide +kernel
theorem d_T_init_98 : decode b_T_init 98 = .ok (.getfield 31, 3) := by decide +kernel
theorem d_T_init_101 : decode b_T_init 101 = .ok (.iconst 0, 1) := by decide +kernel
theorem d_T_init_102 : decode b_T_init 102 = .ok (.iconst (-1), 1) := by decide +kernel
theorem d_T_init_103 : decode b_T_init 103 = .ok (.iastore, 1) := by decide +kernel
theorem d_T_init_104 : decode b_T_init 104 = .ok (.return_, 1) := by decide +kernel
theorem d_W_init_0 : decode b_W_init 0 = .ok (.aload_n 0, 1) := by decide +kernel
theorem d_W_init_1 : decode b_W_init 1 = .ok (.invokespecial 3, 3) := by decide +kernel
theorem d_W_init_4 : decode b_W_init 4 = .ok (.aload_n 0, 1) := by decide +kernel
theorem d_W_init_5 : decode b_W_init 5 = .ok (.new 9, 3) := by decide +kernel
theorem d_W_init_8 : decode b_W_init 8 = .ok (.dup, 1) := by decide +kernel
theorem d_W_init_9 : decode b_W_init 9 = .ok (.invokespecial 11, 3) := by decide +kernel
theorem d_W_init_12 : decode b_W_init 12 = .ok (.putfield 12, 3) := by decide +kernel
theorem d_W_init_15 : decode b_W_init 15 = .ok (.aload_n 0, 1) := by decide +kernel
theorem d_W_init_16 : decode b_W_init 16 = .ok (.new 16, 3) := by decide +kernel
theorem d_W_init_19 : decode b_W_init 19 = .ok (.dup, 1) := by decide +kernel
theorem d_W_init_20 : decode b_W_init 20 = .ok (.invokespecial 18, 3) := by decide +kernel
theorem d_W_init_23 : decode b_W_init 23 = .ok (.putfield 19, 3) := by decide +kernel
theorem d_W_init_26 : decode b_W_init 26 = .ok (.aload_n 0, 1) := by decide +kernel
theorem d_W_init_27 : decode b_W_init 27 = .ok (.iconst 0, 1) := by decide +kernel
theorem d_W_init_28 : decode b_W_init 28 = .ok (.putfield 23, 3) := by decide +kernel
theorem d_W_init_31 : decode b_W_init 31 = .ok (.return_, 1) := by decide +kernel
theorem d_M_init_0 : decode b_M_init 0 = .ok (.aload_n 0, 1) := by decide +kernel
theorem d_M_init_1 : decode b_M_init 1 = .ok (.invokespecial 1, 3) := by decide +kernel
theorem d_M_init_4 : decode b_M_init 4 = .ok (.aload_n 0, 1) := by decide +kernel
theorem d_M_init_5 : decode b_M_init 5 = .ok (.iconst 1, 1) := by decide +kernel
theorem d_M_init_6 : decode b_M_init 6 = .ok (.putfield 7, 3) := by decide +kernel
theorem d_M_init_9 : decode b_M_init 9 = .ok (.aload_n 0, 1) := by decide +kernel
theorem d_M_init_10 : decode b_M_init 10 = .ok (.iconst 1, 1) := by decide +kernel
theorem d_M_init_11 : decode b_M_init 11 = .ok (.putfield 13, 3) := by decide +kernel
theorem d_M_init_14 : decode b_M_init 14 = .ok (.aload_n 0, 1) := by decide +kernel
theorem d_M_init_15 : decode b_M_init 15 = .ok (.sipush 960, 3) := by decide +kernel
theorem d_M_init_18 : decode b_M_init 18 = .ok (.newarray .int, 2) := by decide +kernel
theorem d_M_init_20 : decode b_M_init 20 = .ok (.putfield 16, 3) := by decide +kernel
theorem d_M_init_23 : decode b_M_init 23 = .ok (.aload_n 0, 1) := by decide +kernel
theorem d_M_init_24 : decode b_M_init 24 = .ok (.bipush 120, 2) := by decide +kernel
theorem d_M_init_26 : decode b_M_init 26 = .ok (.newarray .int, 2) := by decide +kernel
theorem d_M_init_28 : decode b_M_init 28 = .ok (.putfield 20, 3) := by decide +kernel
theorem d_M_init_31 : decode b_M_init 31 = .ok (.aload_n 0, 1) := by decide +kernel
theorem d_M_init_32 : decode b_M_init 32 = .ok (.sipush 4800, 3) := by decide +kernel
theorem d_M_init_35 : decode b_M_init 35 = .ok (.newarray .int, 2) := by decide +kernel
theorem d_M_init_37 : decode b_M_init 37 = .ok (.putfield 23, 3) := by decide +kernel
theorem d_M_init_40 : decode b_M_init 40 = .ok (.aload_n 0, 1) := by decide +kernel
theorem d_M_init_41 : decode b_M_init 41 = .ok (.sipush 14400, 3) := by decide +kernel
theorem d_M_init_44 : decode b_M_init 44 = .ok (.newarray .int, 2) := by decide +kernel
theorem d_M_init_46 : decode b_M_init 46 = .ok (.putfield 26, 3) := by decide +kernel
theorem d_M_init_49 : decode b_M_init 49 = .ok (.aload_n 0, 1) := by decide +kernel
theorem d_M_init_50 : decode b_M_init 50 = .ok (.sipush 14400, 3) := by decide +kernel
theorem d_M_init_53 : decode b_M_init 53 = .ok (.newarray .int, 2) := by decide +kernel
theorem d_M_init_55 : decode b_M_init 55 = .ok (.putfield 29, 3) := by decide +kernel
theorem d_M_init_58 : decode b_M_init 58 = .ok (.aload_n 0, 1) := by decide +kernel
theorem d_M_init_59 : decode b_M_init 59 = .ok (.bipush 120, 2) := by decide +kernel
theorem d_M_init_61 : decode b_M_init 61 = .ok (.newarray .int, 2) := by decide +kernel
theorem d_M_init_63 : decode b_M_init 63 = .ok (.putfield 32, 3) := by decide +kernel
theorem d_M_init_66 : decode b_M_init 66 = .ok (.aload_n 0, 1) := by decide +kernel
theorem d_M_init_67 : decode b_M_init 67 = .ok (.bipush 120, 2) := by decide +kernel
theorem d_M_init_69 : decode b_M_init 69 = .ok (.newarray .int, 2) := by decide +kernel
theorem d_M_init_71 : decode b_M_init 71 = .ok (.putfield 35, 3) := by decide +kernel
theorem d_M_init_74 : decode b_M_init 74 = .ok (.aload_n 0, 1) := by decide +kernel
theorem d_M_init_75 : decode b_M_init 75 = .ok (.bipush 121, 2) := by decide +kernel
theorem d_M_init_77 : decode b_M_init 77 = .ok (.newarray .int, 2) := by decide +kernel
theorem d_M_init_79 : decode b_M_init 79 = .ok (.putfield 38, 3) := by decide +kernel
theorem d_M_init_82 : decode b_M_init 82 = .ok (.aload_n 0, 1) := by decide +kernel
theorem d_M_init_83 : decode b_M_init 83 = .ok (.sipush 4800, 3) := by decide +kernel
theorem d_M_init_86 : decode b_M_init 86 = .ok (.newarray .int, 2) := by decide +kernel
theorem d_M_init_88 : decode b_M_init 88 = .ok (.putfield 41, 3) := by decide +kernel
theorem d_M_init_91 : decode b_M_init 91 = .ok (.aload_n 0, 1) := by decide +kernel
theorem d_M_init_92 : decode b_M_init 92 = .ok (.invokevirtual 44, 3) := by decide +kernel
