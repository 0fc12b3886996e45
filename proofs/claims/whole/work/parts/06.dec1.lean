theorem d_W_begin_0 : decode b_W_begin 0 = .ok (.iload_n 1, 1) := by decide +kernel
theorem d_W_begin_1 : decode b_W_begin 1 = .ok (.iconst 1, 1) := by decide +kernel
theorem d_W_begin_2 : decode b_W_begin 2 = .ok (.if_icmp .lt 20, 3) := by decide +kernel
theorem d_W_begin_5 : decode b_W_begin 5 = .ok (.iload_n 1, 1) := by decide +kernel
theorem d_W_begin_6 : decode b_W_begin 6 = .ok (.bipush 24, 2) := by decide +kernel
theorem d_W_begin_8 : decode b_W_begin 8 = .ok (.if_icmp .gt 14, 3) := by decide +kernel
theorem d_W_begin_11 : decode b_W_begin 11 = .ok (.iload_n 2, 1) := by decide +kernel
theorem d_W_begin_12 : decode b_W_begin 12 = .ok (.iconst 1, 1) := by decide +kernel
theorem d_W_begin_13 : decode b_W_begin 13 = .ok (.if_icmp .lt 9, 3) := by decide +kernel
theorem d_W_begin_16 : decode b_W_begin 16 = .ok (.iload_n 2, 1) := by decide +kernel
theorem d_W_begin_17 : decode b_W_begin 17 = .ok (.bipush 40, 2) := by decide +kernel
theorem d_W_begin_19 : decode b_W_begin 19 = .ok (.if_icmp .le 5, 3) := by decide +kernel
theorem d_W_begin_22 : decode b_W_begin 22 = .ok (.iconst 0, 1) := by decide +kernel
theorem d_W_begin_23 : decode b_W_begin 23 = .ok (.ireturn, 1) := by decide +kernel
theorem d_W_begin_24 : decode b_W_begin 24 = .ok (.aload_n 0, 1) := by decide +kernel
theorem d_W_begin_25 : decode b_W_begin 25 = .ok (.getfield 12, 3) := by decide +kernel
theorem d_W_begin_28 : decode b_W_begin 28 = .ok (.iload_n 1, 1) := by decide +kernel
theorem d_W_begin_29 : decode b_W_begin 29 = .ok (.iload_n 2, 1) := by decide +kernel
theorem d_W_begin_30 : decode b_W_begin 30 = .ok (.invokevirtual 27, 3) := by decide +kernel
theorem d_W_begin_33 : decode b_W_begin 33 = .ok (.iconst 1, 1) := by decide +kernel
theorem d_W_begin_34 : decode b_W_begin 34 = .ok (.ireturn, 1) := by decide +kernel
theorem d_G_clear_0 : decode b_G_clear 0 = .ok (.aload_n 0, 1) := by decide +kernel
theorem d_G_clear_1 : decode b_G_clear 1 = .ok (.iload_n 1, 1) := by decide +kernel
theorem d_G_clear_2 : decode b_G_clear 2 = .ok (.putfield 9, 3) := by decide +kernel
theorem d_G_clear_5 : decode b_G_clear 5 = .ok (.aload_n 0, 1) := by decide +kernel
theorem d_G_clear_6 : decode b_G_clear 6 = .ok (.iload_n 2, 1) := by decide +kernel
theorem d_G_clear_7 : decode b_G_clear 7 = .ok (.putfield 15, 3) := by decide +kernel
theorem d_G_clear_10 : decode b_G_clear 10 = .ok (.aload_n 0, 1) := by decide +kernel
theorem d_G_clear_11 : decode b_G_clear 11 = .ok (.iconst 0, 1) := by decide +kernel
theorem d_G_clear_12 : decode b_G_clear 12 = .ok (.putfield 18, 3) := by decide +kernel
theorem d_G_clear_15 : decode b_G_clear 15 = .ok (.aload_n 0, 1) := by decide +kernel
theorem d_G_clear_16 : decode b_G_clear 16 = .ok (.getfield 21, 3) := by decide +kernel
theorem d_G_clear_19 : decode b_G_clear 19 = .ok (.iconst 0, 1) := by decide +kernel
theorem d_G_clear_20 : decode b_G_clear 20 = .ok (.invokestatic 25, 3) := by decide +kernel
theorem d_G_clear_23 : decode b_G_clear 23 = .ok (.return_, 1) := by decide +kernel
theorem d_A_fill2_0 : decode b_A_fill2 0 = .ok (.iconst 0, 1) := by decide +kernel
theorem d_A_fill2_1 : decode b_A_fill2 1 = .ok (.istore_n 2, 1) := by decide +kernel
theorem d_A_fill2_2 : decode b_A_fill2 2 = .ok (.aload_n 0, 1) := by decide +kernel
theorem d_A_fill2_3 : decode b_A_fill2 3 = .ok (.arraylength, 1) := by decide +kernel
theorem d_A_fill2_4 : decode b_A_fill2 4 = .ok (.istore_n 3, 1) := by decide +kernel
theorem d_A_fill2_5 : decode b_A_fill2 5 = .ok (.iload_n 2, 1) := by decide +kernel
theorem d_A_fill2_6 : decode b_A_fill2 6 = .ok (.iload_n 3, 1) := by decide +kernel
theorem d_A_fill2_7 : decode b_A_fill2 7 = .ok (.if_icmp .ge 13, 3) := by decide +kernel
theorem d_A_fill2_10 : decode b_A_fill2 10 = .ok (.aload_n 0, 1) := by decide +kernel
theorem d_A_fill2_11 : decode b_A_fill2 11 = .ok (.iload_n 2, 1) := by decide +kernel
theorem d_A_fill2_12 : decode b_A_fill2 12 = .ok (.iload_n 1, 1) := by decide +kernel
theorem d_A_fill2_13 : decode b_A_fill2 13 = .ok (.iastore, 1) := by decide +kernel
theorem d_A_fill2_14 : decode b_A_fill2 14 = .ok (.iinc 2 1, 3) := by decide +kernel
theorem d_A_fill2_17 : decode b_A_fill2 17 = .ok (.goto (-12), 3) := by decide +kernel
theorem d_A_fill2_20 : decode b_A_fill2 20 = .ok (.return_, 1) := by decide +kernel
theorem d_M_begin_0 : decode b_M_begin 0 = .ok (.aload_n 0, 1) := by decide +kernel
theorem d_M_begin_1 : decode b_M_begin 1 = .ok (.iconst 0, 1) := by decide +kernel
theorem d_M_begin_2 : decode b_M_begin 2 = .ok (.putfield 48, 3) := by decide +kernel
theorem d_M_begin_5 : decode b_M_begin 5 = .ok (.iload_n 1, 1) := by decide +kernel
theorem d_M_begin_6 : decode b_M_begin 6 = .ok (.iconst 1, 1) := by decide +kernel
theorem d_M_begin_7 : decode b_M_begin 7 = .ok (.if_icmp .lt 20, 3) := by decide +kernel
theorem d_M_begin_10 : decode b_M_begin 10 = .ok (.iload_n 1, 1) := by decide +kernel
theorem d_M_begin_11 : decode b_M_begin 11 = .ok (.bipush 24, 2) := by decide +kernel
theorem d_M_begin_13 : decode b_M_begin 13 = .ok (.if_icmp .gt 14, 3) := by decide +kernel
theorem d_M_begin_16 : decode b_M_begin 16 = .ok (.iload_n 2, 1) := by decide +kernel
theorem d_M_begin_17 : decode b_M_begin 17 = .ok (.iconst 1, 1) := by decide +kernel
theorem d_M_begin_18 : decode b_M_begin 18 = .ok (.if_icmp .lt 9, 3) := by decide +kernel
theorem d_M_begin_21 : decode b_M_begin 21 = .ok (.iload_n 2, 1) := by decide +kernel
theorem d_M_begin_22 : decode b_M_begin 22 = .ok (.bipush 40, 2) := by decide +kernel
theorem d_M_begin_24 : decode b_M_begin 24 = .ok (.if_icmp .le 5, 3) := by decide +kernel
theorem d_M_begin_27 : decode b_M_begin 27 = .ok (.iconst 0, 1) := by decide +kernel
theorem d_M_begin_28 : decode b_M_begin 28 = .ok (.ireturn, 1) := by decide +kernel
theorem d_M_begin_29 : decode b_M_begin 29 = .ok (.aload_n 0, 1) := by decide +kernel
theorem d_M_begin_30 : decode b_M_begin 30 = .ok (.iload_n 1, 1) := by decide +kernel
theorem d_M_begin_31 : decode b_M_begin 31 = .ok (.putfield 7, 3) := by decide +kernel
theorem d_M_begin_34 : decode b_M_begin 34 = .ok (.aload_n 0, 1) := by decide +kernel
theorem d_M_begin_35 : decode b_M_begin 35 = .ok (.iload_n 2, 1) := by decide +kernel
theorem d_M_begin_36 : decode b_M_begin 36 = .ok (.putfield 13, 3) := by decide +kernel
theorem d_M_begin_39 : decode b_M_begin 39 = .ok (.aload_n 0, 1) := by decide +kernel
theorem d_M_begin_40 : decode b_M_begin 40 = .ok (.iconst 0, 1) := by decide +kernel
theorem d_M_begin_41 : decode b_M_begin 41 = .ok (.putfield 51, 3) := by decide +kernel
theorem d_M_begin_44 : decode b_M_begin 44 = .ok (.iconst 0, 1) := by decide +kernel
theorem d_M_begin_45 : decode b_M_begin 45 = .ok (.istore_n 3, 1) := by decide +kernel
theorem d_M_begin_46 : decode b_M_begin 46 = .ok (.iload_n 3, 1) := by decide +kernel
theorem d_M_begin_47 : decode b_M_begin 47 = .ok (.sipush 960, 3) := by decide +kernel
theorem d_M_begin_50 : decode b_M_begin 50 = .ok (.if_icmp .ge 16, 3) := by decide +kernel
theorem d_M_begin_53 : decode b_M_begin 53 = .ok (.aload_n 0, 1) := by decide +kernel
theorem d_M_begin_54 : decode b_M_begin 54 = .ok (.getfield 16, 3) := by decide +kernel
theorem d_M_begin_57 : decode b_M_begin 57 = .ok (.iload_n 3, 1) := by decide +kernel
theorem d_M_begin_58 : decode b_M_begin 58 = .ok (.iconst 0, 1) := by decide +kernel
theorem d_M_begin_59 : decode b_M_begin 59 = .ok (.iastore, 1) := by decide +kernel
theorem d_M_begin_60 : decode b_M_begin 60 = .ok (.iinc 3 1, 3) := by decide +kernel
theorem d_M_begin_63 : decode b_M_begin 63 = .ok (.goto (-17), 3) := by decide +kernel
theorem d_M_begin_66 : decode b_M_begin 66 = .ok (.iconst 1, 1) := by decide +kernel
theorem d_M_begin_67 : decode b_M_begin 67 = .ok (.ireturn, 1) := by decide +kernel
theorem d_W_way_0 : decode b_W_way 0 = .ok (.aload_n 0, 1) := by decide +kernel
theorem d_W_way_1 : decode b_W_way 1 = .ok (.getfield 12, 3) := by decide +kernel
theorem d_W_way_4 : decode b_W_way 4 = .ok (.iload_n 1, 1) := by decide +kernel
theorem d_W_way_5 : decode b_W_way 5 = .ok (.iload_n 2, 1) := by decide +kernel
theorem d_W_way_6 : decode b_W_way 6 = .ok (.iload_n 3, 1) := by decide +kernel
theorem d_W_way_7 : decode b_W_way 7 = .ok (.invokevirtual 31, 3) := by decide +kernel
theorem d_W_way_10 : decode b_W_way 10 = .ok (.ifCond .eq 18, 3) := by decide +kernel
theorem d_W_way_13 : decode b_W_way 13 = .ok (.aload_n 0, 1) := by decide +kernel
theorem d_W_way_14 : decode b_W_way 14 = .ok (.getfield 12, 3) := by decide +kernel
theorem d_W_way_17 : decode b_W_way 17 = .ok (.iload_n 1, 1) := by decide +kernel
theorem d_W_way_18 : decode b_W_way 18 = .ok (.iload_n 2, 1) := by decide +kernel
theorem d_W_way_19 : decode b_W_way 19 = .ok (.iload_n 3, 1) := by decide +kernel
theorem d_W_way_20 : decode b_W_way 20 = .ok (.invokevirtual 35, 3) := by decide +kernel
theorem d_W_way_23 : decode b_W_way 23 = .ok (.iload 4, 2) := by decide +kernel
theorem d_W_way_25 : decode b_W_way 25 = .ok (.if_icmp .ne 5, 3) := by decide +kernel
theorem d_W_way_28 : decode b_W_way 28 = .ok (.iconst 0, 1) := by decide +kernel
theorem d_W_way_29 : decode b_W_way 29 = .ok (.ireturn, 1) := by decide +kernel
theorem d_W_way_30 : decode b_W_way 30 = .ok (.aload_n 0, 1) := by decide +kernel
theorem d_W_way_31 : decode b_W_way 31 = .ok (.getfield 12, 3) := by decide +kernel
theorem d_W_way_34 : decode b_W_way 34 = .ok (.iload_n 1, 1) := by decide +kernel
theorem d_W_way_35 : decode b_W_way 35 = .ok (.iload_n 2, 1) := by decide +kernel
theorem d_W_way_36 : decode b_W_way 36 = .ok (.iload_n 3, 1) := by decide +kernel
theorem d_W_way_37 : decode b_W_way 37 = .ok (.invokevirtual 38, 3) := by decide +kernel
theorem d_W_way_40 : decode b_W_way 40 = .ok (.iconst 1, 1) := by decide +kernel
theorem d_W_way_41 : decode b_W_way 41 = .ok (.ireturn, 1) := by decide +kernel
theorem d_G_canHold_0 : decode b_G_canHold 0 = .ok (.aload_n 0, 1) := by decide +kernel
theorem d_G_canHold_1 : decode b_G_canHold 1 = .ok (.iload_n 1, 1) := by decide +kernel
theorem d_G_canHold_2 : decode b_G_canHold 2 = .ok (.invokevirtual 31, 3) := by decide +kernel
theorem d_G_canHold_5 : decode b_G_canHold 5 = .ok (.ifCond .eq 23, 3) := by decide +kernel
theorem d_G_canHold_8 : decode b_G_canHold 8 = .ok (.aload_n 0, 1) := by decide +kernel
theorem d_G_canHold_9 : decode b_G_canHold 9 = .ok (.iload_n 2, 1) := by decide +kernel
theorem d_G_canHold_10 : decode b_G_canHold 10 = .ok (.invokevirtual 35, 3) := by decide +kernel
theorem d_G_canHold_13 : decode b_G_canHold 13 = .ok (.ifCond .eq 15, 3) := by decide +kernel
theorem d_G_canHold_16 : decode b_G_canHold 16 = .ok (.aload_n 0, 1) := by decide +kernel
theorem d_G_canHold_17 : decode b_G_canHold 17 = .ok (.iload_n 3, 1) := by decide +kernel
theorem d_G_canHold_18 : decode b_G_canHold 18 = .ok (.invokevirtual 31, 3) := by decide +kernel
theorem d_G_canHold_21 : decode b_G_canHold 21 = .ok (.ifCond .eq 7, 3) := by decide +kernel
theorem d_G_canHold_24 : decode b_G_canHold 24 = .ok (.iconst 1, 1) := by decide +kernel
theorem d_G_canHold_25 : decode b_G_canHold 25 = .ok (.goto 4, 3) := by decide +kernel
theorem d_G_canHold_28 : decode b_G_canHold 28 = .ok (.iconst 0, 1) := by decide +kernel
theorem d_G_canHold_29 : decode b_G_canHold 29 = .ok (.ireturn, 1) := by decide +kernel
theorem d_G_hasNode_0 : decode b_G_hasNode 0 = .ok (.iload_n 1, 1) := by decide +kernel
theorem d_G_hasNode_1 : decode b_G_hasNode 1 = .ok (.ifCond .lt 15, 3) := by decide +kernel
theorem d_G_hasNode_4 : decode b_G_hasNode 4 = .ok (.iload_n 1, 1) := by decide +kernel
theorem d_G_hasNode_5 : decode b_G_hasNode 5 = .ok (.aload_n 0, 1) := by decide +kernel
theorem d_G_hasNode_6 : decode b_G_hasNode 6 = .ok (.getfield 9, 3) := by decide +kernel
theorem d_G_hasNode_9 : decode b_G_hasNode 9 = .ok (.if_icmp .ge 7, 3) := by decide +kernel
theorem d_G_hasNode_12 : decode b_G_hasNode 12 = .ok (.iconst 1, 1) := by decide +kernel
theorem d_G_hasNode_13 : decode b_G_hasNode 13 = .ok (.goto 4, 3) := by decide +kernel
theorem d_G_hasNode_16 : decode b_G_hasNode 16 = .ok (.iconst 0, 1) := by decide +kernel
theorem d_G_hasNode_17 : decode b_G_hasNode 17 = .ok (.ireturn, 1) := by decide +kernel
theorem d_G_hasLetter_0 : decode b_G_hasLetter 0 = .ok (.iload_n 1, 1) := by decide +kernel
theorem d_G_hasLetter_1 : decode b_G_hasLetter 1 = .ok (.ifCond .lt 15, 3) := by decide +kernel
theorem d_G_hasLetter_4 : decode b_G_hasLetter 4 = .ok (.iload_n 1, 1) := by decide +kernel
theorem d_G_hasLetter_5 : decode b_G_hasLetter 5 = .ok (.aload_n 0, 1) := by decide +kernel
theorem d_G_hasLetter_6 : decode b_G_hasLetter 6 = .ok (.getfield 15, 3) := by decide +kernel
theorem d_G_hasLetter_9 : decode b_G_hasLetter 9 = .ok (.if_icmp .ge 7, 3) := by decide +kernel
theorem d_G_hasLetter_12 : decode b_G_hasLetter 12 = .ok (.iconst 1, 1) := by decide +kernel
theorem d_G_hasLetter_13 : decode b_G_hasLetter 13 = .ok (.goto 4, 3) := by decide +kernel
theorem d_G_hasLetter_16 : decode b_G_hasLetter 16 = .ok (.iconst 0, 1) := by decide +kernel
theorem d_G_hasLetter_17 : decode b_G_hasLetter 17 = .ok (.ireturn, 1) := by decide +kernel
theorem d_G_holds_0 : decode b_G_holds 0 = .ok (.aload_n 0, 1) := by decide +kernel
theorem d_G_holds_1 : decode b_G_holds 1 = .ok (.getfield 21, 3) := by decide +kernel
theorem d_G_holds_4 : decode b_G_holds 4 = .ok (.iload_n 1, 1) := by decide +kernel
theorem d_G_holds_5 : decode b_G_holds 5 = .ok (.iload_n 2, 1) := by decide +kernel
theorem d_G_holds_6 : decode b_G_holds 6 = .ok (.invokestatic 38, 3) := by decide +kernel
theorem d_G_holds_9 : decode b_G_holds 9 = .ok (.iaload, 1) := by decide +kernel
theorem d_G_holds_10 : decode b_G_holds 10 = .ok (.iload_n 3, 1) := by decide +kernel
theorem d_G_holds_11 : decode b_G_holds 11 = .ok (.iushr, 1) := by decide +kernel
theorem d_G_holds_12 : decode b_G_holds 12 = .ok (.iconst 1, 1) := by decide +kernel
theorem d_G_holds_13 : decode b_G_holds 13 = .ok (.iand, 1) := by decide +kernel
theorem d_G_holds_14 : decode b_G_holds 14 = .ok (.ifCond .eq 7, 3) := by decide +kernel
theorem d_G_holds_17 : decode b_G_holds 17 = .ok (.iconst 1, 1) := by decide +kernel
theorem d_G_holds_18 : decode b_G_holds 18 = .ok (.goto 4, 3) := by decide +kernel
theorem d_G_holds_21 : decode b_G_holds 21 = .ok (.iconst 0, 1) := by decide +kernel
theorem d_G_holds_22 : decode b_G_holds 22 = .ok (.ireturn, 1) := by decide +kernel
theorem d_G_place_0 : decode b_G_place 0 = .ok (.iload_n 1, 1) := by decide +kernel
theorem d_G_place_1 : decode b_G_place 1 = .ok (.bipush 24, 2) := by decide +kernel
theorem d_G_place_3 : decode b_G_place 3 = .ok (.imul, 1) := by decide +kernel
theorem d_G_place_4 : decode b_G_place 4 = .ok (.iload_n 0, 1) := by decide +kernel
theorem d_G_place_5 : decode b_G_place 5 = .ok (.iadd, 1) := by decide +kernel
theorem d_G_place_6 : decode b_G_place 6 = .ok (.ireturn, 1) := by decide +kernel
theorem d_G_flip_0 : decode b_G_flip 0 = .ok (.aload_n 0, 1) := by decide +kernel
theorem d_G_flip_1 : decode b_G_flip 1 = .ok (.getfield 21, 3) := by decide +kernel
theorem d_G_flip_4 : decode b_G_flip 4 = .ok (.iload_n 1, 1) := by decide +kernel
theorem d_G_flip_5 : decode b_G_flip 5 = .ok (.iload_n 2, 1) := by decide +kernel
theorem d_G_flip_6 : decode b_G_flip 6 = .ok (.invokestatic 38, 3) := by decide +kernel
theorem d_G_flip_9 : decode b_G_flip 9 = .ok (.dup2, 1) := by decide +kernel
theorem d_G_flip_10 : decode b_G_flip 10 = .ok (.iaload, 1) := by decide +kernel
theorem d_G_flip_11 : decode b_G_flip 11 = .ok (.iconst 1, 1) := by decide +kernel
theorem d_G_flip_12 : decode b_G_flip 12 = .ok (.iload_n 3, 1) := by decide +kernel
theorem d_G_flip_13 : decode b_G_flip 13 = .ok (.ishl, 1) := by decide +kernel
theorem d_G_flip_14 : decode b_G_flip 14 = .ok (.ixor, 1) := by decide +kernel
theorem d_G_flip_15 : decode b_G_flip 15 = .ok (.iastore, 1) := by decide +kernel
theorem d_G_flip_16 : decode b_G_flip 16 = .ok (.return_, 1) := by decide +kernel
theorem d_M_way_0 : decode b_M_way 0 = .ok (.aload_n 0, 1) := by decide +kernel
theorem d_M_way_1 : decode b_M_way 1 = .ok (.iconst 0, 1) := by decide +kernel
theorem d_M_way_2 : decode b_M_way 2 = .ok (.putfield 48, 3) := by decide +kernel
theorem d_M_way_5 : decode b_M_way 5 = .ok (.aload_n 0, 1) := by decide +kernel
theorem d_M_way_6 : decode b_M_way 6 = .ok (.iload_n 1, 1) := by decide +kernel
theorem d_M_way_7 : decode b_M_way 7 = .ok (.invokevirtual 54, 3) := by decide +kernel
theorem d_M_way_10 : decode b_M_way 10 = .ok (.ifCond .eq 31, 3) := by decide +kernel
theorem d_M_way_13 : decode b_M_way 13 = .ok (.aload_n 0, 1) := by decide +kernel
theorem d_M_way_14 : decode b_M_way 14 = .ok (.iload_n 2, 1) := by decide +kernel
theorem d_M_way_15 : decode b_M_way 15 = .ok (.invokevirtual 58, 3) := by decide +kernel
theorem d_M_way_18 : decode b_M_way 18 = .ok (.ifCond .eq 23, 3) := by decide +kernel
theorem d_M_way_21 : decode b_M_way 21 = .ok (.aload_n 0, 1) := by decide +kernel
theorem d_M_way_22 : decode b_M_way 22 = .ok (.iload_n 3, 1) := by decide +kernel
theorem d_M_way_23 : decode b_M_way 23 = .ok (.invokevirtual 54, 3) := by decide +kernel
theorem d_M_way_26 : decode b_M_way 26 = .ok (.ifCond .eq 15, 3) := by decide +kernel
theorem d_M_way_29 : decode b_M_way 29 = .ok (.aload_n 0, 1) := by decide +kernel
theorem d_M_way_30 : decode b_M_way 30 = .ok (.iload_n 1, 1) := by decide +kernel
theorem d_M_way_31 : decode b_M_way 31 = .ok (.iload_n 2, 1) := by decide +kernel
theorem d_M_way_32 : decode b_M_way 32 = .ok (.iload_n 3, 1) := by decide +kernel
theorem d_M_way_33 : decode b_M_way 33 = .ok (.invokevirtual 61, 3) := by decide +kernel
theorem d_M_way_36 : decode b_M_way 36 = .ok (.iload 4, 2) := by decide +kernel
theorem d_M_way_38 : decode b_M_way 38 = .ok (.if_icmp .ne 5, 3) := by decide +kernel
theorem d_M_way_41 : decode b_M_way 41 = .ok (.iconst 0, 1) := by decide +kernel
theorem d_M_way_42 : decode b_M_way 42 = .ok (.ireturn, 1) := by decide +kernel
theorem d_M_way_43 : decode b_M_way 43 = .ok (.aload_n 0, 1) := by decide +kernel
theorem d_M_way_44 : decode b_M_way 44 = .ok (.getfield 16, 3) := by decide +kernel
theorem d_M_way_47 : decode b_M_way 47 = .ok (.bipush 24, 2) := by decide +kernel
theorem d_M_way_49 : decode b_M_way 49 = .ok (.iload_n 2, 1) := by decide +kernel
theorem d_M_way_50 : decode b_M_way 50 = .ok (.imul, 1) := by decide +kernel
theorem d_M_way_51 : decode b_M_way 51 = .ok (.iload_n 1, 1) := by decide +kernel
theorem d_M_way_52 : decode b_M_way 52 = .ok (.iadd, 1) := by decide +kernel
theorem d_M_way_53 : decode b_M_way 53 = .ok (.dup2, 1) := by decide +kernel
theorem d_M_way_54 : decode b_M_way 54 = .ok (.iaload, 1) := by decide +kernel
theorem d_M_way_55 : decode b_M_way 55 = .ok (.iconst 1, 1) := by decide +kernel
theorem d_M_way_56 : decode b_M_way 56 = .ok (.iload_n 3, 1) := by decide +kernel
theorem d_M_way_57 : decode b_M_way 57 = .ok (.ishl, 1) := by decide +kernel
theorem d_M_way_58 : decode b_M_way 58 = .ok (.ixor, 1) := by decide +kernel
theorem d_M_way_59 : decode b_M_way 59 = .ok (.iastore, 1) := by decide +kernel
theorem d_M_way_60 : decode b_M_way 60 = .ok (.iconst 1, 1) := by decide +kernel
theorem d_M_way_61 : decode b_M_way 61 = .ok (.ireturn, 1) := by decide +kernel
theorem d_M_isNode_0 : decode b_M_isNode 0 = .ok (.iload_n 1, 1) := by decide +kernel
theorem d_M_isNode_1 : decode b_M_isNode 1 = .ok (.ifCond .lt 15, 3) := by decide +kernel
theorem d_M_isNode_4 : decode b_M_isNode 4 = .ok (.iload_n 1, 1) := by decide +kernel
theorem d_M_isNode_5 : decode b_M_isNode 5 = .ok (.aload_n 0, 1) := by decide +kernel
theorem d_M_isNode_6 : decode b_M_isNode 6 = .ok (.getfield 7, 3) := by decide +kernel
theorem d_M_isNode_9 : decode b_M_isNode 9 = .ok (.if_icmp .ge 7, 3) := by decide +kernel
theorem d_M_isNode_12 : decode b_M_isNode 12 = .ok (.iconst 1, 1) := by decide +kernel
theorem d_M_isNode_13 : decode b_M_isNode 13 = .ok (.goto 4, 3) := by decide +kernel
theorem d_M_isNode_16 : decode b_M_isNode 16 = .ok (.iconst 0, 1) := by decide +kernel
theorem d_M_isNode_17 : decode b_M_isNode 17 = .ok (.ireturn, 1) := by decide +kernel
theorem d_M_isLetter_0 : decode b_M_isLetter 0 = .ok (.iload_n 1, 1) := by decide +kernel
theorem d_M_isLetter_1 : decode b_M_isLetter 1 = .ok (.ifCond .lt 15, 3) := by decide +kernel
theorem d_M_isLetter_4 : decode b_M_isLetter 4 = .ok (.iload_n 1, 1) := by decide +kernel
theorem d_M_isLetter_5 : decode b_M_isLetter 5 = .ok (.aload_n 0, 1) := by decide +kernel
theorem d_M_isLetter_6 : decode b_M_isLetter 6 = .ok (.getfield 13, 3) := by decide +kernel
theorem d_M_isLetter_9 : decode b_M_isLetter 9 = .ok (.if_icmp .ge 7, 3) := by decide +kernel
theorem d_M_isLetter_12 : decode b_M_isLetter 12 = .ok (.iconst 1, 1) := by decide +kernel
theorem d_M_isLetter_13 : decode b_M_isLetter 13 = .ok (.goto 4, 3) := by decide +kernel
theorem d_M_isLetter_16 : decode b_M_isLetter 16 = .ok (.iconst 0, 1) := by decide +kernel
theorem d_M_isLetter_17 : decode b_M_isLetter 17 = .ok (.ireturn, 1) := by decide +kernel
theorem d_M_is_0 : decode b_M_is 0 = .ok (.aload_n 0, 1) := by decide +kernel
theorem d_M_is_1 : decode b_M_is 1 = .ok (.iconst 0, 1) := by decide +kernel
theorem d_M_is_2 : decode b_M_is 2 = .ok (.putfield 48, 3) := by decide +kernel
theorem d_M_is_5 : decode b_M_is 5 = .ok (.aload_n 0, 1) := by decide +kernel
theorem d_M_is_6 : decode b_M_is 6 = .ok (.iload_n 1, 1) := by decide +kernel
theorem d_M_is_7 : decode b_M_is 7 = .ok (.invokevirtual 54, 3) := by decide +kernel
theorem d_M_is_10 : decode b_M_is 10 = .ok (.ifCond .eq 62, 3) := by decide +kernel
theorem d_M_is_13 : decode b_M_is 13 = .ok (.aload_n 0, 1) := by decide +kernel
theorem d_M_is_14 : decode b_M_is 14 = .ok (.iload_n 2, 1) := by decide +kernel
theorem d_M_is_15 : decode b_M_is 15 = .ok (.invokevirtual 58, 3) := by decide +kernel
theorem d_M_is_18 : decode b_M_is 18 = .ok (.ifCond .eq 54, 3) := by decide +kernel
theorem d_M_is_21 : decode b_M_is 21 = .ok (.aload_n 0, 1) := by decide +kernel
theorem d_M_is_22 : decode b_M_is 22 = .ok (.iload_n 3, 1) := by decide +kernel
theorem d_M_is_23 : decode b_M_is 23 = .ok (.invokevirtual 54, 3) := by decide +kernel
theorem d_M_is_26 : decode b_M_is 26 = .ok (.ifCond .eq 46, 3) := by decide +kernel
theorem d_M_is_29 : decode b_M_is 29 = .ok (.aload_n 0, 1) := by decide +kernel
theorem d_M_is_30 : decode b_M_is 30 = .ok (.getfield 16, 3) := by decide +kernel
theorem d_M_is_33 : decode b_M_is 33 = .ok (.aload_n 0, 1) := by decide +kernel
theorem d_M_is_34 : decode b_M_is 34 = .ok (.iload_n 1, 1) := by decide +kernel
theorem d_M_is_35 : decode b_M_is 35 = .ok (.invokevirtual 54, 3) := by decide +kernel
theorem d_M_is_38 : decode b_M_is 38 = .ok (.ifCond .eq 20, 3) := by decide +kernel
theorem d_M_is_41 : decode b_M_is 41 = .ok (.aload_n 0, 1) := by decide +kernel
theorem d_M_is_42 : decode b_M_is 42 = .ok (.iload_n 2, 1) := by decide +kernel
theorem d_M_is_43 : decode b_M_is 43 = .ok (.invokevirtual 58, 3) := by decide +kernel
theorem d_M_is_46 : decode b_M_is 46 = .ok (.ifCond .eq 12, 3) := by decide +kernel
theorem d_M_is_49 : decode b_M_is 49 = .ok (.bipush 24, 2) := by decide +kernel
theorem d_M_is_51 : decode b_M_is 51 = .ok (.iload_n 2, 1) := by decide +kernel
theorem d_M_is_52 : decode b_M_is 52 = .ok (.imul, 1) := by decide +kernel
theorem d_M_is_53 : decode b_M_is 53 = .ok (.iload_n 1, 1) := by decide +kernel
theorem d_M_is_54 : decode b_M_is 54 = .ok (.iadd, 1) := by decide +kernel
theorem d_M_is_55 : decode b_M_is 55 = .ok (.goto 4, 3) := by decide +kernel
theorem d_M_is_58 : decode b_M_is 58 = .ok (.iconst 0, 1) := by decide +kernel
theorem d_M_is_59 : decode b_M_is 59 = .ok (.iaload, 1) := by decide +kernel
theorem d_M_is_60 : decode b_M_is 60 = .ok (.iload_n 3, 1) := by decide +kernel
theorem d_M_is_61 : decode b_M_is 61 = .ok (.ishr, 1) := by decide +kernel
theorem d_M_is_62 : decode b_M_is 62 = .ok (.iconst 1, 1) := by decide +kernel
theorem d_M_is_63 : decode b_M_is 63 = .ok (.iand, 1) := by decide +kernel
theorem d_M_is_64 : decode b_M_is 64 = .ok (.iconst 1, 1) := by decide +kernel
theorem d_M_is_65 : decode b_M_is 65 = .ok (.if_icmp .ne 7, 3) := by decide +kernel
theorem d_M_is_68 : decode b_M_is 68 = .ok (.iconst 1, 1) := by decide +kernel
theorem d_M_is_69 : decode b_M_is 69 = .ok (.goto 4, 3) := by decide +kernel
theorem d_M_is_72 : decode b_M_is 72 = .ok (.iconst 0, 1) := by decide +kernel
theorem d_M_is_73 : decode b_M_is 73 = .ok (.ireturn, 1) := by decide +kernel
theorem d_W_fill_0 : decode b_W_fill 0 = .ok (.aload_n 0, 1) := by decide +kernel
theorem d_W_fill_1 : decode b_W_fill 1 = .ok (.getfield 12, 3) := by decide +kernel
theorem d_W_fill_4 : decode b_W_fill 4 = .ok (.iload_n 1, 1) := by decide +kernel
theorem d_W_fill_5 : decode b_W_fill 5 = .ok (.invokevirtual 42, 3) := by decide +kernel
theorem d_W_fill_8 : decode b_W_fill 8 = .ok (.ifCond .eq 14, 3) := by decide +kernel
theorem d_W_fill_11 : decode b_W_fill 11 = .ok (.aload_n 0, 1) := by decide +kernel
theorem d_W_fill_12 : decode b_W_fill 12 = .ok (.getfield 12, 3) := by decide +kernel
theorem d_W_fill_15 : decode b_W_fill 15 = .ok (.iload_n 2, 1) := by decide +kernel
theorem d_W_fill_16 : decode b_W_fill 16 = .ok (.invokevirtual 46, 3) := by decide +kernel
theorem d_W_fill_19 : decode b_W_fill 19 = .ok (.ifCond .ne 5, 3) := by decide +kernel
theorem d_W_fill_22 : decode b_W_fill 22 = .ok (.iconst (-1), 1) := by decide +kernel
theorem d_W_fill_23 : decode b_W_fill 23 = .ok (.ireturn, 1) := by decide +kernel
theorem d_W_fill_24 : decode b_W_fill 24 = .ok (.iconst 0, 1) := by decide +kernel
theorem d_W_fill_25 : decode b_W_fill 25 = .ok (.istore_n 3, 1) := by decide +kernel
theorem d_W_fill_26 : decode b_W_fill 26 = .ok (.iconst 0, 1) := by decide +kernel
theorem d_W_fill_27 : decode b_W_fill 27 = .ok (.istore 4, 2) := by decide +kernel
theorem d_W_fill_29 : decode b_W_fill 29 = .ok (.iload 4, 2) := by decide +kernel
theorem d_W_fill_31 : decode b_W_fill 31 = .ok (.aload_n 0, 1) := by decide +kernel
theorem d_W_fill_32 : decode b_W_fill 32 = .ok (.getfield 12, 3) := by decide +kernel
theorem d_W_fill_35 : decode b_W_fill 35 = .ok (.getfield 49, 3) := by decide +kernel
theorem d_W_fill_38 : decode b_W_fill 38 = .ok (.if_icmp .ge 37, 3) := by decide +kernel
theorem d_W_fill_41 : decode b_W_fill 41 = .ok (.aload_n 0, 1) := by decide +kernel
theorem d_W_fill_42 : decode b_W_fill 42 = .ok (.getfield 12, 3) := by decide +kernel
theorem d_W_fill_45 : decode b_W_fill 45 = .ok (.iload 4, 2) := by decide +kernel
theorem d_W_fill_47 : decode b_W_fill 47 = .ok (.iload_n 1, 1) := by decide +kernel
theorem d_W_fill_48 : decode b_W_fill 48 = .ok (.iload_n 2, 1) := by decide +kernel
theorem d_W_fill_49 : decode b_W_fill 49 = .ok (.invokevirtual 35, 3) := by decide +kernel
theorem d_W_fill_52 : decode b_W_fill 52 = .ok (.ifCond .ne 17, 3) := by decide +kernel
theorem d_W_fill_55 : decode b_W_fill 55 = .ok (.aload_n 0, 1) := by decide +kernel
theorem d_W_fill_56 : decode b_W_fill 56 = .ok (.getfield 12, 3) := by decide +kernel
theorem d_W_fill_59 : decode b_W_fill 59 = .ok (.iload 4, 2) := by decide +kernel
theorem d_W_fill_61 : decode b_W_fill 61 = .ok (.iload_n 1, 1) := by decide +kernel
theorem d_W_fill_62 : decode b_W_fill 62 = .ok (.iload_n 2, 1) := by decide +kernel
theorem d_W_fill_63 : decode b_W_fill 63 = .ok (.invokevirtual 38, 3) := by decide +kernel
theorem d_W_fill_66 : decode b_W_fill 66 = .ok (.iinc 3 1, 3) := by decide +kernel
theorem d_W_fill_69 : decode b_W_fill 69 = .ok (.iinc 4 1, 3) := by decide +kernel
theorem d_W_fill_72 : decode b_W_fill 72 = .ok (.goto (-43), 3) := by decide +kernel
theorem d_W_fill_75 : decode b_W_fill 75 = .ok (.iload_n 3, 1) := by decide +kernel
theorem d_W_fill_76 : decode b_W_fill 76 = .ok (.ireturn, 1) := by decide +kernel
theorem d_M_fill_0 : decode b_M_fill 0 = .ok (.aload_n 0, 1) := by decide +kernel
theorem d_M_fill_1 : decode b_M_fill 1 = .ok (.iconst 0, 1) := by decide +kernel
theorem d_M_fill_2 : decode b_M_fill 2 = .ok (.putfield 48, 3) := by decide +kernel
theorem d_M_fill_5 : decode b_M_fill 5 = .ok (.aload_n 0, 1) := by decide +kernel
theorem d_M_fill_6 : decode b_M_fill 6 = .ok (.iload_n 1, 1) := by decide +kernel
theorem d_M_fill_7 : decode b_M_fill 7 = .ok (.invokevirtual 58, 3) := by decide +kernel
theorem d_M_fill_10 : decode b_M_fill 10 = .ok (.ifCond .eq 11, 3) := by decide +kernel
theorem d_M_fill_13 : decode b_M_fill 13 = .ok (.aload_n 0, 1) := by decide +kernel
theorem d_M_fill_14 : decode b_M_fill 14 = .ok (.iload_n 2, 1) := by decide +kernel
theorem d_M_fill_15 : decode b_M_fill 15 = .ok (.invokevirtual 54, 3) := by decide +kernel
theorem d_M_fill_18 : decode b_M_fill 18 = .ok (.ifCond .ne 5, 3) := by decide +kernel
theorem d_M_fill_21 : decode b_M_fill 21 = .ok (.iconst (-1), 1) := by decide +kernel
theorem d_M_fill_22 : decode b_M_fill 22 = .ok (.ireturn, 1) := by decide +kernel
theorem d_M_fill_23 : decode b_M_fill 23 = .ok (.iconst 0, 1) := by decide +kernel
theorem d_M_fill_24 : decode b_M_fill 24 = .ok (.istore_n 3, 1) := by decide +kernel
theorem d_M_fill_25 : decode b_M_fill 25 = .ok (.iconst 0, 1) := by decide +kernel
theorem d_M_fill_26 : decode b_M_fill 26 = .ok (.istore 4, 2) := by decide +kernel
theorem d_M_fill_28 : decode b_M_fill 28 = .ok (.iload 4, 2) := by decide +kernel
theorem d_M_fill_30 : decode b_M_fill 30 = .ok (.aload_n 0, 1) := by decide +kernel
theorem d_M_fill_31 : decode b_M_fill 31 = .ok (.getfield 7, 3) := by decide +kernel
theorem d_M_fill_34 : decode b_M_fill 34 = .ok (.if_icmp .ge 29, 3) := by decide +kernel
theorem d_M_fill_37 : decode b_M_fill 37 = .ok (.iload_n 3, 1) := by decide +kernel
theorem d_M_fill_38 : decode b_M_fill 38 = .ok (.aload_n 0, 1) := by decide +kernel
theorem d_M_fill_39 : decode b_M_fill 39 = .ok (.iload 4, 2) := by decide +kernel
theorem d_M_fill_41 : decode b_M_fill 41 = .ok (.iload_n 1, 1) := by decide +kernel
theorem d_M_fill_42 : decode b_M_fill 42 = .ok (.iload_n 2, 1) := by decide +kernel
theorem d_M_fill_43 : decode b_M_fill 43 = .ok (.iconst 1, 1) := by decide +kernel
theorem d_M_fill_44 : decode b_M_fill 44 = .ok (.invokevirtual 65, 3) := by decide +kernel
theorem d_M_fill_47 : decode b_M_fill 47 = .ok (.ifCond .eq 7, 3) := by decide +kernel
theorem d_M_fill_50 : decode b_M_fill 50 = .ok (.iconst 1, 1) := by decide +kernel
theorem d_M_fill_51 : decode b_M_fill 51 = .ok (.goto 4, 3) := by decide +kernel
theorem d_M_fill_54 : decode b_M_fill 54 = .ok (.iconst 0, 1) := by decide +kernel
theorem d_M_fill_55 : decode b_M_fill 55 = .ok (.iadd, 1) := by decide +kernel
theorem d_M_fill_56 : decode b_M_fill 56 = .ok (.istore_n 3, 1) := by decide +kernel
theorem d_M_fill_57 : decode b_M_fill 57 = .ok (.iinc 4 1, 3) := by decide +kernel
theorem d_M_fill_60 : decode b_M_fill 60 = .ok (.goto (-32), 3) := by decide +kernel
theorem d_M_fill_63 : decode b_M_fill 63 = .ok (.iload_n 3, 1) := by decide +kernel
theorem d_M_fill_64 : decode b_M_fill 64 = .ok (.ireturn, 1) := by decide +kernel
theorem d_W_turn_0 : decode b_W_turn 0 = .ok (.iconst 0, 1) := by decide +kernel
theorem d_W_turn_1 : decode b_W_turn 1 = .ok (.istore_n 1, 1) := by decide +kernel
theorem d_W_turn_2 : decode b_W_turn 2 = .ok (.iload_n 1, 1) := by decide +kernel
theorem d_W_turn_3 : decode b_W_turn 3 = .ok (.aload_n 0, 1) := by decide +kernel
theorem d_W_turn_4 : decode b_W_turn 4 = .ok (.getfield 12, 3) := by decide +kernel
theorem d_W_turn_7 : decode b_W_turn 7 = .ok (.getfield 52, 3) := by decide +kernel
theorem d_W_turn_10 : decode b_W_turn 10 = .ok (.if_icmp .ge 17, 3) := by decide +kernel
theorem d_W_turn_13 : decode b_W_turn 13 = .ok (.aload_n 0, 1) := by decide +kernel
theorem d_W_turn_14 : decode b_W_turn 14 = .ok (.getfield 12, 3) := by decide +kernel
theorem d_W_turn_17 : decode b_W_turn 17 = .ok (.iload_n 1, 1) := by decide +kernel
theorem d_W_turn_18 : decode b_W_turn 18 = .ok (.invokevirtual 55, 3) := by decide +kernel
theorem d_W_turn_21 : decode b_W_turn 21 = .ok (.iinc 1 1, 3) := by decide +kernel
theorem d_W_turn_24 : decode b_W_turn 24 = .ok (.goto (-22), 3) := by decide +kernel
theorem d_W_turn_27 : decode b_W_turn 27 = .ok (.return_, 1) := by decide +kernel
theorem d_G_transpose_0 : decode b_G_transpose 0 = .ok (.iconst 1, 1) := by decide +kernel
theorem d_G_transpose_1 : decode b_G_transpose 1 = .ok (.istore_n 2, 1) := by decide +kernel
theorem d_G_transpose_2 : decode b_G_transpose 2 = .ok (.iload_n 2, 1) := by decide +kernel
theorem d_G_transpose_3 : decode b_G_transpose 3 = .ok (.aload_n 0, 1) := by decide +kernel
theorem d_G_transpose_4 : decode b_G_transpose 4 = .ok (.getfield 9, 3) := by decide +kernel
theorem d_G_transpose_7 : decode b_G_transpose 7 = .ok (.if_icmp .ge 53, 3) := by decide +kernel
theorem d_G_transpose_10 : decode b_G_transpose 10 = .ok (.iconst 0, 1) := by decide +kernel
theorem d_G_transpose_11 : decode b_G_transpose 11 = .ok (.istore_n 3, 1) := by decide +kernel
theorem d_G_transpose_12 : decode b_G_transpose 12 = .ok (.iload_n 3, 1) := by decide +kernel
theorem d_G_transpose_13 : decode b_G_transpose 13 = .ok (.iload_n 2, 1) := by decide +kernel
theorem d_G_transpose_14 : decode b_G_transpose 14 = .ok (.if_icmp .ge 40, 3) := by decide +kernel
theorem d_G_transpose_17 : decode b_G_transpose 17 = .ok (.aload_n 0, 1) := by decide +kernel
theorem d_G_transpose_18 : decode b_G_transpose 18 = .ok (.iload_n 2, 1) := by decide +kernel
theorem d_G_transpose_19 : decode b_G_transpose 19 = .ok (.iload_n 1, 1) := by decide +kernel
theorem d_G_transpose_20 : decode b_G_transpose 20 = .ok (.iload_n 3, 1) := by decide +kernel
theorem d_G_transpose_21 : decode b_G_transpose 21 = .ok (.invokevirtual 42, 3) := by decide +kernel
theorem d_G_transpose_24 : decode b_G_transpose 24 = .ok (.aload_n 0, 1) := by decide +kernel
theorem d_G_transpose_25 : decode b_G_transpose 25 = .ok (.iload_n 3, 1) := by decide +kernel
theorem d_G_transpose_26 : decode b_G_transpose 26 = .ok (.iload_n 1, 1) := by decide +kernel
theorem d_G_transpose_27 : decode b_G_transpose 27 = .ok (.iload_n 2, 1) := by decide +kernel
theorem d_G_transpose_28 : decode b_G_transpose 28 = .ok (.invokevirtual 42, 3) := by decide +kernel
theorem d_G_transpose_31 : decode b_G_transpose 31 = .ok (.if_icmp .eq 17, 3) := by decide +kernel
theorem d_G_transpose_34 : decode b_G_transpose 34 = .ok (.aload_n 0, 1) := by decide +kernel
theorem d_G_transpose_35 : decode b_G_transpose 35 = .ok (.iload_n 2, 1) := by decide +kernel
theorem d_G_transpose_36 : decode b_G_transpose 36 = .ok (.iload_n 1, 1) := by decide +kernel
theorem d_G_transpose_37 : decode b_G_transpose 37 = .ok (.iload_n 3, 1) := by decide +kernel
theorem d_G_transpose_38 : decode b_G_transpose 38 = .ok (.invokevirtual 46, 3) := by decide +kernel
theorem d_G_transpose_41 : decode b_G_transpose 41 = .ok (.aload_n 0, 1) := by decide +kernel
theorem d_G_transpose_42 : decode b_G_transpose 42 = .ok (.iload_n 3, 1) := by decide +kernel
theorem d_G_transpose_43 : decode b_G_transpose 43 = .ok (.iload_n 1, 1) := by decide +kernel
theorem d_G_transpose_44 : decode b_G_transpose 44 = .ok (.iload_n 2, 1) := by decide +kernel
theorem d_G_transpose_45 : decode b_G_transpose 45 = .ok (.invokevirtual 46, 3) := by decide +kernel
theorem d_G_transpose_48 : decode b_G_transpose 48 = .ok (.iinc 3 1, 3) := by decide +kernel
theorem d_G_transpose_51 : decode b_G_transpose 51 = .ok (.goto (-39), 3) := by decide +kernel
theorem d_G_transpose_54 : decode b_G_transpose 54 = .ok (.iinc 2 1, 3) := by decide +kernel
theorem d_G_transpose_57 : decode b_G_transpose 57 = .ok (.goto (-55), 3) := by decide +kernel
theorem d_G_transpose_60 : decode b_G_transpose 60 = .ok (.return_, 1) := by decide +kernel
theorem d_M_turn_0 : decode b_M_turn 0 = .ok (.aload_n 0, 1) := by decide +kernel
theorem d_M_turn_1 : decode b_M_turn 1 = .ok (.iconst 0, 1) := by decide +kernel
theorem d_M_turn_2 : decode b_M_turn 2 = .ok (.putfield 48, 3) := by decide +kernel
theorem d_M_turn_5 : decode b_M_turn 5 = .ok (.iconst 0, 1) := by decide +kernel
theorem d_M_turn_6 : decode b_M_turn 6 = .ok (.istore_n 1, 1) := by decide +kernel
theorem d_M_turn_7 : decode b_M_turn 7 = .ok (.iload_n 1, 1) := by decide +kernel
theorem d_M_turn_8 : decode b_M_turn 8 = .ok (.aload_n 0, 1) := by decide +kernel
theorem d_M_turn_9 : decode b_M_turn 9 = .ok (.getfield 13, 3) := by decide +kernel
theorem d_M_turn_12 : decode b_M_turn 12 = .ok (.if_icmp .ge 113, 3) := by decide +kernel
theorem d_M_turn_15 : decode b_M_turn 15 = .ok (.iconst 0, 1) := by decide +kernel
theorem d_M_turn_16 : decode b_M_turn 16 = .ok (.istore_n 2, 1) := by decide +kernel
theorem d_M_turn_17 : decode b_M_turn 17 = .ok (.iload_n 2, 1) := by decide +kernel
theorem d_M_turn_18 : decode b_M_turn 18 = .ok (.aload_n 0, 1) := by decide +kernel
theorem d_M_turn_19 : decode b_M_turn 19 = .ok (.getfield 7, 3) := by decide +kernel
theorem d_M_turn_22 : decode b_M_turn 22 = .ok (.if_icmp .ge 97, 3) := by decide +kernel
theorem d_M_turn_25 : decode b_M_turn 25 = .ok (.iconst 0, 1) := by decide +kernel
theorem d_M_turn_26 : decode b_M_turn 26 = .ok (.istore_n 3, 1) := by decide +kernel
theorem d_M_turn_27 : decode b_M_turn 27 = .ok (.iload_n 3, 1) := by decide +kernel
theorem d_M_turn_28 : decode b_M_turn 28 = .ok (.iload_n 2, 1) := by decide +kernel
theorem d_M_turn_29 : decode b_M_turn 29 = .ok (.if_icmp .ge 84, 3) := by decide +kernel
theorem d_M_turn_32 : decode b_M_turn 32 = .ok (.aload_n 0, 1) := by decide +kernel
theorem d_M_turn_33 : decode b_M_turn 33 = .ok (.getfield 16, 3) := by decide +kernel
theorem d_M_turn_36 : decode b_M_turn 36 = .ok (.bipush 24, 2) := by decide +kernel
theorem d_M_turn_38 : decode b_M_turn 38 = .ok (.iload_n 1, 1) := by decide +kernel
theorem d_M_turn_39 : decode b_M_turn 39 = .ok (.imul, 1) := by decide +kernel
theorem d_M_turn_40 : decode b_M_turn 40 = .ok (.iload_n 2, 1) := by decide +kernel
theorem d_M_turn_41 : decode b_M_turn 41 = .ok (.iadd, 1) := by decide +kernel
theorem d_M_turn_42 : decode b_M_turn 42 = .ok (.iaload, 1) := by decide +kernel
theorem d_M_turn_43 : decode b_M_turn 43 = .ok (.iload_n 3, 1) := by decide +kernel
theorem d_M_turn_44 : decode b_M_turn 44 = .ok (.ishr, 1) := by decide +kernel
theorem d_M_turn_45 : decode b_M_turn 45 = .ok (.iconst 1, 1) := by decide +kernel
theorem d_M_turn_46 : decode b_M_turn 46 = .ok (.iand, 1) := by decide +kernel
theorem d_M_turn_47 : decode b_M_turn 47 = .ok (.istore 4, 2) := by decide +kernel
theorem d_M_turn_49 : decode b_M_turn 49 = .ok (.aload_n 0, 1) := by decide +kernel
theorem d_M_turn_50 : decode b_M_turn 50 = .ok (.getfield 16, 3) := by decide +kernel
theorem d_M_turn_53 : decode b_M_turn 53 = .ok (.bipush 24, 2) := by decide +kernel
theorem d_M_turn_55 : decode b_M_turn 55 = .ok (.iload_n 1, 1) := by decide +kernel
theorem d_M_turn_56 : decode b_M_turn 56 = .ok (.imul, 1) := by decide +kernel
theorem d_M_turn_57 : decode b_M_turn 57 = .ok (.iload_n 3, 1) := by decide +kernel
theorem d_M_turn_58 : decode b_M_turn 58 = .ok (.iadd, 1) := by decide +kernel
theorem d_M_turn_59 : decode b_M_turn 59 = .ok (.iaload, 1) := by decide +kernel
theorem d_M_turn_60 : decode b_M_turn 60 = .ok (.iload_n 2, 1) := by decide +kernel
theorem d_M_turn_61 : decode b_M_turn 61 = .ok (.ishr, 1) := by decide +kernel
theorem d_M_turn_62 : decode b_M_turn 62 = .ok (.iconst 1, 1) := by decide +kernel
theorem d_M_turn_63 : decode b_M_turn 63 = .ok (.iand, 1) := by decide +kernel
theorem d_M_turn_64 : decode b_M_turn 64 = .ok (.istore 5, 2) := by decide +kernel
theorem d_M_turn_66 : decode b_M_turn 66 = .ok (.iload 4, 2) := by decide +kernel
theorem d_M_turn_68 : decode b_M_turn 68 = .ok (.iload 5, 2) := by decide +kernel
theorem d_M_turn_70 : decode b_M_turn 70 = .ok (.if_icmp .eq 37, 3) := by decide +kernel
theorem d_M_turn_73 : decode b_M_turn 73 = .ok (.aload_n 0, 1) := by decide +kernel
theorem d_M_turn_74 : decode b_M_turn 74 = .ok (.getfield 16, 3) := by decide +kernel
theorem d_M_turn_77 : decode b_M_turn 77 = .ok (.bipush 24, 2) := by decide +kernel
theorem d_M_turn_79 : decode b_M_turn 79 = .ok (.iload_n 1, 1) := by decide +kernel
theorem d_M_turn_80 : decode b_M_turn 80 = .ok (.imul, 1) := by decide +kernel
theorem d_M_turn_81 : decode b_M_turn 81 = .ok (.iload_n 2, 1) := by decide +kernel
theorem d_M_turn_82 : decode b_M_turn 82 = .ok (.iadd, 1) := by decide +kernel
theorem d_M_turn_83 : decode b_M_turn 83 = .ok (.dup2, 1) := by decide +kernel
theorem d_M_turn_84 : decode b_M_turn 84 = .ok (.iaload, 1) := by decide +kernel
theorem d_M_turn_85 : decode b_M_turn 85 = .ok (.iconst 1, 1) := by decide +kernel
theorem d_M_turn_86 : decode b_M_turn 86 = .ok (.iload_n 3, 1) := by decide +kernel
theorem d_M_turn_87 : decode b_M_turn 87 = .ok (.ishl, 1) := by decide +kernel
theorem d_M_turn_88 : decode b_M_turn 88 = .ok (.ixor, 1) := by decide +kernel
theorem d_M_turn_89 : decode b_M_turn 89 = .ok (.iastore, 1) := by decide +kernel
theorem d_M_turn_90 : decode b_M_turn 90 = .ok (.aload_n 0, 1) := by decide +kernel
theorem d_M_turn_91 : decode b_M_turn 91 = .ok (.getfield 16, 3) := by decide +kernel
theorem d_M_turn_94 : decode b_M_turn 94 = .ok (.bipush 24, 2) := by decide +kernel
theorem d_M_turn_96 : decode b_M_turn 96 = .ok (.iload_n 1, 1) := by decide +kernel
theorem d_M_turn_97 : decode b_M_turn 97 = .ok (.imul, 1) := by decide +kernel
theorem d_M_turn_98 : decode b_M_turn 98 = .ok (.iload_n 3, 1) := by decide +kernel
theorem d_M_turn_99 : decode b_M_turn 99 = .ok (.iadd, 1) := by decide +kernel
theorem d_M_turn_100 : decode b_M_turn 100 = .ok (.dup2, 1) := by decide +kernel
theorem d_M_turn_101 : decode b_M_turn 101 = .ok (.iaload, 1) := by decide +kernel
theorem d_M_turn_102 : decode b_M_turn 102 = .ok (.iconst 1, 1) := by decide +kernel
theorem d_M_turn_103 : decode b_M_turn 103 = .ok (.iload_n 2, 1) := by decide +kernel
theorem d_M_turn_104 : decode b_M_turn 104 = .ok (.ishl, 1) := by decide +kernel
theorem d_M_turn_105 : decode b_M_turn 105 = .ok (.ixor, 1) := by decide +kernel
theorem d_M_turn_106 : decode b_M_turn 106 = .ok (.iastore, 1) := by decide +kernel
theorem d_M_turn_107 : decode b_M_turn 107 = .ok (.iinc 3 1, 3) := by decide +kernel
theorem d_M_turn_110 : decode b_M_turn 110 = .ok (.goto (-83), 3) := by decide +kernel
theorem d_M_turn_113 : decode b_M_turn 113 = .ok (.iinc 2 1, 3) := by decide +kernel
theorem d_M_turn_116 : decode b_M_turn 116 = .ok (.goto (-99), 3) := by decide +kernel
theorem d_M_turn_119 : decode b_M_turn 119 = .ok (.iinc 1 1, 3) := by decide +kernel
theorem d_M_turn_122 : decode b_M_turn 122 = .ok (.goto (-115), 3) := by decide +kernel
theorem d_M_turn_125 : decode b_M_turn 125 = .ok (.return_, 1) := by decide +kernel
theorem d_W_start_0 : decode b_W_start 0 = .ok (.aload_n 0, 1) := by decide +kernel
theorem d_W_start_1 : decode b_W_start 1 = .ok (.getfield 12, 3) := by decide +kernel
theorem d_W_start_4 : decode b_W_start 4 = .ok (.iload_n 1, 1) := by decide +kernel
theorem d_W_start_5 : decode b_W_start 5 = .ok (.invokevirtual 46, 3) := by decide +kernel
theorem d_W_start_8 : decode b_W_start 8 = .ok (.ifCond .ne 5, 3) := by decide +kernel
theorem d_W_start_11 : decode b_W_start 11 = .ok (.iconst 0, 1) := by decide +kernel
theorem d_W_start_12 : decode b_W_start 12 = .ok (.ireturn, 1) := by decide +kernel
theorem d_W_start_13 : decode b_W_start 13 = .ok (.aload_n 0, 1) := by decide +kernel
theorem d_W_start_14 : decode b_W_start 14 = .ok (.getfield 12, 3) := by decide +kernel
theorem d_W_start_17 : decode b_W_start 17 = .ok (.iload_n 1, 1) := by decide +kernel
theorem d_W_start_18 : decode b_W_start 18 = .ok (.putfield 59, 3) := by decide +kernel
theorem d_W_start_21 : decode b_W_start 21 = .ok (.iconst 1, 1) := by decide +kernel
theorem d_W_start_22 : decode b_W_start 22 = .ok (.ireturn, 1) := by decide +kernel
theorem d_M_start_0 : decode b_M_start 0 = .ok (.aload_n 0, 1) := by decide +kernel
theorem d_M_start_1 : decode b_M_start 1 = .ok (.iconst 0, 1) := by decide +kernel
theorem d_M_start_2 : decode b_M_start 2 = .ok (.putfield 48, 3) := by decide +kernel
theorem d_M_start_5 : decode b_M_start 5 = .ok (.aload_n 0, 1) := by decide +kernel
theorem d_M_start_6 : decode b_M_start 6 = .ok (.iload_n 1, 1) := by decide +kernel
theorem d_M_start_7 : decode b_M_start 7 = .ok (.invokevirtual 54, 3) := by decide +kernel
theorem d_M_start_10 : decode b_M_start 10 = .ok (.ifCond .ne 5, 3) := by decide +kernel
theorem d_M_start_13 : decode b_M_start 13 = .ok (.iconst 0, 1) := by decide +kernel
theorem d_M_start_14 : decode b_M_start 14 = .ok (.ireturn, 1) := by decide +kernel
theorem d_M_start_15 : decode b_M_start 15 = .ok (.aload_n 0, 1) := by decide +kernel
theorem d_M_start_16 : decode b_M_start 16 = .ok (.iload_n 1, 1) := by decide +kernel
theorem d_M_start_17 : decode b_M_start 17 = .ok (.putfield 51, 3) := by decide +kernel
theorem d_M_start_20 : decode b_M_start 20 = .ok (.iconst 1, 1) := by decide +kernel
theorem d_M_start_21 : decode b_M_start 21 = .ok (.ireturn, 1) := by decide +kernel
theorem d_W_make_0 : decode b_W_make 0 = .ok (.aload_n 0, 1) := by decide +kernel
theorem d_W_make_1 : decode b_W_make 1 = .ok (.getfield 19, 3) := by decide +kernel
theorem d_W_make_4 : decode b_W_make 4 = .ok (.aload_n 0, 1) := by decide +kernel
theorem d_W_make_5 : decode b_W_make 5 = .ok (.getfield 12, 3) := by decide +kernel
theorem d_W_make_8 : decode b_W_make 8 = .ok (.invokevirtual 62, 3) := by decide +kernel
theorem d_W_make_11 : decode b_W_make 11 = .ok (.ifCond .ne 5, 3) := by decide +kernel
theorem d_W_make_14 : decode b_W_make 14 = .ok (.iconst (-1), 1) := by decide +kernel
theorem d_W_make_15 : decode b_W_make 15 = .ok (.ireturn, 1) := by decide +kernel
theorem d_W_make_16 : decode b_W_make 16 = .ok (.aload_n 0, 1) := by decide +kernel
theorem d_W_make_17 : decode b_W_make 17 = .ok (.iconst 0, 1) := by decide +kernel
theorem d_W_make_18 : decode b_W_make 18 = .ok (.putfield 23, 3) := by decide +kernel
theorem d_W_make_21 : decode b_W_make 21 = .ok (.aload_n 0, 1) := by decide +kernel
theorem d_W_make_22 : decode b_W_make 22 = .ok (.getfield 19, 3) := by decide +kernel
theorem d_W_make_25 : decode b_W_make 25 = .ok (.getfield 66, 3) := by decide +kernel
theorem d_W_make_28 : decode b_W_make 28 = .ok (.ireturn, 1) := by decide +kernel
theorem d_T_build_0 : decode b_T_build 0 = .ok (.aload_n 0, 1) := by decide +kernel
theorem d_T_build_1 : decode b_T_build 1 = .ok (.aload_n 1, 1) := by decide +kernel
theorem d_T_build_2 : decode b_T_build 2 = .ok (.invokevirtual 49, 3) := by decide +kernel
theorem d_T_build_5 : decode b_T_build 5 = .ok (.istore_n 2, 1) := by decide +kernel
theorem d_T_build_6 : decode b_T_build 6 = .ok (.iload_n 2, 1) := by decide +kernel
theorem d_T_build_7 : decode b_T_build 7 = .ok (.iconst (-1), 1) := by decide +kernel
theorem d_T_build_8 : decode b_T_build 8 = .ok (.if_icmp .ne 5, 3) := by decide +kernel
theorem d_T_build_11 : decode b_T_build 11 = .ok (.iconst 0, 1) := by decide +kernel
theorem d_T_build_12 : decode b_T_build 12 = .ok (.ireturn, 1) := by decide +kernel
theorem d_T_build_13 : decode b_T_build 13 = .ok (.aload_n 0, 1) := by decide +kernel
theorem d_T_build_14 : decode b_T_build 14 = .ok (.aload_n 1, 1) := by decide +kernel
theorem d_T_build_15 : decode b_T_build 15 = .ok (.getfield 53, 3) := by decide +kernel
theorem d_T_build_18 : decode b_T_build 18 = .ok (.putfield 9, 3) := by decide +kernel
theorem d_T_build_21 : decode b_T_build 21 = .ok (.aload_n 0, 1) := by decide +kernel
theorem d_T_build_22 : decode b_T_build 22 = .ok (.iload_n 2, 1) := by decide +kernel
theorem d_T_build_23 : decode b_T_build 23 = .ok (.putfield 15, 3) := by decide +kernel
theorem d_T_build_26 : decode b_T_build 26 = .ok (.aload_n 0, 1) := by decide +kernel
theorem d_T_build_27 : decode b_T_build 27 = .ok (.getfield 28, 3) := by decide +kernel
theorem d_T_build_30 : decode b_T_build 30 = .ok (.iconst 0, 1) := by decide +kernel
theorem d_T_build_31 : decode b_T_build 31 = .ok (.aload_n 0, 1) := by decide +kernel
theorem d_T_build_32 : decode b_T_build 32 = .ok (.getfield 24, 3) := by decide +kernel
theorem d_T_build_35 : decode b_T_build 35 = .ok (.iconst 0, 1) := by decide +kernel
theorem d_T_build_36 : decode b_T_build 36 = .ok (.iload_n 2, 1) := by decide +kernel
theorem d_T_build_37 : decode b_T_build 37 = .ok (.invokestatic 56, 3) := by decide +kernel
theorem d_T_build_40 : decode b_T_build 40 = .ok (.aload_n 0, 1) := by decide +kernel
theorem d_T_build_41 : decode b_T_build 41 = .ok (.aload_n 1, 1) := by decide +kernel
theorem d_T_build_42 : decode b_T_build 42 = .ok (.invokevirtual 62, 3) := by decide +kernel
theorem d_T_build_45 : decode b_T_build 45 = .ok (.aload_n 0, 1) := by decide +kernel
theorem d_T_build_46 : decode b_T_build 46 = .ok (.invokevirtual 66, 3) := by decide +kernel
theorem d_T_build_49 : decode b_T_build 49 = .ok (.aload_n 0, 1) := by decide +kernel
theorem d_T_build_50 : decode b_T_build 50 = .ok (.invokevirtual 69, 3) := by decide +kernel
theorem d_T_build_53 : decode b_T_build 53 = .ok (.iconst 1, 1) := by decide +kernel
theorem d_T_build_54 : decode b_T_build 54 = .ok (.ireturn, 1) := by decide +kernel
theorem d_T_findSets_0 : decode b_T_findSets 0 = .ok (.aload_n 0, 1) := by decide +kernel
theorem d_T_findSets_1 : decode b_T_findSets 1 = .ok (.getfield 28, 3) := by decide +kernel
theorem d_T_findSets_4 : decode b_T_findSets 4 = .ok (.iconst 0, 1) := by decide +kernel
theorem d_T_findSets_5 : decode b_T_findSets 5 = .ok (.iconst 1, 1) := by decide +kernel
theorem d_T_findSets_6 : decode b_T_findSets 6 = .ok (.aload_n 1, 1) := by decide +kernel
theorem d_T_findSets_7 : decode b_T_findSets 7 = .ok (.getfield 72, 3) := by decide +kernel
theorem d_T_findSets_10 : decode b_T_findSets 10 = .ok (.ishl, 1) := by decide +kernel
theorem d_T_findSets_11 : decode b_T_findSets 11 = .ok (.iastore, 1) := by decide +kernel
theorem d_T_findSets_12 : decode b_T_findSets 12 = .ok (.iconst 1, 1) := by decide +kernel
theorem d_T_findSets_13 : decode b_T_findSets 13 = .ok (.istore_n 2, 1) := by decide +kernel
theorem d_T_findSets_14 : decode b_T_findSets 14 = .ok (.iconst 0, 1) := by decide +kernel
theorem d_T_findSets_15 : decode b_T_findSets 15 = .ok (.istore_n 3, 1) := by decide +kernel
theorem d_T_findSets_16 : decode b_T_findSets 16 = .ok (.iload_n 3, 1) := by decide +kernel
theorem d_T_findSets_17 : decode b_T_findSets 17 = .ok (.iload_n 2, 1) := by decide +kernel
theorem d_T_findSets_18 : decode b_T_findSets 18 = .ok (.if_icmp .ge 79, 3) := by decide +kernel
theorem d_T_findSets_21 : decode b_T_findSets 21 = .ok (.iconst 0, 1) := by decide +kernel
theorem d_T_findSets_22 : decode b_T_findSets 22 = .ok (.istore 4, 2) := by decide +kernel
theorem d_T_findSets_24 : decode b_T_findSets 24 = .ok (.iload 4, 2) := by decide +kernel
theorem d_T_findSets_26 : decode b_T_findSets 26 = .ok (.aload_n 1, 1) := by decide +kernel
theorem d_T_findSets_27 : decode b_T_findSets 27 = .ok (.getfield 53, 3) := by decide +kernel
theorem d_T_findSets_30 : decode b_T_findSets 30 = .ok (.if_icmp .ge 61, 3) := by decide +kernel
theorem d_T_findSets_33 : decode b_T_findSets 33 = .ok (.aload_n 1, 1) := by decide +kernel
theorem d_T_findSets_34 : decode b_T_findSets 34 = .ok (.aload_n 0, 1) := by decide +kernel
theorem d_T_findSets_35 : decode b_T_findSets 35 = .ok (.getfield 28, 3) := by decide +kernel
theorem d_T_findSets_38 : decode b_T_findSets 38 = .ok (.iload_n 3, 1) := by decide +kernel
