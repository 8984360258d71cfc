theorem dX12_chance_0 : decode cX12_chance 0 = .ok (.aload_n 0, 1) := by decide +kernel
theorem dX12_chance_1 : decode cX12_chance 1 = .ok (.iconst 0, 1) := by decide +kernel
theorem dX12_chance_2 : decode cX12_chance 2 = .ok (.putfield 116, 3) := by decide +kernel
theorem dX12_chance_5 : decode cX12_chance 5 = .ok (.aload_n 0, 1) := by decide +kernel
theorem dX12_chance_6 : decode cX12_chance 6 = .ok (.iload_n 1, 1) := by decide +kernel
theorem dX12_chance_7 : decode cX12_chance 7 = .ok (.i2l, 1) := by decide +kernel
theorem dX12_chance_8 : decode cX12_chance 8 = .ok (.invokevirtual 292, 3) := by decide +kernel
theorem dX12_chance_11 : decode cX12_chance 11 = .ok (.ifCond .eq 28, 3) := by decide +kernel
theorem dX12_chance_14 : decode cX12_chance 14 = .ok (.iload_n 2, 1) := by decide +kernel
theorem dX12_chance_15 : decode cX12_chance 15 = .ok (.invokestatic 342, 3) := by decide +kernel
theorem dX12_chance_18 : decode cX12_chance 18 = .ok (.ifCond .eq 21, 3) := by decide +kernel
theorem dX12_chance_21 : decode cX12_chance 21 = .ok (.aload_n 0, 1) := by decide +kernel
theorem dX12_chance_22 : decode cX12_chance 22 = .ok (.iload_n 1, 1) := by decide +kernel
theorem dX12_chance_23 : decode cX12_chance 23 = .ok (.iconst 0, 1) := by decide +kernel
theorem dX12_chance_24 : decode cX12_chance 24 = .ok (.invokevirtual 474, 3) := by decide +kernel
theorem dX12_chance_27 : decode cX12_chance 27 = .ok (.aload_n 0, 1) := by decide +kernel
theorem dX12_chance_28 : decode cX12_chance 28 = .ok (.invokevirtual 478, 3) := by decide +kernel
theorem dX12_chance_31 : decode cX12_chance 31 = .ok (.iload_n 2, 1) := by decide +kernel
theorem dX12_chance_32 : decode cX12_chance 32 = .ok (.invokestatic 456, 3) := by decide +kernel
theorem dX12_chance_35 : decode cX12_chance 35 = .ok (.l2i, 1) := by decide +kernel
theorem dX12_chance_36 : decode cX12_chance 36 = .ok (.goto 5, 3) := by decide +kernel
theorem dX12_chance_39 : decode cX12_chance 39 = .ok (.bipush (-2), 2) := by decide +kernel
theorem dX12_chance_41 : decode cX12_chance 41 = .ok (.ireturn, 1) := by decide +kernel
theorem dX12_common_0 : decode cX12_common 0 = .ok (.lload_n 2, 1) := by decide +kernel
theorem dX12_common_1 : decode cX12_common 1 = .ok (.lconst 0, 1) := by decide +kernel
theorem dX12_common_2 : decode cX12_common 2 = .ok (.lcmp, 1) := by decide +kernel
theorem dX12_common_3 : decode cX12_common 3 = .ok (.ifCond .ne 18, 3) := by decide +kernel
theorem dX12_common_6 : decode cX12_common 6 = .ok (.lload_n 0, 1) := by decide +kernel
theorem dX12_common_7 : decode cX12_common 7 = .ok (.lconst 0, 1) := by decide +kernel
theorem dX12_common_8 : decode cX12_common 8 = .ok (.lcmp, 1) := by decide +kernel
theorem dX12_common_9 : decode cX12_common 9 = .ok (.ifCond .ge 8, 3) := by decide +kernel
theorem dX12_common_12 : decode cX12_common 12 = .ok (.lload_n 0, 1) := by decide +kernel
theorem dX12_common_13 : decode cX12_common 13 = .ok (.lneg, 1) := by decide +kernel
theorem dX12_common_14 : decode cX12_common 14 = .ok (.goto 14, 3) := by decide +kernel
theorem dX12_common_17 : decode cX12_common 17 = .ok (.lload_n 0, 1) := by decide +kernel
theorem dX12_common_18 : decode cX12_common 18 = .ok (.goto 10, 3) := by decide +kernel
theorem dX12_common_21 : decode cX12_common 21 = .ok (.lload_n 2, 1) := by decide +kernel
theorem dX12_common_22 : decode cX12_common 22 = .ok (.lload_n 0, 1) := by decide +kernel
theorem dX12_common_23 : decode cX12_common 23 = .ok (.lload_n 2, 1) := by decide +kernel
theorem dX12_common_24 : decode cX12_common 24 = .ok (.lrem, 1) := by decide +kernel
theorem dX12_common_25 : decode cX12_common 25 = .ok (.invokestatic 452, 3) := by decide +kernel
theorem dX12_common_28 : decode cX12_common 28 = .ok (.lreturn, 1) := by decide +kernel
theorem dX12_drawn_0 : decode cX12_drawn 0 = .ok (.aload_n 0, 1) := by decide +kernel
theorem dX12_drawn_1 : decode cX12_drawn 1 = .ok (.iconst 0, 1) := by decide +kernel
theorem dX12_drawn_2 : decode cX12_drawn 2 = .ok (.putfield 116, 3) := by decide +kernel
theorem dX12_drawn_5 : decode cX12_drawn 5 = .ok (.aload_n 0, 1) := by decide +kernel
theorem dX12_drawn_6 : decode cX12_drawn 6 = .ok (.invokevirtual 350, 3) := by decide +kernel
theorem dX12_drawn_9 : decode cX12_drawn 9 = .ok (.ifCond .eq 17, 3) := by decide +kernel
theorem dX12_drawn_12 : decode cX12_drawn 12 = .ok (.iload_n 1, 1) := by decide +kernel
theorem dX12_drawn_13 : decode cX12_drawn 13 = .ok (.invokestatic 494, 3) := by decide +kernel
theorem dX12_drawn_16 : decode cX12_drawn 16 = .ok (.ifCond .eq 10, 3) := by decide +kernel
theorem dX12_drawn_19 : decode cX12_drawn 19 = .ok (.iload_n 2, 1) := by decide +kernel
theorem dX12_drawn_20 : decode cX12_drawn 20 = .ok (.invokestatic 342, 3) := by decide +kernel
theorem dX12_drawn_23 : decode cX12_drawn 23 = .ok (.ifCond .ne 6, 3) := by decide +kernel
theorem dX12_drawn_26 : decode cX12_drawn 26 = .ok (.bipush (-2), 2) := by decide +kernel
theorem dX12_drawn_28 : decode cX12_drawn 28 = .ok (.ireturn, 1) := by decide +kernel
theorem dX12_drawn_29 : decode cX12_drawn 29 = .ok (.aload_n 0, 1) := by decide +kernel
theorem dX12_drawn_30 : decode cX12_drawn 30 = .ok (.iload_n 1, 1) := by decide +kernel
theorem dX12_drawn_31 : decode cX12_drawn 31 = .ok (.i2l, 1) := by decide +kernel
theorem dX12_drawn_32 : decode cX12_drawn 32 = .ok (.invokevirtual 497, 3) := by decide +kernel
theorem dX12_drawn_35 : decode cX12_drawn 35 = .ok (.iload_n 2, 1) := by decide +kernel
theorem dX12_drawn_36 : decode cX12_drawn 36 = .ok (.ifCond .ne 10, 3) := by decide +kernel
theorem dX12_drawn_39 : decode cX12_drawn 39 = .ok (.aload_n 0, 1) := by decide +kernel
theorem dX12_drawn_40 : decode cX12_drawn 40 = .ok (.getfield 298, 3) := by decide +kernel
theorem dX12_drawn_43 : decode cX12_drawn 43 = .ok (.goto 7, 3) := by decide +kernel
theorem dX12_drawn_46 : decode cX12_drawn 46 = .ok (.aload_n 0, 1) := by decide +kernel
theorem dX12_drawn_47 : decode cX12_drawn 47 = .ok (.invokevirtual 339, 3) := by decide +kernel
theorem dX12_drawn_50 : decode cX12_drawn 50 = .ok (.ireturn, 1) := by decide +kernel
theorem dX12_draws_0 : decode cX12_draws 0 = .ok (.aload_n 0, 1) := by decide +kernel
theorem dX12_draws_1 : decode cX12_draws 1 = .ok (.invokevirtual 330, 3) := by decide +kernel
theorem dX12_draws_4 : decode cX12_draws 4 = .ok (.aload_n 0, 1) := by decide +kernel
theorem dX12_draws_5 : decode cX12_draws 5 = .ok (.iconst 0, 1) := by decide +kernel
theorem dX12_draws_6 : decode cX12_draws 6 = .ok (.putfield 298, 3) := by decide +kernel
theorem dX12_draws_9 : decode cX12_draws 9 = .ok (.lload_n 1, 1) := by decide +kernel
theorem dX12_draws_10 : decode cX12_draws 10 = .ok (.lstore_n 3, 1) := by decide +kernel
theorem dX12_draws_11 : decode cX12_draws 11 = .ok (.iconst 0, 1) := by decide +kernel
theorem dX12_draws_12 : decode cX12_draws 12 = .ok (.istore 5, 2) := by decide +kernel
theorem dX12_draws_14 : decode cX12_draws 14 = .ok (.iload 5, 2) := by decide +kernel
theorem dX12_draws_16 : decode cX12_draws 16 = .ok (.aload_n 0, 1) := by decide +kernel
theorem dX12_draws_17 : decode cX12_draws 17 = .ok (.invokevirtual 286, 3) := by decide +kernel
theorem dX12_draws_20 : decode cX12_draws 20 = .ok (.if_icmp .ge 60, 3) := by decide +kernel
theorem dX12_draws_23 : decode cX12_draws 23 = .ok (.ldc2_w 484, 3) := by decide +kernel
theorem dX12_draws_26 : decode cX12_draws 26 = .ok (.lload_n 3, 1) := by decide +kernel
theorem dX12_draws_27 : decode cX12_draws 27 = .ok (.lmul, 1) := by decide +kernel
theorem dX12_draws_28 : decode cX12_draws 28 = .ok (.ldc2_w 486, 3) := by decide +kernel
theorem dX12_draws_31 : decode cX12_draws 31 = .ok (.ladd, 1) := by decide +kernel
theorem dX12_draws_32 : decode cX12_draws 32 = .ok (.ldc2_w 488, 3) := by decide +kernel
theorem dX12_draws_35 : decode cX12_draws 35 = .ok (.lrem, 1) := by decide +kernel
theorem dX12_draws_36 : decode cX12_draws 36 = .ok (.lstore_n 3, 1) := by decide +kernel
theorem dX12_draws_37 : decode cX12_draws 37 = .ok (.aload_n 0, 1) := by decide +kernel
theorem dX12_draws_38 : decode cX12_draws 38 = .ok (.dup, 1) := by decide +kernel
theorem dX12_draws_39 : decode cX12_draws 39 = .ok (.getfield 298, 3) := by decide +kernel
theorem dX12_draws_42 : decode cX12_draws 42 = .ok (.lload_n 3, 1) := by decide +kernel
theorem dX12_draws_43 : decode cX12_draws 43 = .ok (.ldc2_w 490, 3) := by decide +kernel
theorem dX12_draws_46 : decode cX12_draws 46 = .ok (.ldiv, 1) := by decide +kernel
theorem dX12_draws_47 : decode cX12_draws 47 = .ok (.ldc2_w 472, 3) := by decide +kernel
theorem dX12_draws_50 : decode cX12_draws 50 = .ok (.lrem, 1) := by decide +kernel
theorem dX12_draws_51 : decode cX12_draws 51 = .ok (.aload_n 0, 1) := by decide +kernel
theorem dX12_draws_52 : decode cX12_draws 52 = .ok (.getfield 34, 3) := by decide +kernel
theorem dX12_draws_55 : decode cX12_draws 55 = .ok (.iconst 2, 1) := by decide +kernel
theorem dX12_draws_56 : decode cX12_draws 56 = .ok (.iaload, 1) := by decide +kernel
theorem dX12_draws_57 : decode cX12_draws 57 = .ok (.i2l, 1) := by decide +kernel
theorem dX12_draws_58 : decode cX12_draws 58 = .ok (.lcmp, 1) := by decide +kernel
theorem dX12_draws_59 : decode cX12_draws 59 = .ok (.ifCond .ge 10, 3) := by decide +kernel
theorem dX12_draws_62 : decode cX12_draws 62 = .ok (.iconst 1, 1) := by decide +kernel
theorem dX12_draws_63 : decode cX12_draws 63 = .ok (.iload 5, 2) := by decide +kernel
theorem dX12_draws_65 : decode cX12_draws 65 = .ok (.ishl, 1) := by decide +kernel
theorem dX12_draws_66 : decode cX12_draws 66 = .ok (.goto 4, 3) := by decide +kernel
theorem dX12_draws_69 : decode cX12_draws 69 = .ok (.iconst 0, 1) := by decide +kernel
theorem dX12_draws_70 : decode cX12_draws 70 = .ok (.ior, 1) := by decide +kernel
theorem dX12_draws_71 : decode cX12_draws 71 = .ok (.putfield 298, 3) := by decide +kernel
theorem dX12_draws_74 : decode cX12_draws 74 = .ok (.iinc 5 1, 3) := by decide +kernel
theorem dX12_draws_77 : decode cX12_draws 77 = .ok (.goto (-63), 3) := by decide +kernel
theorem dX12_draws_80 : decode cX12_draws 80 = .ok (.aload_n 0, 1) := by decide +kernel
theorem dX12_draws_81 : decode cX12_draws 81 = .ok (.invokevirtual 333, 3) := by decide +kernel
theorem dX12_draws_84 : decode cX12_draws 84 = .ok (.return_, 1) := by decide +kernel
theorem dX12_isRest_0 : decode cX12_isRest 0 = .ok (.iconst 0, 1) := by decide +kernel
theorem dX12_isRest_1 : decode cX12_isRest 1 = .ok (.istore_n 3, 1) := by decide +kernel
theorem dX12_isRest_2 : decode cX12_isRest 2 = .ok (.iload_n 3, 1) := by decide +kernel
theorem dX12_isRest_3 : decode cX12_isRest 3 = .ok (.aload_n 0, 1) := by decide +kernel
theorem dX12_isRest_4 : decode cX12_isRest 4 = .ok (.invokevirtual 283, 3) := by decide +kernel
theorem dX12_isRest_7 : decode cX12_isRest 7 = .ok (.if_icmp .ge 57, 3) := by decide +kernel
theorem dX12_isRest_10 : decode cX12_isRest 10 = .ok (.aload_n 0, 1) := by decide +kernel
theorem dX12_isRest_11 : decode cX12_isRest 11 = .ok (.getfield 110, 3) := by decide +kernel
theorem dX12_isRest_14 : decode cX12_isRest 14 = .ok (.iconst 3, 1) := by decide +kernel
theorem dX12_isRest_15 : decode cX12_isRest 15 = .ok (.iload_n 3, 1) := by decide +kernel
theorem dX12_isRest_16 : decode cX12_isRest 16 = .ok (.imul, 1) := by decide +kernel
theorem dX12_isRest_17 : decode cX12_isRest 17 = .ok (.iload_n 2, 1) := by decide +kernel
theorem dX12_isRest_18 : decode cX12_isRest 18 = .ok (.iadd, 1) := by decide +kernel
theorem dX12_isRest_19 : decode cX12_isRest 19 = .ok (.iaload, 1) := by decide +kernel
theorem dX12_isRest_20 : decode cX12_isRest 20 = .ok (.aload_n 0, 1) := by decide +kernel
theorem dX12_isRest_21 : decode cX12_isRest 21 = .ok (.getfield 110, 3) := by decide +kernel
theorem dX12_isRest_24 : decode cX12_isRest 24 = .ok (.iconst 3, 1) := by decide +kernel
theorem dX12_isRest_25 : decode cX12_isRest 25 = .ok (.iload_n 1, 1) := by decide +kernel
theorem dX12_isRest_26 : decode cX12_isRest 26 = .ok (.imul, 1) := by decide +kernel
theorem dX12_isRest_27 : decode cX12_isRest 27 = .ok (.iload_n 2, 1) := by decide +kernel
theorem dX12_isRest_28 : decode cX12_isRest 28 = .ok (.iadd, 1) := by decide +kernel
theorem dX12_isRest_29 : decode cX12_isRest 29 = .ok (.iaload, 1) := by decide +kernel
theorem dX12_isRest_30 : decode cX12_isRest 30 = .ok (.if_icmp .lt 26, 3) := by decide +kernel
theorem dX12_isRest_33 : decode cX12_isRest 33 = .ok (.aload_n 0, 1) := by decide +kernel
theorem dX12_isRest_34 : decode cX12_isRest 34 = .ok (.getfield 113, 3) := by decide +kernel
theorem dX12_isRest_37 : decode cX12_isRest 37 = .ok (.iconst 3, 1) := by decide +kernel
theorem dX12_isRest_38 : decode cX12_isRest 38 = .ok (.iload_n 1, 1) := by decide +kernel
theorem dX12_isRest_39 : decode cX12_isRest 39 = .ok (.imul, 1) := by decide +kernel
theorem dX12_isRest_40 : decode cX12_isRest 40 = .ok (.iload_n 3, 1) := by decide +kernel
theorem dX12_isRest_41 : decode cX12_isRest 41 = .ok (.iadd, 1) := by decide +kernel
theorem dX12_isRest_42 : decode cX12_isRest 42 = .ok (.iaload, 1) := by decide +kernel
theorem dX12_isRest_43 : decode cX12_isRest 43 = .ok (.aload_n 0, 1) := by decide +kernel
theorem dX12_isRest_44 : decode cX12_isRest 44 = .ok (.getfield 113, 3) := by decide +kernel
theorem dX12_isRest_47 : decode cX12_isRest 47 = .ok (.iconst 3, 1) := by decide +kernel
theorem dX12_isRest_48 : decode cX12_isRest 48 = .ok (.iload_n 1, 1) := by decide +kernel
theorem dX12_isRest_49 : decode cX12_isRest 49 = .ok (.imul, 1) := by decide +kernel
theorem dX12_isRest_50 : decode cX12_isRest 50 = .ok (.iload_n 2, 1) := by decide +kernel
theorem dX12_isRest_51 : decode cX12_isRest 51 = .ok (.iadd, 1) := by decide +kernel
theorem dX12_isRest_52 : decode cX12_isRest 52 = .ok (.iaload, 1) := by decide +kernel
theorem dX12_isRest_53 : decode cX12_isRest 53 = .ok (.if_icmp .ge 5, 3) := by decide +kernel
theorem dX12_isRest_56 : decode cX12_isRest 56 = .ok (.iconst 0, 1) := by decide +kernel
theorem dX12_isRest_57 : decode cX12_isRest 57 = .ok (.ireturn, 1) := by decide +kernel
theorem dX12_isRest_58 : decode cX12_isRest 58 = .ok (.iinc 3 1, 3) := by decide +kernel
theorem dX12_isRest_61 : decode cX12_isRest 61 = .ok (.goto (-59), 3) := by decide +kernel
theorem dX12_isRest_64 : decode cX12_isRest 64 = .ok (.iconst 1, 1) := by decide +kernel
theorem dX12_isRest_65 : decode cX12_isRest 65 = .ok (.ireturn, 1) := by decide +kernel
theorem dX12_laysGame_0 : decode cX12_laysGame 0 = .ok (.aload_n 0, 1) := by decide +kernel
theorem dX12_laysGame_1 : decode cX12_laysGame 1 = .ok (.invokevirtual 330, 3) := by decide +kernel
theorem dX12_laysGame_4 : decode cX12_laysGame 4 = .ok (.iconst 0, 1) := by decide +kernel
theorem dX12_laysGame_5 : decode cX12_laysGame 5 = .ok (.istore_n 3, 1) := by decide +kernel
theorem dX12_laysGame_6 : decode cX12_laysGame 6 = .ok (.iload_n 3, 1) := by decide +kernel
theorem dX12_laysGame_7 : decode cX12_laysGame 7 = .ok (.aload_n 0, 1) := by decide +kernel
theorem dX12_laysGame_8 : decode cX12_laysGame 8 = .ok (.invokevirtual 283, 3) := by decide +kernel
theorem dX12_laysGame_11 : decode cX12_laysGame 11 = .ok (.if_icmp .ge 78, 3) := by decide +kernel
theorem dX12_laysGame_14 : decode cX12_laysGame 14 = .ok (.iconst 0, 1) := by decide +kernel
theorem dX12_laysGame_15 : decode cX12_laysGame 15 = .ok (.istore 4, 2) := by decide +kernel
theorem dX12_laysGame_17 : decode cX12_laysGame 17 = .ok (.iload 4, 2) := by decide +kernel
theorem dX12_laysGame_19 : decode cX12_laysGame 19 = .ok (.aload_n 0, 1) := by decide +kernel
theorem dX12_laysGame_20 : decode cX12_laysGame 20 = .ok (.invokevirtual 283, 3) := by decide +kernel
theorem dX12_laysGame_23 : decode cX12_laysGame 23 = .ok (.if_icmp .ge 60, 3) := by decide +kernel
theorem dX12_laysGame_26 : decode cX12_laysGame 26 = .ok (.aload_n 0, 1) := by decide +kernel
theorem dX12_laysGame_27 : decode cX12_laysGame 27 = .ok (.getfield 59, 3) := by decide +kernel
theorem dX12_laysGame_30 : decode cX12_laysGame 30 = .ok (.iload_n 1, 1) := by decide +kernel
theorem dX12_laysGame_31 : decode cX12_laysGame 31 = .ok (.iload_n 3, 1) := by decide +kernel
theorem dX12_laysGame_32 : decode cX12_laysGame 32 = .ok (.iastore, 1) := by decide +kernel
theorem dX12_laysGame_33 : decode cX12_laysGame 33 = .ok (.aload_n 0, 1) := by decide +kernel
theorem dX12_laysGame_34 : decode cX12_laysGame 34 = .ok (.getfield 59, 3) := by decide +kernel
theorem dX12_laysGame_37 : decode cX12_laysGame 37 = .ok (.iload_n 2, 1) := by decide +kernel
theorem dX12_laysGame_38 : decode cX12_laysGame 38 = .ok (.iload 4, 2) := by decide +kernel
theorem dX12_laysGame_40 : decode cX12_laysGame 40 = .ok (.iastore, 1) := by decide +kernel
theorem dX12_laysGame_41 : decode cX12_laysGame 41 = .ok (.aload_n 0, 1) := by decide +kernel
theorem dX12_laysGame_42 : decode cX12_laysGame 42 = .ok (.invokevirtual 333, 3) := by decide +kernel
theorem dX12_laysGame_45 : decode cX12_laysGame 45 = .ok (.aload_n 0, 1) := by decide +kernel
theorem dX12_laysGame_46 : decode cX12_laysGame 46 = .ok (.getfield 110, 3) := by decide +kernel
theorem dX12_laysGame_49 : decode cX12_laysGame 49 = .ok (.iconst 3, 1) := by decide +kernel
theorem dX12_laysGame_50 : decode cX12_laysGame 50 = .ok (.iload_n 3, 1) := by decide +kernel
theorem dX12_laysGame_51 : decode cX12_laysGame 51 = .ok (.imul, 1) := by decide +kernel
theorem dX12_laysGame_52 : decode cX12_laysGame 52 = .ok (.iload 4, 2) := by decide +kernel
theorem dX12_laysGame_54 : decode cX12_laysGame 54 = .ok (.iadd, 1) := by decide +kernel
theorem dX12_laysGame_55 : decode cX12_laysGame 55 = .ok (.aload_n 0, 1) := by decide +kernel
theorem dX12_laysGame_56 : decode cX12_laysGame 56 = .ok (.iload_n 1, 1) := by decide +kernel
theorem dX12_laysGame_57 : decode cX12_laysGame 57 = .ok (.invokevirtual 460, 3) := by decide +kernel
theorem dX12_laysGame_60 : decode cX12_laysGame 60 = .ok (.iastore, 1) := by decide +kernel
theorem dX12_laysGame_61 : decode cX12_laysGame 61 = .ok (.aload_n 0, 1) := by decide +kernel
theorem dX12_laysGame_62 : decode cX12_laysGame 62 = .ok (.getfield 113, 3) := by decide +kernel
theorem dX12_laysGame_65 : decode cX12_laysGame 65 = .ok (.iconst 3, 1) := by decide +kernel
theorem dX12_laysGame_66 : decode cX12_laysGame 66 = .ok (.iload_n 3, 1) := by decide +kernel
theorem dX12_laysGame_67 : decode cX12_laysGame 67 = .ok (.imul, 1) := by decide +kernel
theorem dX12_laysGame_68 : decode cX12_laysGame 68 = .ok (.iload 4, 2) := by decide +kernel
theorem dX12_laysGame_70 : decode cX12_laysGame 70 = .ok (.iadd, 1) := by decide +kernel
theorem dX12_laysGame_71 : decode cX12_laysGame 71 = .ok (.aload_n 0, 1) := by decide +kernel
theorem dX12_laysGame_72 : decode cX12_laysGame 72 = .ok (.iload_n 2, 1) := by decide +kernel
theorem dX12_laysGame_73 : decode cX12_laysGame 73 = .ok (.invokevirtual 460, 3) := by decide +kernel
theorem dX12_laysGame_76 : decode cX12_laysGame 76 = .ok (.iastore, 1) := by decide +kernel
theorem dX12_laysGame_77 : decode cX12_laysGame 77 = .ok (.iinc 4 1, 3) := by decide +kernel
theorem dX12_laysGame_80 : decode cX12_laysGame 80 = .ok (.goto (-63), 3) := by decide +kernel
theorem dX12_laysGame_83 : decode cX12_laysGame 83 = .ok (.iinc 3 1, 3) := by decide +kernel
theorem dX12_laysGame_86 : decode cX12_laysGame 86 = .ok (.goto (-80), 3) := by decide +kernel
theorem dX12_laysGame_89 : decode cX12_laysGame 89 = .ok (.return_, 1) := by decide +kernel
theorem dX12_lossOf_0 : decode cX12_lossOf 0 = .ok (.aload_n 0, 1) := by decide +kernel
theorem dX12_lossOf_1 : decode cX12_lossOf 1 = .ok (.iload_n 1, 1) := by decide +kernel
theorem dX12_lossOf_2 : decode cX12_lossOf 2 = .ok (.invokevirtual 356, 3) := by decide +kernel
theorem dX12_lossOf_5 : decode cX12_lossOf 5 = .ok (.aload_n 0, 1) := by decide +kernel
theorem dX12_lossOf_6 : decode cX12_lossOf 6 = .ok (.getfield 80, 3) := by decide +kernel
theorem dX12_lossOf_9 : decode cX12_lossOf 9 = .ok (.iload_n 1, 1) := by decide +kernel
theorem dX12_lossOf_10 : decode cX12_lossOf 10 = .ok (.iaload, 1) := by decide +kernel
theorem dX12_lossOf_11 : decode cX12_lossOf 11 = .ok (.iconst (-1), 1) := by decide +kernel
theorem dX12_lossOf_12 : decode cX12_lossOf 12 = .ok (.if_icmp .ne 8, 3) := by decide +kernel
theorem dX12_lossOf_15 : decode cX12_lossOf 15 = .ok (.bipush 9, 2) := by decide +kernel
theorem dX12_lossOf_17 : decode cX12_lossOf 17 = .ok (.goto 4, 3) := by decide +kernel
theorem dX12_lossOf_20 : decode cX12_lossOf 20 = .ok (.iconst 0, 1) := by decide +kernel
theorem dX12_lossOf_21 : decode cX12_lossOf 21 = .ok (.iadd, 1) := by decide +kernel
theorem dX12_lossOf_22 : decode cX12_lossOf 22 = .ok (.ireturn, 1) := by decide +kernel
theorem dX12_luck_0 : decode cX12_luck 0 = .ok (.aload_n 0, 1) := by decide +kernel
theorem dX12_luck_1 : decode cX12_luck 1 = .ok (.iconst 0, 1) := by decide +kernel
theorem dX12_luck_2 : decode cX12_luck 2 = .ok (.putfield 116, 3) := by decide +kernel
theorem dX12_luck_5 : decode cX12_luck 5 = .ok (.iload_n 1, 1) := by decide +kernel
theorem dX12_luck_6 : decode cX12_luck 6 = .ok (.invokestatic 494, 3) := by decide +kernel
theorem dX12_luck_9 : decode cX12_luck 9 = .ok (.ifCond .eq 24, 3) := by decide +kernel
theorem dX12_luck_12 : decode cX12_luck 12 = .ok (.iload_n 2, 1) := by decide +kernel
theorem dX12_luck_13 : decode cX12_luck 13 = .ok (.i2l, 1) := by decide +kernel
theorem dX12_luck_14 : decode cX12_luck 14 = .ok (.lconst 1, 1) := by decide +kernel
theorem dX12_luck_15 : decode cX12_luck 15 = .ok (.ldc2_w 500, 3) := by decide +kernel
theorem dX12_luck_18 : decode cX12_luck 18 = .ok (.invokestatic 121, 3) := by decide +kernel
theorem dX12_luck_21 : decode cX12_luck 21 = .ok (.ifCond .eq 12, 3) := by decide +kernel
theorem dX12_luck_24 : decode cX12_luck 24 = .ok (.aload_n 0, 1) := by decide +kernel
theorem dX12_luck_25 : decode cX12_luck 25 = .ok (.iload_n 3, 1) := by decide +kernel
theorem dX12_luck_26 : decode cX12_luck 26 = .ok (.i2l, 1) := by decide +kernel
theorem dX12_luck_27 : decode cX12_luck 27 = .ok (.invokevirtual 292, 3) := by decide +kernel
theorem dX12_luck_30 : decode cX12_luck 30 = .ok (.ifCond .ne 6, 3) := by decide +kernel
theorem dX12_luck_33 : decode cX12_luck 33 = .ok (.bipush (-2), 2) := by decide +kernel
theorem dX12_luck_35 : decode cX12_luck 35 = .ok (.ireturn, 1) := by decide +kernel
theorem dX12_luck_36 : decode cX12_luck 36 = .ok (.iconst 0, 1) := by decide +kernel
theorem dX12_luck_37 : decode cX12_luck 37 = .ok (.istore 4, 2) := by decide +kernel
theorem dX12_luck_39 : decode cX12_luck 39 = .ok (.iconst 0, 1) := by decide +kernel
theorem dX12_luck_40 : decode cX12_luck 40 = .ok (.istore 5, 2) := by decide +kernel
theorem dX12_luck_42 : decode cX12_luck 42 = .ok (.iload 5, 2) := by decide +kernel
theorem dX12_luck_44 : decode cX12_luck 44 = .ok (.iload_n 2, 1) := by decide +kernel
theorem dX12_luck_45 : decode cX12_luck 45 = .ok (.if_icmp .ge 39, 3) := by decide +kernel
theorem dX12_luck_48 : decode cX12_luck 48 = .ok (.aload_n 0, 1) := by decide +kernel
theorem dX12_luck_49 : decode cX12_luck 49 = .ok (.iload_n 1, 1) := by decide +kernel
theorem dX12_luck_50 : decode cX12_luck 50 = .ok (.i2l, 1) := by decide +kernel
theorem dX12_luck_51 : decode cX12_luck 51 = .ok (.iload 5, 2) := by decide +kernel
theorem dX12_luck_53 : decode cX12_luck 53 = .ok (.i2l, 1) := by decide +kernel
theorem dX12_luck_54 : decode cX12_luck 54 = .ok (.ladd, 1) := by decide +kernel
theorem dX12_luck_55 : decode cX12_luck 55 = .ok (.invokevirtual 497, 3) := by decide +kernel
theorem dX12_luck_58 : decode cX12_luck 58 = .ok (.iload 4, 2) := by decide +kernel
theorem dX12_luck_60 : decode cX12_luck 60 = .ok (.aload_n 0, 1) := by decide +kernel
theorem dX12_luck_61 : decode cX12_luck 61 = .ok (.getfield 74, 3) := by decide +kernel
theorem dX12_luck_64 : decode cX12_luck 64 = .ok (.iload_n 3, 1) := by decide +kernel
theorem dX12_luck_65 : decode cX12_luck 65 = .ok (.iaload, 1) := by decide +kernel
theorem dX12_luck_66 : decode cX12_luck 66 = .ok (.iconst (-1), 1) := by decide +kernel
theorem dX12_luck_67 : decode cX12_luck 67 = .ok (.if_icmp .ne 7, 3) := by decide +kernel
theorem dX12_luck_70 : decode cX12_luck 70 = .ok (.iconst 0, 1) := by decide +kernel
theorem dX12_luck_71 : decode cX12_luck 71 = .ok (.goto 4, 3) := by decide +kernel
theorem dX12_luck_74 : decode cX12_luck 74 = .ok (.iconst 1, 1) := by decide +kernel
theorem dX12_luck_75 : decode cX12_luck 75 = .ok (.iadd, 1) := by decide +kernel
theorem dX12_luck_76 : decode cX12_luck 76 = .ok (.istore 4, 2) := by decide +kernel
theorem dX12_luck_78 : decode cX12_luck 78 = .ok (.iinc 5 1, 3) := by decide +kernel
theorem dX12_luck_81 : decode cX12_luck 81 = .ok (.goto (-39), 3) := by decide +kernel
theorem dX12_luck_84 : decode cX12_luck 84 = .ok (.iload 4, 2) := by decide +kernel
theorem dX12_luck_86 : decode cX12_luck 86 = .ok (.ireturn, 1) := by decide +kernel
theorem dX12_mean_0 : decode cX12_mean 0 = .ok (.aload_n 0, 1) := by decide +kernel
theorem dX12_mean_1 : decode cX12_mean 1 = .ok (.iconst 0, 1) := by decide +kernel
theorem dX12_mean_2 : decode cX12_mean 2 = .ok (.putfield 116, 3) := by decide +kernel
theorem dX12_mean_5 : decode cX12_mean 5 = .ok (.aload_n 0, 1) := by decide +kernel
theorem dX12_mean_6 : decode cX12_mean 6 = .ok (.iload_n 1, 1) := by decide +kernel
theorem dX12_mean_7 : decode cX12_mean 7 = .ok (.i2l, 1) := by decide +kernel
theorem dX12_mean_8 : decode cX12_mean 8 = .ok (.invokevirtual 292, 3) := by decide +kernel
theorem dX12_mean_11 : decode cX12_mean 11 = .ok (.ifCond .eq 27, 3) := by decide +kernel
theorem dX12_mean_14 : decode cX12_mean 14 = .ok (.iload_n 2, 1) := by decide +kernel
theorem dX12_mean_15 : decode cX12_mean 15 = .ok (.invokestatic 342, 3) := by decide +kernel
theorem dX12_mean_18 : decode cX12_mean 18 = .ok (.ifCond .eq 20, 3) := by decide +kernel
theorem dX12_mean_21 : decode cX12_mean 21 = .ok (.aload_n 0, 1) := by decide +kernel
theorem dX12_mean_22 : decode cX12_mean 22 = .ok (.iload_n 1, 1) := by decide +kernel
theorem dX12_mean_23 : decode cX12_mean 23 = .ok (.iconst 1, 1) := by decide +kernel
theorem dX12_mean_24 : decode cX12_mean 24 = .ok (.invokevirtual 474, 3) := by decide +kernel
theorem dX12_mean_27 : decode cX12_mean 27 = .ok (.aload_n 0, 1) := by decide +kernel
theorem dX12_mean_28 : decode cX12_mean 28 = .ok (.invokevirtual 478, 3) := by decide +kernel
theorem dX12_mean_31 : decode cX12_mean 31 = .ok (.iload_n 2, 1) := by decide +kernel
theorem dX12_mean_32 : decode cX12_mean 32 = .ok (.invokestatic 456, 3) := by decide +kernel
theorem dX12_mean_35 : decode cX12_mean 35 = .ok (.goto 6, 3) := by decide +kernel
theorem dX12_mean_38 : decode cX12_mean 38 = .ok (.ldc2_w 482, 3) := by decide +kernel
theorem dX12_mean_41 : decode cX12_mean 41 = .ok (.lreturn, 1) := by decide +kernel
theorem dX12_part_0 : decode cX12_part 0 = .ok (.iload 4, 2) := by decide +kernel
theorem dX12_part_2 : decode cX12_part 2 = .ok (.ifCond .ne 7, 3) := by decide +kernel
theorem dX12_part_5 : decode cX12_part 5 = .ok (.lload_n 0, 1) := by decide +kernel
theorem dX12_part_6 : decode cX12_part 6 = .ok (.goto 4, 3) := by decide +kernel
theorem dX12_part_9 : decode cX12_part 9 = .ok (.lload_n 2, 1) := by decide +kernel
theorem dX12_part_10 : decode cX12_part 10 = .ok (.lload_n 0, 1) := by decide +kernel
theorem dX12_part_11 : decode cX12_part 11 = .ok (.lload_n 2, 1) := by decide +kernel
theorem dX12_part_12 : decode cX12_part 12 = .ok (.invokestatic 452, 3) := by decide +kernel
theorem dX12_part_15 : decode cX12_part 15 = .ok (.ldiv, 1) := by decide +kernel
theorem dX12_part_16 : decode cX12_part 16 = .ok (.lreturn, 1) := by decide +kernel
theorem dX12_rest_0 : decode cX12_rest 0 = .ok (.aload_n 0, 1) := by decide +kernel
theorem dX12_rest_1 : decode cX12_rest 1 = .ok (.iconst 0, 1) := by decide +kernel
theorem dX12_rest_2 : decode cX12_rest 2 = .ok (.putfield 116, 3) := by decide +kernel
theorem dX12_rest_5 : decode cX12_rest 5 = .ok (.aload_n 0, 1) := by decide +kernel
theorem dX12_rest_6 : decode cX12_rest 6 = .ok (.iload_n 1, 1) := by decide +kernel
theorem dX12_rest_7 : decode cX12_rest 7 = .ok (.iload_n 2, 1) := by decide +kernel
theorem dX12_rest_8 : decode cX12_rest 8 = .ok (.invokevirtual 463, 3) := by decide +kernel
theorem dX12_rest_11 : decode cX12_rest 11 = .ok (.ifCond .ne 6, 3) := by decide +kernel
theorem dX12_rest_14 : decode cX12_rest 14 = .ok (.bipush (-2), 2) := by decide +kernel
theorem dX12_rest_16 : decode cX12_rest 16 = .ok (.ireturn, 1) := by decide +kernel
theorem dX12_rest_17 : decode cX12_rest 17 = .ok (.aload_n 0, 1) := by decide +kernel
theorem dX12_rest_18 : decode cX12_rest 18 = .ok (.iload_n 1, 1) := by decide +kernel
theorem dX12_rest_19 : decode cX12_rest 19 = .ok (.iload_n 2, 1) := by decide +kernel
theorem dX12_rest_20 : decode cX12_rest 20 = .ok (.invokevirtual 466, 3) := by decide +kernel
theorem dX12_rest_23 : decode cX12_rest 23 = .ok (.iconst 0, 1) := by decide +kernel
theorem dX12_rest_24 : decode cX12_rest 24 = .ok (.istore_n 3, 1) := by decide +kernel
theorem dX12_rest_25 : decode cX12_rest 25 = .ok (.iload_n 3, 1) := by decide +kernel
theorem dX12_rest_26 : decode cX12_rest 26 = .ok (.aload_n 0, 1) := by decide +kernel
theorem dX12_rest_27 : decode cX12_rest 27 = .ok (.invokevirtual 283, 3) := by decide +kernel
theorem dX12_rest_30 : decode cX12_rest 30 = .ok (.if_icmp .ge 45, 3) := by decide +kernel
theorem dX12_rest_33 : decode cX12_rest 33 = .ok (.iconst 0, 1) := by decide +kernel
theorem dX12_rest_34 : decode cX12_rest 34 = .ok (.istore 4, 2) := by decide +kernel
theorem dX12_rest_36 : decode cX12_rest 36 = .ok (.iload 4, 2) := by decide +kernel
theorem dX12_rest_38 : decode cX12_rest 38 = .ok (.aload_n 0, 1) := by decide +kernel
theorem dX12_rest_39 : decode cX12_rest 39 = .ok (.invokevirtual 283, 3) := by decide +kernel
theorem dX12_rest_42 : decode cX12_rest 42 = .ok (.if_icmp .ge 27, 3) := by decide +kernel
theorem dX12_rest_45 : decode cX12_rest 45 = .ok (.aload_n 0, 1) := by decide +kernel
theorem dX12_rest_46 : decode cX12_rest 46 = .ok (.iload_n 3, 1) := by decide +kernel
theorem dX12_rest_47 : decode cX12_rest 47 = .ok (.iload 4, 2) := by decide +kernel
theorem dX12_rest_49 : decode cX12_rest 49 = .ok (.invokevirtual 469, 3) := by decide +kernel
theorem dX12_rest_52 : decode cX12_rest 52 = .ok (.ifCond .eq 11, 3) := by decide +kernel
theorem dX12_rest_55 : decode cX12_rest 55 = .ok (.bipush 10, 2) := by decide +kernel
theorem dX12_rest_57 : decode cX12_rest 57 = .ok (.iload_n 3, 1) := by decide +kernel
theorem dX12_rest_58 : decode cX12_rest 58 = .ok (.imul, 1) := by decide +kernel
theorem dX12_rest_59 : decode cX12_rest 59 = .ok (.iload 4, 2) := by decide +kernel
theorem dX12_rest_61 : decode cX12_rest 61 = .ok (.iadd, 1) := by decide +kernel
theorem dX12_rest_62 : decode cX12_rest 62 = .ok (.ireturn, 1) := by decide +kernel
theorem dX12_rest_63 : decode cX12_rest 63 = .ok (.iinc 4 1, 3) := by decide +kernel
theorem dX12_rest_66 : decode cX12_rest 66 = .ok (.goto (-30), 3) := by decide +kernel
theorem dX12_rest_69 : decode cX12_rest 69 = .ok (.iinc 3 1, 3) := by decide +kernel
theorem dX12_rest_72 : decode cX12_rest 72 = .ok (.goto (-47), 3) := by decide +kernel
theorem dX12_rest_75 : decode cX12_rest 75 = .ok (.iconst (-1), 1) := by decide +kernel
theorem dX12_rest_76 : decode cX12_rest 76 = .ok (.ireturn, 1) := by decide +kernel
theorem dX12_rests_0 : decode cX12_rests 0 = .ok (.aload_n 0, 1) := by decide +kernel
theorem dX12_rests_1 : decode cX12_rests 1 = .ok (.iconst 0, 1) := by decide +kernel
theorem dX12_rests_2 : decode cX12_rests 2 = .ok (.putfield 116, 3) := by decide +kernel
theorem dX12_rests_5 : decode cX12_rests 5 = .ok (.aload_n 0, 1) := by decide +kernel
theorem dX12_rests_6 : decode cX12_rests 6 = .ok (.iload_n 1, 1) := by decide +kernel
theorem dX12_rests_7 : decode cX12_rests 7 = .ok (.iload_n 2, 1) := by decide +kernel
theorem dX12_rests_8 : decode cX12_rests 8 = .ok (.invokevirtual 463, 3) := by decide +kernel
theorem dX12_rests_11 : decode cX12_rests 11 = .ok (.ifCond .ne 6, 3) := by decide +kernel
theorem dX12_rests_14 : decode cX12_rests 14 = .ok (.bipush (-2), 2) := by decide +kernel
theorem dX12_rests_16 : decode cX12_rests 16 = .ok (.ireturn, 1) := by decide +kernel
theorem dX12_rests_17 : decode cX12_rests 17 = .ok (.aload_n 0, 1) := by decide +kernel
theorem dX12_rests_18 : decode cX12_rests 18 = .ok (.iload_n 1, 1) := by decide +kernel
theorem dX12_rests_19 : decode cX12_rests 19 = .ok (.iload_n 2, 1) := by decide +kernel
theorem dX12_rests_20 : decode cX12_rests 20 = .ok (.invokevirtual 466, 3) := by decide +kernel
theorem dX12_rests_23 : decode cX12_rests 23 = .ok (.iconst 0, 1) := by decide +kernel
theorem dX12_rests_24 : decode cX12_rests 24 = .ok (.istore_n 3, 1) := by decide +kernel
theorem dX12_rests_25 : decode cX12_rests 25 = .ok (.iconst 0, 1) := by decide +kernel
theorem dX12_rests_26 : decode cX12_rests 26 = .ok (.istore 4, 2) := by decide +kernel
theorem dX12_rests_28 : decode cX12_rests 28 = .ok (.iload 4, 2) := by decide +kernel
theorem dX12_rests_30 : decode cX12_rests 30 = .ok (.aload_n 0, 1) := by decide +kernel
theorem dX12_rests_31 : decode cX12_rests 31 = .ok (.invokevirtual 283, 3) := by decide +kernel
theorem dX12_rests_34 : decode cX12_rests 34 = .ok (.if_icmp .ge 46, 3) := by decide +kernel
theorem dX12_rests_37 : decode cX12_rests 37 = .ok (.iconst 0, 1) := by decide +kernel
theorem dX12_rests_38 : decode cX12_rests 38 = .ok (.istore 5, 2) := by decide +kernel
theorem dX12_rests_40 : decode cX12_rests 40 = .ok (.iload 5, 2) := by decide +kernel
theorem dX12_rests_42 : decode cX12_rests 42 = .ok (.aload_n 0, 1) := by decide +kernel
theorem dX12_rests_43 : decode cX12_rests 43 = .ok (.invokevirtual 283, 3) := by decide +kernel
theorem dX12_rests_46 : decode cX12_rests 46 = .ok (.if_icmp .ge 28, 3) := by decide +kernel
theorem dX12_rests_49 : decode cX12_rests 49 = .ok (.iload_n 3, 1) := by decide +kernel
theorem dX12_rests_50 : decode cX12_rests 50 = .ok (.aload_n 0, 1) := by decide +kernel
theorem dX12_rests_51 : decode cX12_rests 51 = .ok (.iload 4, 2) := by decide +kernel
theorem dX12_rests_53 : decode cX12_rests 53 = .ok (.iload 5, 2) := by decide +kernel
theorem dX12_rests_55 : decode cX12_rests 55 = .ok (.invokevirtual 469, 3) := by decide +kernel
theorem dX12_rests_58 : decode cX12_rests 58 = .ok (.ifCond .eq 7, 3) := by decide +kernel
theorem dX12_rests_61 : decode cX12_rests 61 = .ok (.iconst 1, 1) := by decide +kernel
theorem dX12_rests_62 : decode cX12_rests 62 = .ok (.goto 4, 3) := by decide +kernel
theorem dX12_rests_65 : decode cX12_rests 65 = .ok (.iconst 0, 1) := by decide +kernel
theorem dX12_rests_66 : decode cX12_rests 66 = .ok (.iadd, 1) := by decide +kernel
theorem dX12_rests_67 : decode cX12_rests 67 = .ok (.istore_n 3, 1) := by decide +kernel
theorem dX12_rests_68 : decode cX12_rests 68 = .ok (.iinc 5 1, 3) := by decide +kernel
theorem dX12_rests_71 : decode cX12_rests 71 = .ok (.goto (-31), 3) := by decide +kernel
theorem dX12_rests_74 : decode cX12_rests 74 = .ok (.iinc 4 1, 3) := by decide +kernel
theorem dX12_rests_77 : decode cX12_rests 77 = .ok (.goto (-49), 3) := by decide +kernel
theorem dX12_rests_80 : decode cX12_rests 80 = .ok (.iload_n 3, 1) := by decide +kernel
theorem dX12_rests_81 : decode cX12_rests 81 = .ok (.ireturn, 1) := by decide +kernel
theorem dX12_share_0 : decode cX12_share 0 = .ok (.aload_n 0, 1) := by decide +kernel
theorem dX12_share_1 : decode cX12_share 1 = .ok (.iconst 0, 1) := by decide +kernel
theorem dX12_share_2 : decode cX12_share 2 = .ok (.putfield 116, 3) := by decide +kernel
theorem dX12_share_5 : decode cX12_share 5 = .ok (.aload_n 0, 1) := by decide +kernel
theorem dX12_share_6 : decode cX12_share 6 = .ok (.iload_n 1, 1) := by decide +kernel
theorem dX12_share_7 : decode cX12_share 7 = .ok (.i2l, 1) := by decide +kernel
theorem dX12_share_8 : decode cX12_share 8 = .ok (.invokevirtual 289, 3) := by decide +kernel
theorem dX12_share_11 : decode cX12_share 11 = .ok (.ifCond .eq 10, 3) := by decide +kernel
theorem dX12_share_14 : decode cX12_share 14 = .ok (.iload_n 2, 1) := by decide +kernel
theorem dX12_share_15 : decode cX12_share 15 = .ok (.invokestatic 342, 3) := by decide +kernel
theorem dX12_share_18 : decode cX12_share 18 = .ok (.ifCond .ne 6, 3) := by decide +kernel
theorem dX12_share_21 : decode cX12_share 21 = .ok (.bipush (-2), 2) := by decide +kernel
theorem dX12_share_23 : decode cX12_share 23 = .ok (.ireturn, 1) := by decide +kernel
theorem dX12_share_24 : decode cX12_share 24 = .ok (.iconst 1, 1) := by decide +kernel
theorem dX12_share_25 : decode cX12_share 25 = .ok (.aload_n 0, 1) := by decide +kernel
theorem dX12_share_26 : decode cX12_share 26 = .ok (.invokevirtual 286, 3) := by decide +kernel
theorem dX12_share_29 : decode cX12_share 29 = .ok (.ishl, 1) := by decide +kernel
theorem dX12_share_30 : decode cX12_share 30 = .ok (.iconst 1, 1) := by decide +kernel
theorem dX12_share_31 : decode cX12_share 31 = .ok (.isub, 1) := by decide +kernel
theorem dX12_share_32 : decode cX12_share 32 = .ok (.istore_n 3, 1) := by decide +kernel
theorem dX12_share_33 : decode cX12_share 33 = .ok (.lconst 0, 1) := by decide +kernel
theorem dX12_share_34 : decode cX12_share 34 = .ok (.lstore 4, 2) := by decide +kernel
theorem dX12_share_36 : decode cX12_share 36 = .ok (.iconst 0, 1) := by decide +kernel
theorem dX12_share_37 : decode cX12_share 37 = .ok (.istore 6, 2) := by decide +kernel
theorem dX12_share_39 : decode cX12_share 39 = .ok (.iload 6, 2) := by decide +kernel
theorem dX12_share_41 : decode cX12_share 41 = .ok (.iload_n 3, 1) := by decide +kernel
theorem dX12_share_42 : decode cX12_share 42 = .ok (.if_icmp .gt 78, 3) := by decide +kernel
theorem dX12_share_45 : decode cX12_share 45 = .ok (.iload 6, 2) := by decide +kernel
theorem dX12_share_47 : decode cX12_share 47 = .ok (.iload_n 1, 1) := by decide +kernel
theorem dX12_share_48 : decode cX12_share 48 = .ok (.invokestatic 307, 3) := by decide +kernel
theorem dX12_share_51 : decode cX12_share 51 = .ok (.ifCond .eq 6, 3) := by decide +kernel
theorem dX12_share_54 : decode cX12_share 54 = .ok (.goto 60, 3) := by decide +kernel
theorem dX12_share_57 : decode cX12_share 57 = .ok (.iload 6, 2) := by decide +kernel
theorem dX12_share_59 : decode cX12_share 59 = .ok (.invokestatic 407, 3) := by decide +kernel
theorem dX12_share_62 : decode cX12_share 62 = .ok (.istore 7, 2) := by decide +kernel
theorem dX12_share_64 : decode cX12_share 64 = .ok (.lload 4, 2) := by decide +kernel
theorem dX12_share_66 : decode cX12_share 66 = .ok (.iload 7, 2) := by decide +kernel
theorem dX12_share_68 : decode cX12_share 68 = .ok (.invokestatic 448, 3) := by decide +kernel
theorem dX12_share_71 : decode cX12_share 71 = .ok (.aload_n 0, 1) := by decide +kernel
theorem dX12_share_72 : decode cX12_share 72 = .ok (.invokevirtual 286, 3) := by decide +kernel
theorem dX12_share_75 : decode cX12_share 75 = .ok (.iload 7, 2) := by decide +kernel
theorem dX12_share_77 : decode cX12_share 77 = .ok (.isub, 1) := by decide +kernel
theorem dX12_share_78 : decode cX12_share 78 = .ok (.iconst 1, 1) := by decide +kernel
theorem dX12_share_79 : decode cX12_share 79 = .ok (.isub, 1) := by decide +kernel
theorem dX12_share_80 : decode cX12_share 80 = .ok (.invokestatic 448, 3) := by decide +kernel
theorem dX12_share_83 : decode cX12_share 83 = .ok (.lmul, 1) := by decide +kernel
theorem dX12_share_84 : decode cX12_share 84 = .ok (.aload_n 0, 1) := by decide +kernel
theorem dX12_share_85 : decode cX12_share 85 = .ok (.iload_n 3, 1) := by decide +kernel
theorem dX12_share_86 : decode cX12_share 86 = .ok (.iload 6, 2) := by decide +kernel
theorem dX12_share_88 : decode cX12_share 88 = .ok (.iconst 1, 1) := by decide +kernel
theorem dX12_share_89 : decode cX12_share 89 = .ok (.iload_n 1, 1) := by decide +kernel
theorem dX12_share_90 : decode cX12_share 90 = .ok (.ishl, 1) := by decide +kernel
theorem dX12_share_91 : decode cX12_share 91 = .ok (.ior, 1) := by decide +kernel
theorem dX12_share_92 : decode cX12_share 92 = .ok (.iconst (-1), 1) := by decide +kernel
theorem dX12_share_93 : decode cX12_share 93 = .ok (.ixor, 1) := by decide +kernel
theorem dX12_share_94 : decode cX12_share 94 = .ok (.iand, 1) := by decide +kernel
theorem dX12_share_95 : decode cX12_share 95 = .ok (.invokevirtual 389, 3) := by decide +kernel
theorem dX12_share_98 : decode cX12_share 98 = .ok (.aload_n 0, 1) := by decide +kernel
theorem dX12_share_99 : decode cX12_share 99 = .ok (.iload_n 3, 1) := by decide +kernel
theorem dX12_share_100 : decode cX12_share 100 = .ok (.iload 6, 2) := by decide +kernel
theorem dX12_share_102 : decode cX12_share 102 = .ok (.iconst (-1), 1) := by decide +kernel
theorem dX12_share_103 : decode cX12_share 103 = .ok (.ixor, 1) := by decide +kernel
theorem dX12_share_104 : decode cX12_share 104 = .ok (.iand, 1) := by decide +kernel
theorem dX12_share_105 : decode cX12_share 105 = .ok (.invokevirtual 389, 3) := by decide +kernel
theorem dX12_share_108 : decode cX12_share 108 = .ok (.isub, 1) := by decide +kernel
theorem dX12_share_109 : decode cX12_share 109 = .ok (.i2l, 1) := by decide +kernel
theorem dX12_share_110 : decode cX12_share 110 = .ok (.lmul, 1) := by decide +kernel
theorem dX12_share_111 : decode cX12_share 111 = .ok (.ladd, 1) := by decide +kernel
theorem dX12_share_112 : decode cX12_share 112 = .ok (.lstore 4, 2) := by decide +kernel
theorem dX12_share_114 : decode cX12_share 114 = .ok (.iinc 6 1, 3) := by decide +kernel
theorem dX12_share_117 : decode cX12_share 117 = .ok (.goto (-78), 3) := by decide +kernel
theorem dX12_share_120 : decode cX12_share 120 = .ok (.lload 4, 2) := by decide +kernel
theorem dX12_share_122 : decode cX12_share 122 = .ok (.aload_n 0, 1) := by decide +kernel
theorem dX12_share_123 : decode cX12_share 123 = .ok (.invokevirtual 286, 3) := by decide +kernel
theorem dX12_share_126 : decode cX12_share 126 = .ok (.invokestatic 448, 3) := by decide +kernel
theorem dX12_share_129 : decode cX12_share 129 = .ok (.iload_n 2, 1) := by decide +kernel
theorem dX12_share_130 : decode cX12_share 130 = .ok (.invokestatic 456, 3) := by decide +kernel
theorem dX12_share_133 : decode cX12_share 133 = .ok (.l2i, 1) := by decide +kernel
theorem dX12_share_134 : decode cX12_share 134 = .ok (.ireturn, 1) := by decide +kernel
theorem dX12_tens_0 : decode cX12_tens 0 = .ok (.lconst 1, 1) := by decide +kernel
theorem dX12_tens_1 : decode cX12_tens 1 = .ok (.lstore_n 1, 1) := by decide +kernel
theorem dX12_tens_2 : decode cX12_tens 2 = .ok (.iconst 0, 1) := by decide +kernel
theorem dX12_tens_3 : decode cX12_tens 3 = .ok (.istore_n 3, 1) := by decide +kernel
theorem dX12_tens_4 : decode cX12_tens 4 = .ok (.iload_n 3, 1) := by decide +kernel
theorem dX12_tens_5 : decode cX12_tens 5 = .ok (.aload_n 0, 1) := by decide +kernel
theorem dX12_tens_6 : decode cX12_tens 6 = .ok (.invokevirtual 286, 3) := by decide +kernel
theorem dX12_tens_9 : decode cX12_tens 9 = .ok (.if_icmp .ge 15, 3) := by decide +kernel
theorem dX12_tens_12 : decode cX12_tens 12 = .ok (.lload_n 1, 1) := by decide +kernel
theorem dX12_tens_13 : decode cX12_tens 13 = .ok (.ldc2_w 472, 3) := by decide +kernel
theorem dX12_tens_16 : decode cX12_tens 16 = .ok (.lmul, 1) := by decide +kernel
theorem dX12_tens_17 : decode cX12_tens 17 = .ok (.lstore_n 1, 1) := by decide +kernel
theorem dX12_tens_18 : decode cX12_tens 18 = .ok (.iinc 3 1, 3) := by decide +kernel
theorem dX12_tens_21 : decode cX12_tens 21 = .ok (.goto (-17), 3) := by decide +kernel
theorem dX12_tens_24 : decode cX12_tens 24 = .ok (.lload_n 1, 1) := by decide +kernel
theorem dX12_tens_25 : decode cX12_tens 25 = .ok (.lreturn, 1) := by decide +kernel
theorem dX12_times_0 : decode cX12_times 0 = .ok (.iload_n 0, 1) := by decide +kernel
theorem dX12_times_1 : decode cX12_times 1 = .ok (.iconst 2, 1) := by decide +kernel
theorem dX12_times_2 : decode cX12_times 2 = .ok (.if_icmp .ge 7, 3) := by decide +kernel
theorem dX12_times_5 : decode cX12_times 5 = .ok (.lconst 1, 1) := by decide +kernel
theorem dX12_times_6 : decode cX12_times 6 = .ok (.goto 12, 3) := by decide +kernel
theorem dX12_times_9 : decode cX12_times 9 = .ok (.iload_n 0, 1) := by decide +kernel
theorem dX12_times_10 : decode cX12_times 10 = .ok (.i2l, 1) := by decide +kernel
theorem dX12_times_11 : decode cX12_times 11 = .ok (.iload_n 0, 1) := by decide +kernel
theorem dX12_times_12 : decode cX12_times 12 = .ok (.iconst 1, 1) := by decide +kernel
theorem dX12_times_13 : decode cX12_times 13 = .ok (.isub, 1) := by decide +kernel
theorem dX12_times_14 : decode cX12_times 14 = .ok (.invokestatic 448, 3) := by decide +kernel
theorem dX12_times_17 : decode cX12_times 17 = .ok (.lmul, 1) := by decide +kernel
theorem dX12_times_18 : decode cX12_times 18 = .ok (.lreturn, 1) := by decide +kernel
theorem dX12_weightOf_0 : decode cX12_weightOf 0 = .ok (.aload_n 0, 1) := by decide +kernel
theorem dX12_weightOf_1 : decode cX12_weightOf 1 = .ok (.invokevirtual 330, 3) := by decide +kernel
theorem dX12_weightOf_4 : decode cX12_weightOf 4 = .ok (.lconst 0, 1) := by decide +kernel
theorem dX12_weightOf_5 : decode cX12_weightOf 5 = .ok (.lstore_n 3, 1) := by decide +kernel
theorem dX12_weightOf_6 : decode cX12_weightOf 6 = .ok (.iconst 0, 1) := by decide +kernel
theorem dX12_weightOf_7 : decode cX12_weightOf 7 = .ok (.istore 5, 2) := by decide +kernel
theorem dX12_weightOf_9 : decode cX12_weightOf 9 = .ok (.iload 5, 2) := by decide +kernel
theorem dX12_weightOf_11 : decode cX12_weightOf 11 = .ok (.iconst 1, 1) := by decide +kernel
theorem dX12_weightOf_12 : decode cX12_weightOf 12 = .ok (.aload_n 0, 1) := by decide +kernel
theorem dX12_weightOf_13 : decode cX12_weightOf 13 = .ok (.invokevirtual 286, 3) := by decide +kernel
theorem dX12_weightOf_16 : decode cX12_weightOf 16 = .ok (.ishl, 1) := by decide +kernel
theorem dX12_weightOf_17 : decode cX12_weightOf 17 = .ok (.if_icmp .ge 119, 3) := by decide +kernel
theorem dX12_weightOf_20 : decode cX12_weightOf 20 = .ok (.lconst 1, 1) := by decide +kernel
theorem dX12_weightOf_21 : decode cX12_weightOf 21 = .ok (.lstore 6, 2) := by decide +kernel
theorem dX12_weightOf_23 : decode cX12_weightOf 23 = .ok (.iconst 0, 1) := by decide +kernel
theorem dX12_weightOf_24 : decode cX12_weightOf 24 = .ok (.istore 8, 2) := by decide +kernel
theorem dX12_weightOf_26 : decode cX12_weightOf 26 = .ok (.iload 8, 2) := by decide +kernel
theorem dX12_weightOf_28 : decode cX12_weightOf 28 = .ok (.aload_n 0, 1) := by decide +kernel
theorem dX12_weightOf_29 : decode cX12_weightOf 29 = .ok (.invokevirtual 286, 3) := by decide +kernel
theorem dX12_weightOf_32 : decode cX12_weightOf 32 = .ok (.if_icmp .ge 44, 3) := by decide +kernel
theorem dX12_weightOf_35 : decode cX12_weightOf 35 = .ok (.lload 6, 2) := by decide +kernel
theorem dX12_weightOf_37 : decode cX12_weightOf 37 = .ok (.iload 5, 2) := by decide +kernel
theorem dX12_weightOf_39 : decode cX12_weightOf 39 = .ok (.iload 8, 2) := by decide +kernel
theorem dX12_weightOf_41 : decode cX12_weightOf 41 = .ok (.invokestatic 307, 3) := by decide +kernel
theorem dX12_weightOf_44 : decode cX12_weightOf 44 = .ok (.ifCond .eq 13, 3) := by decide +kernel
theorem dX12_weightOf_47 : decode cX12_weightOf 47 = .ok (.aload_n 0, 1) := by decide +kernel
theorem dX12_weightOf_48 : decode cX12_weightOf 48 = .ok (.getfield 34, 3) := by decide +kernel
theorem dX12_weightOf_51 : decode cX12_weightOf 51 = .ok (.iconst 2, 1) := by decide +kernel
theorem dX12_weightOf_52 : decode cX12_weightOf 52 = .ok (.iaload, 1) := by decide +kernel
theorem dX12_weightOf_53 : decode cX12_weightOf 53 = .ok (.i2l, 1) := by decide +kernel
theorem dX12_weightOf_54 : decode cX12_weightOf 54 = .ok (.goto 13, 3) := by decide +kernel
theorem dX12_weightOf_57 : decode cX12_weightOf 57 = .ok (.bipush 10, 2) := by decide +kernel
theorem dX12_weightOf_59 : decode cX12_weightOf 59 = .ok (.aload_n 0, 1) := by decide +kernel
theorem dX12_weightOf_60 : decode cX12_weightOf 60 = .ok (.getfield 34, 3) := by decide +kernel
theorem dX12_weightOf_63 : decode cX12_weightOf 63 = .ok (.iconst 2, 1) := by decide +kernel
theorem dX12_weightOf_64 : decode cX12_weightOf 64 = .ok (.iaload, 1) := by decide +kernel
theorem dX12_weightOf_65 : decode cX12_weightOf 65 = .ok (.isub, 1) := by decide +kernel
theorem dX12_weightOf_66 : decode cX12_weightOf 66 = .ok (.i2l, 1) := by decide +kernel
theorem dX12_weightOf_67 : decode cX12_weightOf 67 = .ok (.lmul, 1) := by decide +kernel
theorem dX12_weightOf_68 : decode cX12_weightOf 68 = .ok (.lstore 6, 2) := by decide +kernel
theorem dX12_weightOf_70 : decode cX12_weightOf 70 = .ok (.iinc 8 1, 3) := by decide +kernel
theorem dX12_weightOf_73 : decode cX12_weightOf 73 = .ok (.goto (-47), 3) := by decide +kernel
theorem dX12_weightOf_76 : decode cX12_weightOf 76 = .ok (.lload 6, 2) := by decide +kernel
theorem dX12_weightOf_78 : decode cX12_weightOf 78 = .ok (.lconst 0, 1) := by decide +kernel
theorem dX12_weightOf_79 : decode cX12_weightOf 79 = .ok (.lcmp, 1) := by decide +kernel
theorem dX12_weightOf_80 : decode cX12_weightOf 80 = .ok (.ifCond .ne 6, 3) := by decide +kernel
theorem dX12_weightOf_83 : decode cX12_weightOf 83 = .ok (.goto 47, 3) := by decide +kernel
theorem dX12_weightOf_86 : decode cX12_weightOf 86 = .ok (.aload_n 0, 1) := by decide +kernel
theorem dX12_weightOf_87 : decode cX12_weightOf 87 = .ok (.iload 5, 2) := by decide +kernel
theorem dX12_weightOf_89 : decode cX12_weightOf 89 = .ok (.putfield 298, 3) := by decide +kernel
theorem dX12_weightOf_92 : decode cX12_weightOf 92 = .ok (.aload_n 0, 1) := by decide +kernel
theorem dX12_weightOf_93 : decode cX12_weightOf 93 = .ok (.invokevirtual 333, 3) := by decide +kernel
theorem dX12_weightOf_96 : decode cX12_weightOf 96 = .ok (.lload_n 3, 1) := by decide +kernel
theorem dX12_weightOf_97 : decode cX12_weightOf 97 = .ok (.lload 6, 2) := by decide +kernel
theorem dX12_weightOf_99 : decode cX12_weightOf 99 = .ok (.iload_n 2, 1) := by decide +kernel
theorem dX12_weightOf_100 : decode cX12_weightOf 100 = .ok (.ifCond .eq 11, 3) := by decide +kernel
theorem dX12_weightOf_103 : decode cX12_weightOf 103 = .ok (.aload_n 0, 1) := by decide +kernel
theorem dX12_weightOf_104 : decode cX12_weightOf 104 = .ok (.iload_n 1, 1) := by decide +kernel
theorem dX12_weightOf_105 : decode cX12_weightOf 105 = .ok (.invokevirtual 317, 3) := by decide +kernel
theorem dX12_weightOf_108 : decode cX12_weightOf 108 = .ok (.goto 18, 3) := by decide +kernel
theorem dX12_weightOf_111 : decode cX12_weightOf 111 = .ok (.aload_n 0, 1) := by decide +kernel
theorem dX12_weightOf_112 : decode cX12_weightOf 112 = .ok (.getfield 74, 3) := by decide +kernel
theorem dX12_weightOf_115 : decode cX12_weightOf 115 = .ok (.iload_n 1, 1) := by decide +kernel
theorem dX12_weightOf_116 : decode cX12_weightOf 116 = .ok (.iaload, 1) := by decide +kernel
theorem dX12_weightOf_117 : decode cX12_weightOf 117 = .ok (.iconst (-1), 1) := by decide +kernel
theorem dX12_weightOf_118 : decode cX12_weightOf 118 = .ok (.if_icmp .ne 7, 3) := by decide +kernel
theorem dX12_weightOf_121 : decode cX12_weightOf 121 = .ok (.iconst 0, 1) := by decide +kernel
theorem dX12_weightOf_122 : decode cX12_weightOf 122 = .ok (.goto 4, 3) := by decide +kernel
theorem dX12_weightOf_125 : decode cX12_weightOf 125 = .ok (.iconst 1, 1) := by decide +kernel
theorem dX12_weightOf_126 : decode cX12_weightOf 126 = .ok (.i2l, 1) := by decide +kernel
theorem dX12_weightOf_127 : decode cX12_weightOf 127 = .ok (.lmul, 1) := by decide +kernel
theorem dX12_weightOf_128 : decode cX12_weightOf 128 = .ok (.ladd, 1) := by decide +kernel
theorem dX12_weightOf_129 : decode cX12_weightOf 129 = .ok (.lstore_n 3, 1) := by decide +kernel
theorem dX12_weightOf_130 : decode cX12_weightOf 130 = .ok (.iinc 5 1, 3) := by decide +kernel
theorem dX12_weightOf_133 : decode cX12_weightOf 133 = .ok (.goto (-124), 3) := by decide +kernel
theorem dX12_weightOf_136 : decode cX12_weightOf 136 = .ok (.lload_n 3, 1) := by decide +kernel
theorem dX12_weightOf_137 : decode cX12_weightOf 137 = .ok (.lreturn, 1) := by decide +kernel
