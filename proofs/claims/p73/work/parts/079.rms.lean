theorem dX12_by_0 : decode cX12_by 0 = .ok (.aload_n 0, 1) := by decide +kernel
theorem dX12_by_1 : decode cX12_by 1 = .ok (.iconst 0, 1) := by decide +kernel
theorem dX12_by_2 : decode cX12_by 2 = .ok (.putfield 116, 3) := by decide +kernel
theorem dX12_by_5 : decode cX12_by 5 = .ok (.aload_n 0, 1) := by decide +kernel
theorem dX12_by_6 : decode cX12_by 6 = .ok (.invokevirtual 350, 3) := by decide +kernel
theorem dX12_by_9 : decode cX12_by 9 = .ok (.ifCond .eq 23, 3) := by decide +kernel
theorem dX12_by_12 : decode cX12_by 12 = .ok (.iload_n 1, 1) := by decide +kernel
theorem dX12_by_13 : decode cX12_by 13 = .ok (.i2l, 1) := by decide +kernel
theorem dX12_by_14 : decode cX12_by 14 = .ok (.lconst 0, 1) := by decide +kernel
theorem dX12_by_15 : decode cX12_by 15 = .ok (.ldc2_w 119, 3) := by decide +kernel
theorem dX12_by_18 : decode cX12_by 18 = .ok (.invokestatic 121, 3) := by decide +kernel
theorem dX12_by_21 : decode cX12_by 21 = .ok (.ifCond .eq 11, 3) := by decide +kernel
theorem dX12_by_24 : decode cX12_by 24 = .ok (.aload_n 0, 1) := by decide +kernel
theorem dX12_by_25 : decode cX12_by 25 = .ok (.iload_n 1, 1) := by decide +kernel
theorem dX12_by_26 : decode cX12_by 26 = .ok (.invokevirtual 445, 3) := by decide +kernel
theorem dX12_by_29 : decode cX12_by 29 = .ok (.goto 5, 3) := by decide +kernel
theorem dX12_by_32 : decode cX12_by 32 = .ok (.bipush (-2), 2) := by decide +kernel
theorem dX12_by_34 : decode cX12_by 34 = .ok (.ireturn, 1) := by decide +kernel
theorem dX12_heavy_0 : decode cX12_heavy 0 = .ok (.aload_n 0, 1) := by decide +kernel
theorem dX12_heavy_1 : decode cX12_heavy 1 = .ok (.iconst 0, 1) := by decide +kernel
theorem dX12_heavy_2 : decode cX12_heavy 2 = .ok (.putfield 116, 3) := by decide +kernel
theorem dX12_heavy_5 : decode cX12_heavy 5 = .ok (.aload_n 0, 1) := by decide +kernel
theorem dX12_heavy_6 : decode cX12_heavy 6 = .ok (.iload_n 1, 1) := by decide +kernel
theorem dX12_heavy_7 : decode cX12_heavy 7 = .ok (.iload_n 2, 1) := by decide +kernel
theorem dX12_heavy_8 : decode cX12_heavy 8 = .ok (.invokevirtual 439, 3) := by decide +kernel
theorem dX12_heavy_11 : decode cX12_heavy 11 = .ok (.istore_n 3, 1) := by decide +kernel
theorem dX12_heavy_12 : decode cX12_heavy 12 = .ok (.iload_n 3, 1) := by decide +kernel
theorem dX12_heavy_13 : decode cX12_heavy 13 = .ok (.ifCond .eq 5, 3) := by decide +kernel
theorem dX12_heavy_16 : decode cX12_heavy 16 = .ok (.iload_n 3, 1) := by decide +kernel
theorem dX12_heavy_17 : decode cX12_heavy 17 = .ok (.ireturn, 1) := by decide +kernel
theorem dX12_heavy_18 : decode cX12_heavy 18 = .ok (.aload_n 0, 1) := by decide +kernel
theorem dX12_heavy_19 : decode cX12_heavy 19 = .ok (.iload_n 1, 1) := by decide +kernel
theorem dX12_heavy_20 : decode cX12_heavy 20 = .ok (.iload_n 2, 1) := by decide +kernel
theorem dX12_heavy_21 : decode cX12_heavy 21 = .ok (.invokevirtual 442, 3) := by decide +kernel
theorem dX12_heavy_24 : decode cX12_heavy 24 = .ok (.aload_n 0, 1) := by decide +kernel
theorem dX12_heavy_25 : decode cX12_heavy 25 = .ok (.getfield 433, 3) := by decide +kernel
theorem dX12_heavy_28 : decode cX12_heavy 28 = .ok (.ireturn, 1) := by decide +kernel
theorem dX12_isSo_0 : decode cX12_isSo 0 = .ok (.iconst 0, 1) := by decide +kernel
theorem dX12_isSo_1 : decode cX12_isSo 1 = .ok (.istore_n 2, 1) := by decide +kernel
theorem dX12_isSo_2 : decode cX12_isSo 2 = .ok (.iload_n 2, 1) := by decide +kernel
theorem dX12_isSo_3 : decode cX12_isSo 3 = .ok (.aload_n 0, 1) := by decide +kernel
theorem dX12_isSo_4 : decode cX12_isSo 4 = .ok (.getfield 13, 3) := by decide +kernel
theorem dX12_isSo_7 : decode cX12_isSo 7 = .ok (.iload_n 1, 1) := by decide +kernel
theorem dX12_isSo_8 : decode cX12_isSo 8 = .ok (.iaload, 1) := by decide +kernel
theorem dX12_isSo_9 : decode cX12_isSo 9 = .ok (.if_icmp .ge 55, 3) := by decide +kernel
theorem dX12_isSo_12 : decode cX12_isSo 12 = .ok (.bipush 60, 2) := by decide +kernel
theorem dX12_isSo_14 : decode cX12_isSo 14 = .ok (.iload_n 1, 1) := by decide +kernel
theorem dX12_isSo_15 : decode cX12_isSo 15 = .ok (.imul, 1) := by decide +kernel
theorem dX12_isSo_16 : decode cX12_isSo 16 = .ok (.iload_n 2, 1) := by decide +kernel
theorem dX12_isSo_17 : decode cX12_isSo 17 = .ok (.iadd, 1) := by decide +kernel
theorem dX12_isSo_18 : decode cX12_isSo 18 = .ok (.istore_n 3, 1) := by decide +kernel
theorem dX12_isSo_19 : decode cX12_isSo 19 = .ok (.aload_n 0, 1) := by decide +kernel
theorem dX12_isSo_20 : decode cX12_isSo 20 = .ok (.getfield 98, 3) := by decide +kernel
theorem dX12_isSo_23 : decode cX12_isSo 23 = .ok (.iconst 3, 1) := by decide +kernel
theorem dX12_isSo_24 : decode cX12_isSo 24 = .ok (.aload_n 0, 1) := by decide +kernel
theorem dX12_isSo_25 : decode cX12_isSo 25 = .ok (.getfield 16, 3) := by decide +kernel
theorem dX12_isSo_28 : decode cX12_isSo 28 = .ok (.iload_n 3, 1) := by decide +kernel
theorem dX12_isSo_29 : decode cX12_isSo 29 = .ok (.iconst 1, 1) := by decide +kernel
theorem dX12_isSo_30 : decode cX12_isSo 30 = .ok (.iadd, 1) := by decide +kernel
theorem dX12_isSo_31 : decode cX12_isSo 31 = .ok (.laload, 1) := by decide +kernel
theorem dX12_isSo_32 : decode cX12_isSo 32 = .ok (.l2i, 1) := by decide +kernel
theorem dX12_isSo_33 : decode cX12_isSo 33 = .ok (.imul, 1) := by decide +kernel
theorem dX12_isSo_34 : decode cX12_isSo 34 = .ok (.aload_n 0, 1) := by decide +kernel
theorem dX12_isSo_35 : decode cX12_isSo 35 = .ok (.getfield 16, 3) := by decide +kernel
theorem dX12_isSo_38 : decode cX12_isSo 38 = .ok (.iload_n 3, 1) := by decide +kernel
theorem dX12_isSo_39 : decode cX12_isSo 39 = .ok (.laload, 1) := by decide +kernel
theorem dX12_isSo_40 : decode cX12_isSo 40 = .ok (.l2i, 1) := by decide +kernel
theorem dX12_isSo_41 : decode cX12_isSo 41 = .ok (.iadd, 1) := by decide +kernel
theorem dX12_isSo_42 : decode cX12_isSo 42 = .ok (.iaload, 1) := by decide +kernel
theorem dX12_isSo_43 : decode cX12_isSo 43 = .ok (.i2l, 1) := by decide +kernel
theorem dX12_isSo_44 : decode cX12_isSo 44 = .ok (.aload_n 0, 1) := by decide +kernel
theorem dX12_isSo_45 : decode cX12_isSo 45 = .ok (.getfield 16, 3) := by decide +kernel
theorem dX12_isSo_48 : decode cX12_isSo 48 = .ok (.iload_n 3, 1) := by decide +kernel
theorem dX12_isSo_49 : decode cX12_isSo 49 = .ok (.iconst 2, 1) := by decide +kernel
theorem dX12_isSo_50 : decode cX12_isSo 50 = .ok (.iadd, 1) := by decide +kernel
theorem dX12_isSo_51 : decode cX12_isSo 51 = .ok (.laload, 1) := by decide +kernel
theorem dX12_isSo_52 : decode cX12_isSo 52 = .ok (.lcmp, 1) := by decide +kernel
theorem dX12_isSo_53 : decode cX12_isSo 53 = .ok (.ifCond .eq 5, 3) := by decide +kernel
theorem dX12_isSo_56 : decode cX12_isSo 56 = .ok (.iconst 0, 1) := by decide +kernel
theorem dX12_isSo_57 : decode cX12_isSo 57 = .ok (.ireturn, 1) := by decide +kernel
theorem dX12_isSo_58 : decode cX12_isSo 58 = .ok (.iinc 2 3, 3) := by decide +kernel
theorem dX12_isSo_61 : decode cX12_isSo 61 = .ok (.goto (-59), 3) := by decide +kernel
theorem dX12_isSo_64 : decode cX12_isSo 64 = .ok (.iconst 1, 1) := by decide +kernel
theorem dX12_isSo_65 : decode cX12_isSo 65 = .ok (.ireturn, 1) := by decide +kernel
theorem dX12_law_0 : decode cX12_law 0 = .ok (.aload_n 0, 1) := by decide +kernel
theorem dX12_law_1 : decode cX12_law 1 = .ok (.iconst 0, 1) := by decide +kernel
theorem dX12_law_2 : decode cX12_law 2 = .ok (.putfield 116, 3) := by decide +kernel
theorem dX12_law_5 : decode cX12_law 5 = .ok (.aload_n 0, 1) := by decide +kernel
theorem dX12_law_6 : decode cX12_law 6 = .ok (.invokevirtual 350, 3) := by decide +kernel
theorem dX12_law_9 : decode cX12_law 9 = .ok (.ifCond .ne 6, 3) := by decide +kernel
theorem dX12_law_12 : decode cX12_law 12 = .ok (.bipush (-2), 2) := by decide +kernel
theorem dX12_law_14 : decode cX12_law 14 = .ok (.ireturn, 1) := by decide +kernel
theorem dX12_law_15 : decode cX12_law 15 = .ok (.iconst 0, 1) := by decide +kernel
theorem dX12_law_16 : decode cX12_law 16 = .ok (.istore_n 1, 1) := by decide +kernel
theorem dX12_law_17 : decode cX12_law 17 = .ok (.iconst 1, 1) := by decide +kernel
theorem dX12_law_18 : decode cX12_law 18 = .ok (.istore_n 2, 1) := by decide +kernel
theorem dX12_law_19 : decode cX12_law 19 = .ok (.iload_n 2, 1) := by decide +kernel
theorem dX12_law_20 : decode cX12_law 20 = .ok (.iconst 4, 1) := by decide +kernel
theorem dX12_law_21 : decode cX12_law 21 = .ok (.if_icmp .ge 24, 3) := by decide +kernel
theorem dX12_law_24 : decode cX12_law 24 = .ok (.aload_n 0, 1) := by decide +kernel
theorem dX12_law_25 : decode cX12_law 25 = .ok (.iload_n 2, 1) := by decide +kernel
theorem dX12_law_26 : decode cX12_law 26 = .ok (.invokevirtual 445, 3) := by decide +kernel
theorem dX12_law_29 : decode cX12_law 29 = .ok (.aload_n 0, 1) := by decide +kernel
theorem dX12_law_30 : decode cX12_law 30 = .ok (.iload_n 1, 1) := by decide +kernel
theorem dX12_law_31 : decode cX12_law 31 = .ok (.invokevirtual 445, 3) := by decide +kernel
theorem dX12_law_34 : decode cX12_law 34 = .ok (.if_icmp .ge 5, 3) := by decide +kernel
theorem dX12_law_37 : decode cX12_law 37 = .ok (.iload_n 2, 1) := by decide +kernel
theorem dX12_law_38 : decode cX12_law 38 = .ok (.istore_n 1, 1) := by decide +kernel
theorem dX12_law_39 : decode cX12_law 39 = .ok (.iinc 2 1, 3) := by decide +kernel
theorem dX12_law_42 : decode cX12_law 42 = .ok (.goto (-23), 3) := by decide +kernel
theorem dX12_law_45 : decode cX12_law 45 = .ok (.iload_n 1, 1) := by decide +kernel
theorem dX12_law_46 : decode cX12_law 46 = .ok (.ireturn, 1) := by decide +kernel
theorem dX12_laws_0 : decode cX12_laws 0 = .ok (.aload_n 0, 1) := by decide +kernel
theorem dX12_laws_1 : decode cX12_laws 1 = .ok (.iconst 0, 1) := by decide +kernel
theorem dX12_laws_2 : decode cX12_laws 2 = .ok (.putfield 116, 3) := by decide +kernel
theorem dX12_laws_5 : decode cX12_laws 5 = .ok (.aload_n 0, 1) := by decide +kernel
theorem dX12_laws_6 : decode cX12_laws 6 = .ok (.iload_n 1, 1) := by decide +kernel
theorem dX12_laws_7 : decode cX12_laws 7 = .ok (.invokevirtual 424, 3) := by decide +kernel
theorem dX12_laws_10 : decode cX12_laws 10 = .ok (.istore_n 2, 1) := by decide +kernel
theorem dX12_laws_11 : decode cX12_laws 11 = .ok (.iload_n 2, 1) := by decide +kernel
theorem dX12_laws_12 : decode cX12_laws 12 = .ok (.ifCond .eq 5, 3) := by decide +kernel
theorem dX12_laws_15 : decode cX12_laws 15 = .ok (.iload_n 2, 1) := by decide +kernel
theorem dX12_laws_16 : decode cX12_laws 16 = .ok (.ireturn, 1) := by decide +kernel
theorem dX12_laws_17 : decode cX12_laws 17 = .ok (.iconst 0, 1) := by decide +kernel
theorem dX12_laws_18 : decode cX12_laws 18 = .ok (.istore_n 3, 1) := by decide +kernel
theorem dX12_laws_19 : decode cX12_laws 19 = .ok (.iconst 0, 1) := by decide +kernel
theorem dX12_laws_20 : decode cX12_laws 20 = .ok (.istore 4, 2) := by decide +kernel
theorem dX12_laws_22 : decode cX12_laws 22 = .ok (.iload 4, 2) := by decide +kernel
theorem dX12_laws_24 : decode cX12_laws 24 = .ok (.iconst 4, 1) := by decide +kernel
theorem dX12_laws_25 : decode cX12_laws 25 = .ok (.if_icmp .ge 35, 3) := by decide +kernel
theorem dX12_laws_28 : decode cX12_laws 28 = .ok (.aload_n 0, 1) := by decide +kernel
theorem dX12_laws_29 : decode cX12_laws 29 = .ok (.iload 4, 2) := by decide +kernel
theorem dX12_laws_31 : decode cX12_laws 31 = .ok (.invokevirtual 445, 3) := by decide +kernel
theorem dX12_laws_34 : decode cX12_laws 34 = .ok (.pop, 1) := by decide +kernel
theorem dX12_laws_35 : decode cX12_laws 35 = .ok (.iload_n 3, 1) := by decide +kernel
theorem dX12_laws_36 : decode cX12_laws 36 = .ok (.aload_n 0, 1) := by decide +kernel
theorem dX12_laws_37 : decode cX12_laws 37 = .ok (.iload_n 1, 1) := by decide +kernel
theorem dX12_laws_38 : decode cX12_laws 38 = .ok (.invokevirtual 436, 3) := by decide +kernel
theorem dX12_laws_41 : decode cX12_laws 41 = .ok (.ifCond .eq 10, 3) := by decide +kernel
theorem dX12_laws_44 : decode cX12_laws 44 = .ok (.iconst 1, 1) := by decide +kernel
theorem dX12_laws_45 : decode cX12_laws 45 = .ok (.iload 4, 2) := by decide +kernel
theorem dX12_laws_47 : decode cX12_laws 47 = .ok (.ishl, 1) := by decide +kernel
theorem dX12_laws_48 : decode cX12_laws 48 = .ok (.goto 4, 3) := by decide +kernel
theorem dX12_laws_51 : decode cX12_laws 51 = .ok (.iconst 0, 1) := by decide +kernel
theorem dX12_laws_52 : decode cX12_laws 52 = .ok (.ior, 1) := by decide +kernel
theorem dX12_laws_53 : decode cX12_laws 53 = .ok (.istore_n 3, 1) := by decide +kernel
theorem dX12_laws_54 : decode cX12_laws 54 = .ok (.iinc 4 1, 3) := by decide +kernel
theorem dX12_laws_57 : decode cX12_laws 57 = .ok (.goto (-35), 3) := by decide +kernel
theorem dX12_laws_60 : decode cX12_laws 60 = .ok (.iload_n 3, 1) := by decide +kernel
theorem dX12_laws_61 : decode cX12_laws 61 = .ok (.ireturn, 1) := by decide +kernel
theorem dX12_laysLies_0 : decode cX12_laysLies 0 = .ok (.aload_n 0, 1) := by decide +kernel
theorem dX12_laysLies_1 : decode cX12_laysLies 1 = .ok (.invokevirtual 330, 3) := by decide +kernel
theorem dX12_laysLies_4 : decode cX12_laysLies 4 = .ok (.aload_n 0, 1) := by decide +kernel
theorem dX12_laysLies_5 : decode cX12_laysLies 5 = .ok (.iconst 0, 1) := by decide +kernel
theorem dX12_laysLies_6 : decode cX12_laysLies 6 = .ok (.putfield 427, 3) := by decide +kernel
theorem dX12_laysLies_9 : decode cX12_laysLies 9 = .ok (.aload_n 0, 1) := by decide +kernel
theorem dX12_laysLies_10 : decode cX12_laysLies 10 = .ok (.iconst (-1), 1) := by decide +kernel
theorem dX12_laysLies_11 : decode cX12_laysLies 11 = .ok (.putfield 430, 3) := by decide +kernel
theorem dX12_laysLies_14 : decode cX12_laysLies 14 = .ok (.aload_n 0, 1) := by decide +kernel
theorem dX12_laysLies_15 : decode cX12_laysLies 15 = .ok (.iconst (-1), 1) := by decide +kernel
theorem dX12_laysLies_16 : decode cX12_laysLies 16 = .ok (.putfield 433, 3) := by decide +kernel
theorem dX12_laysLies_19 : decode cX12_laysLies 19 = .ok (.iconst 1, 1) := by decide +kernel
theorem dX12_laysLies_20 : decode cX12_laysLies 20 = .ok (.istore_n 3, 1) := by decide +kernel
theorem dX12_laysLies_21 : decode cX12_laysLies 21 = .ok (.iload_n 3, 1) := by decide +kernel
theorem dX12_laysLies_22 : decode cX12_laysLies 22 = .ok (.bipush 99, 2) := by decide +kernel
theorem dX12_laysLies_24 : decode cX12_laysLies 24 = .ok (.if_icmp .gt 66, 3) := by decide +kernel
theorem dX12_laysLies_27 : decode cX12_laysLies 27 = .ok (.aload_n 0, 1) := by decide +kernel
theorem dX12_laysLies_28 : decode cX12_laysLies 28 = .ok (.getfield 56, 3) := by decide +kernel
theorem dX12_laysLies_31 : decode cX12_laysLies 31 = .ok (.iload_n 2, 1) := by decide +kernel
theorem dX12_laysLies_32 : decode cX12_laysLies 32 = .ok (.iload_n 3, 1) := by decide +kernel
theorem dX12_laysLies_33 : decode cX12_laysLies 33 = .ok (.iastore, 1) := by decide +kernel
theorem dX12_laysLies_34 : decode cX12_laysLies 34 = .ok (.aload_n 0, 1) := by decide +kernel
theorem dX12_laysLies_35 : decode cX12_laysLies 35 = .ok (.invokevirtual 333, 3) := by decide +kernel
theorem dX12_laysLies_38 : decode cX12_laysLies 38 = .ok (.aload_n 0, 1) := by decide +kernel
theorem dX12_laysLies_39 : decode cX12_laysLies 39 = .ok (.iload_n 1, 1) := by decide +kernel
theorem dX12_laysLies_40 : decode cX12_laysLies 40 = .ok (.invokevirtual 436, 3) := by decide +kernel
theorem dX12_laysLies_43 : decode cX12_laysLies 43 = .ok (.ifCond .ne 6, 3) := by decide +kernel
theorem dX12_laysLies_46 : decode cX12_laysLies 46 = .ok (.goto 38, 3) := by decide +kernel
theorem dX12_laysLies_49 : decode cX12_laysLies 49 = .ok (.aload_n 0, 1) := by decide +kernel
theorem dX12_laysLies_50 : decode cX12_laysLies 50 = .ok (.dup, 1) := by decide +kernel
theorem dX12_laysLies_51 : decode cX12_laysLies 51 = .ok (.getfield 427, 3) := by decide +kernel
theorem dX12_laysLies_54 : decode cX12_laysLies 54 = .ok (.iconst 1, 1) := by decide +kernel
theorem dX12_laysLies_55 : decode cX12_laysLies 55 = .ok (.iadd, 1) := by decide +kernel
theorem dX12_laysLies_56 : decode cX12_laysLies 56 = .ok (.putfield 427, 3) := by decide +kernel
theorem dX12_laysLies_59 : decode cX12_laysLies 59 = .ok (.aload_n 0, 1) := by decide +kernel
theorem dX12_laysLies_60 : decode cX12_laysLies 60 = .ok (.aload_n 0, 1) := by decide +kernel
theorem dX12_laysLies_61 : decode cX12_laysLies 61 = .ok (.getfield 430, 3) := by decide +kernel
theorem dX12_laysLies_64 : decode cX12_laysLies 64 = .ok (.iconst (-1), 1) := by decide +kernel
theorem dX12_laysLies_65 : decode cX12_laysLies 65 = .ok (.if_icmp .ne 7, 3) := by decide +kernel
theorem dX12_laysLies_68 : decode cX12_laysLies 68 = .ok (.iload_n 3, 1) := by decide +kernel
theorem dX12_laysLies_69 : decode cX12_laysLies 69 = .ok (.goto 7, 3) := by decide +kernel
theorem dX12_laysLies_72 : decode cX12_laysLies 72 = .ok (.aload_n 0, 1) := by decide +kernel
theorem dX12_laysLies_73 : decode cX12_laysLies 73 = .ok (.getfield 430, 3) := by decide +kernel
theorem dX12_laysLies_76 : decode cX12_laysLies 76 = .ok (.putfield 430, 3) := by decide +kernel
theorem dX12_laysLies_79 : decode cX12_laysLies 79 = .ok (.aload_n 0, 1) := by decide +kernel
theorem dX12_laysLies_80 : decode cX12_laysLies 80 = .ok (.iload_n 3, 1) := by decide +kernel
theorem dX12_laysLies_81 : decode cX12_laysLies 81 = .ok (.putfield 433, 3) := by decide +kernel
theorem dX12_laysLies_84 : decode cX12_laysLies 84 = .ok (.iinc 3 1, 3) := by decide +kernel
theorem dX12_laysLies_87 : decode cX12_laysLies 87 = .ok (.goto (-66), 3) := by decide +kernel
theorem dX12_laysLies_90 : decode cX12_laysLies 90 = .ok (.return_, 1) := by decide +kernel
theorem dX12_liars_0 : decode cX12_liars 0 = .ok (.aload_n 0, 1) := by decide +kernel
theorem dX12_liars_1 : decode cX12_liars 1 = .ok (.iconst 0, 1) := by decide +kernel
theorem dX12_liars_2 : decode cX12_liars 2 = .ok (.putfield 116, 3) := by decide +kernel
theorem dX12_liars_5 : decode cX12_liars 5 = .ok (.aload_n 0, 1) := by decide +kernel
theorem dX12_liars_6 : decode cX12_liars 6 = .ok (.iload_n 1, 1) := by decide +kernel
theorem dX12_liars_7 : decode cX12_liars 7 = .ok (.invokevirtual 424, 3) := by decide +kernel
theorem dX12_liars_10 : decode cX12_liars 10 = .ok (.istore_n 2, 1) := by decide +kernel
theorem dX12_liars_11 : decode cX12_liars 11 = .ok (.iload_n 2, 1) := by decide +kernel
theorem dX12_liars_12 : decode cX12_liars 12 = .ok (.ifCond .eq 5, 3) := by decide +kernel
theorem dX12_liars_15 : decode cX12_liars 15 = .ok (.iload_n 2, 1) := by decide +kernel
theorem dX12_liars_16 : decode cX12_liars 16 = .ok (.ireturn, 1) := by decide +kernel
theorem dX12_liars_17 : decode cX12_liars 17 = .ok (.aload_n 0, 1) := by decide +kernel
theorem dX12_liars_18 : decode cX12_liars 18 = .ok (.invokevirtual 336, 3) := by decide +kernel
theorem dX12_liars_21 : decode cX12_liars 21 = .ok (.aload_n 0, 1) := by decide +kernel
theorem dX12_liars_22 : decode cX12_liars 22 = .ok (.iload_n 1, 1) := by decide +kernel
theorem dX12_liars_23 : decode cX12_liars 23 = .ok (.invokevirtual 436, 3) := by decide +kernel
theorem dX12_liars_26 : decode cX12_liars 26 = .ok (.ifCond .eq 5, 3) := by decide +kernel
theorem dX12_liars_29 : decode cX12_liars 29 = .ok (.iconst 0, 1) := by decide +kernel
theorem dX12_liars_30 : decode cX12_liars 30 = .ok (.ireturn, 1) := by decide +kernel
theorem dX12_liars_31 : decode cX12_liars 31 = .ok (.iconst 0, 1) := by decide +kernel
theorem dX12_liars_32 : decode cX12_liars 32 = .ok (.istore_n 3, 1) := by decide +kernel
theorem dX12_liars_33 : decode cX12_liars 33 = .ok (.iconst 0, 1) := by decide +kernel
theorem dX12_liars_34 : decode cX12_liars 34 = .ok (.istore 4, 2) := by decide +kernel
theorem dX12_liars_36 : decode cX12_liars 36 = .ok (.iload 4, 2) := by decide +kernel
theorem dX12_liars_38 : decode cX12_liars 38 = .ok (.aload_n 0, 1) := by decide +kernel
theorem dX12_liars_39 : decode cX12_liars 39 = .ok (.invokevirtual 286, 3) := by decide +kernel
theorem dX12_liars_42 : decode cX12_liars 42 = .ok (.if_icmp .ge 34, 3) := by decide +kernel
theorem dX12_liars_45 : decode cX12_liars 45 = .ok (.aload_n 0, 1) := by decide +kernel
theorem dX12_liars_46 : decode cX12_liars 46 = .ok (.iload_n 1, 1) := by decide +kernel
theorem dX12_liars_47 : decode cX12_liars 47 = .ok (.iload 4, 2) := by decide +kernel
theorem dX12_liars_49 : decode cX12_liars 49 = .ok (.invokevirtual 442, 3) := by decide +kernel
theorem dX12_liars_52 : decode cX12_liars 52 = .ok (.iload_n 3, 1) := by decide +kernel
theorem dX12_liars_53 : decode cX12_liars 53 = .ok (.aload_n 0, 1) := by decide +kernel
theorem dX12_liars_54 : decode cX12_liars 54 = .ok (.getfield 427, 3) := by decide +kernel
theorem dX12_liars_57 : decode cX12_liars 57 = .ok (.ifCond .le 10, 3) := by decide +kernel
theorem dX12_liars_60 : decode cX12_liars 60 = .ok (.iconst 1, 1) := by decide +kernel
theorem dX12_liars_61 : decode cX12_liars 61 = .ok (.iload 4, 2) := by decide +kernel
theorem dX12_liars_63 : decode cX12_liars 63 = .ok (.ishl, 1) := by decide +kernel
theorem dX12_liars_64 : decode cX12_liars 64 = .ok (.goto 4, 3) := by decide +kernel
theorem dX12_liars_67 : decode cX12_liars 67 = .ok (.iconst 0, 1) := by decide +kernel
theorem dX12_liars_68 : decode cX12_liars 68 = .ok (.ior, 1) := by decide +kernel
theorem dX12_liars_69 : decode cX12_liars 69 = .ok (.istore_n 3, 1) := by decide +kernel
theorem dX12_liars_70 : decode cX12_liars 70 = .ok (.iinc 4 1, 3) := by decide +kernel
theorem dX12_liars_73 : decode cX12_liars 73 = .ok (.goto (-37), 3) := by decide +kernel
theorem dX12_liars_76 : decode cX12_liars 76 = .ok (.iload_n 3, 1) := by decide +kernel
theorem dX12_liars_77 : decode cX12_liars 77 = .ok (.ireturn, 1) := by decide +kernel
theorem dX12_light_0 : decode cX12_light 0 = .ok (.aload_n 0, 1) := by decide +kernel
theorem dX12_light_1 : decode cX12_light 1 = .ok (.iconst 0, 1) := by decide +kernel
theorem dX12_light_2 : decode cX12_light 2 = .ok (.putfield 116, 3) := by decide +kernel
theorem dX12_light_5 : decode cX12_light 5 = .ok (.aload_n 0, 1) := by decide +kernel
theorem dX12_light_6 : decode cX12_light 6 = .ok (.iload_n 1, 1) := by decide +kernel
theorem dX12_light_7 : decode cX12_light 7 = .ok (.iload_n 2, 1) := by decide +kernel
theorem dX12_light_8 : decode cX12_light 8 = .ok (.invokevirtual 439, 3) := by decide +kernel
theorem dX12_light_11 : decode cX12_light 11 = .ok (.istore_n 3, 1) := by decide +kernel
theorem dX12_light_12 : decode cX12_light 12 = .ok (.iload_n 3, 1) := by decide +kernel
theorem dX12_light_13 : decode cX12_light 13 = .ok (.ifCond .eq 5, 3) := by decide +kernel
theorem dX12_light_16 : decode cX12_light 16 = .ok (.iload_n 3, 1) := by decide +kernel
theorem dX12_light_17 : decode cX12_light 17 = .ok (.ireturn, 1) := by decide +kernel
theorem dX12_light_18 : decode cX12_light 18 = .ok (.aload_n 0, 1) := by decide +kernel
theorem dX12_light_19 : decode cX12_light 19 = .ok (.iload_n 1, 1) := by decide +kernel
theorem dX12_light_20 : decode cX12_light 20 = .ok (.iload_n 2, 1) := by decide +kernel
theorem dX12_light_21 : decode cX12_light 21 = .ok (.invokevirtual 442, 3) := by decide +kernel
theorem dX12_light_24 : decode cX12_light 24 = .ok (.aload_n 0, 1) := by decide +kernel
theorem dX12_light_25 : decode cX12_light 25 = .ok (.getfield 430, 3) := by decide +kernel
theorem dX12_light_28 : decode cX12_light 28 = .ok (.ireturn, 1) := by decide +kernel
theorem dX12_loads_0 : decode cX12_loads 0 = .ok (.aload_n 0, 1) := by decide +kernel
theorem dX12_loads_1 : decode cX12_loads 1 = .ok (.iconst 0, 1) := by decide +kernel
theorem dX12_loads_2 : decode cX12_loads 2 = .ok (.putfield 116, 3) := by decide +kernel
theorem dX12_loads_5 : decode cX12_loads 5 = .ok (.aload_n 0, 1) := by decide +kernel
theorem dX12_loads_6 : decode cX12_loads 6 = .ok (.iload_n 1, 1) := by decide +kernel
theorem dX12_loads_7 : decode cX12_loads 7 = .ok (.iload_n 2, 1) := by decide +kernel
theorem dX12_loads_8 : decode cX12_loads 8 = .ok (.invokevirtual 439, 3) := by decide +kernel
theorem dX12_loads_11 : decode cX12_loads 11 = .ok (.istore_n 3, 1) := by decide +kernel
theorem dX12_loads_12 : decode cX12_loads 12 = .ok (.iload_n 3, 1) := by decide +kernel
theorem dX12_loads_13 : decode cX12_loads 13 = .ok (.ifCond .eq 5, 3) := by decide +kernel
theorem dX12_loads_16 : decode cX12_loads 16 = .ok (.iload_n 3, 1) := by decide +kernel
theorem dX12_loads_17 : decode cX12_loads 17 = .ok (.ireturn, 1) := by decide +kernel
theorem dX12_loads_18 : decode cX12_loads 18 = .ok (.aload_n 0, 1) := by decide +kernel
theorem dX12_loads_19 : decode cX12_loads 19 = .ok (.iload_n 1, 1) := by decide +kernel
theorem dX12_loads_20 : decode cX12_loads 20 = .ok (.iload_n 2, 1) := by decide +kernel
theorem dX12_loads_21 : decode cX12_loads 21 = .ok (.invokevirtual 442, 3) := by decide +kernel
theorem dX12_loads_24 : decode cX12_loads 24 = .ok (.aload_n 0, 1) := by decide +kernel
theorem dX12_loads_25 : decode cX12_loads 25 = .ok (.getfield 427, 3) := by decide +kernel
theorem dX12_loads_28 : decode cX12_loads 28 = .ok (.ireturn, 1) := by decide +kernel
theorem dX12_sagBy_0 : decode cX12_sagBy 0 = .ok (.aload_n 0, 1) := by decide +kernel
theorem dX12_sagBy_1 : decode cX12_sagBy 1 = .ok (.invokevirtual 330, 3) := by decide +kernel
theorem dX12_sagBy_4 : decode cX12_sagBy 4 = .ok (.aload_n 0, 1) := by decide +kernel
theorem dX12_sagBy_5 : decode cX12_sagBy 5 = .ok (.iload_n 1, 1) := by decide +kernel
theorem dX12_sagBy_6 : decode cX12_sagBy 6 = .ok (.putfield 295, 3) := by decide +kernel
theorem dX12_sagBy_9 : decode cX12_sagBy 9 = .ok (.aload_n 0, 1) := by decide +kernel
theorem dX12_sagBy_10 : decode cX12_sagBy 10 = .ok (.invokevirtual 333, 3) := by decide +kernel
theorem dX12_sagBy_13 : decode cX12_sagBy 13 = .ok (.aload_n 0, 1) := by decide +kernel
theorem dX12_sagBy_14 : decode cX12_sagBy 14 = .ok (.invokevirtual 339, 3) := by decide +kernel
theorem dX12_sagBy_17 : decode cX12_sagBy 17 = .ok (.ireturn, 1) := by decide +kernel
theorem dX12_whyNotLoads_0 : decode cX12_whyNotLoads 0 = .ok (.aload_n 0, 1) := by decide +kernel
theorem dX12_whyNotLoads_1 : decode cX12_whyNotLoads 1 = .ok (.iload_n 2, 1) := by decide +kernel
theorem dX12_whyNotLoads_2 : decode cX12_whyNotLoads 2 = .ok (.i2l, 1) := by decide +kernel
theorem dX12_whyNotLoads_3 : decode cX12_whyNotLoads 3 = .ok (.invokevirtual 289, 3) := by decide +kernel
theorem dX12_whyNotLoads_6 : decode cX12_whyNotLoads 6 = .ok (.ifCond .eq 11, 3) := by decide +kernel
theorem dX12_whyNotLoads_9 : decode cX12_whyNotLoads 9 = .ok (.aload_n 0, 1) := by decide +kernel
theorem dX12_whyNotLoads_10 : decode cX12_whyNotLoads 10 = .ok (.iload_n 1, 1) := by decide +kernel
theorem dX12_whyNotLoads_11 : decode cX12_whyNotLoads 11 = .ok (.invokevirtual 424, 3) := by decide +kernel
theorem dX12_whyNotLoads_14 : decode cX12_whyNotLoads 14 = .ok (.goto 5, 3) := by decide +kernel
theorem dX12_whyNotLoads_17 : decode cX12_whyNotLoads 17 = .ok (.bipush (-2), 2) := by decide +kernel
theorem dX12_whyNotLoads_19 : decode cX12_whyNotLoads 19 = .ok (.ireturn, 1) := by decide +kernel
theorem dX12_whyNotSags_0 : decode cX12_whyNotSags 0 = .ok (.iload_n 1, 1) := by decide +kernel
theorem dX12_whyNotSags_1 : decode cX12_whyNotSags 1 = .ok (.invokestatic 125, 3) := by decide +kernel
theorem dX12_whyNotSags_4 : decode cX12_whyNotSags 4 = .ok (.ifCond .eq 10, 3) := by decide +kernel
theorem dX12_whyNotSags_7 : decode cX12_whyNotSags 7 = .ok (.aload_n 0, 1) := by decide +kernel
theorem dX12_whyNotSags_8 : decode cX12_whyNotSags 8 = .ok (.invokevirtual 350, 3) := by decide +kernel
theorem dX12_whyNotSags_11 : decode cX12_whyNotSags 11 = .ok (.ifCond .ne 6, 3) := by decide +kernel
theorem dX12_whyNotSags_14 : decode cX12_whyNotSags 14 = .ok (.bipush (-2), 2) := by decide +kernel
theorem dX12_whyNotSags_16 : decode cX12_whyNotSags 16 = .ok (.ireturn, 1) := by decide +kernel
theorem dX12_whyNotSags_17 : decode cX12_whyNotSags 17 = .ok (.aload_n 0, 1) := by decide +kernel
theorem dX12_whyNotSags_18 : decode cX12_whyNotSags 18 = .ok (.getfield 7, 3) := by decide +kernel
theorem dX12_whyNotSags_21 : decode cX12_whyNotSags 21 = .ok (.iload_n 1, 1) := by decide +kernel
theorem dX12_whyNotSags_22 : decode cX12_whyNotSags 22 = .ok (.iaload, 1) := by decide +kernel
theorem dX12_whyNotSags_23 : decode cX12_whyNotSags 23 = .ok (.iconst (-1), 1) := by decide +kernel
theorem dX12_whyNotSags_24 : decode cX12_whyNotSags 24 = .ok (.if_icmp .ne 6, 3) := by decide +kernel
theorem dX12_whyNotSags_27 : decode cX12_whyNotSags 27 = .ok (.bipush (-6), 2) := by decide +kernel
theorem dX12_whyNotSags_29 : decode cX12_whyNotSags 29 = .ok (.ireturn, 1) := by decide +kernel
theorem dX12_whyNotSags_30 : decode cX12_whyNotSags 30 = .ok (.aload_n 0, 1) := by decide +kernel
theorem dX12_whyNotSags_31 : decode cX12_whyNotSags 31 = .ok (.getfield 13, 3) := by decide +kernel
theorem dX12_whyNotSags_34 : decode cX12_whyNotSags 34 = .ok (.iload_n 1, 1) := by decide +kernel
theorem dX12_whyNotSags_35 : decode cX12_whyNotSags 35 = .ok (.iaload, 1) := by decide +kernel
theorem dX12_whyNotSags_36 : decode cX12_whyNotSags 36 = .ok (.iconst 3, 1) := by decide +kernel
theorem dX12_whyNotSags_37 : decode cX12_whyNotSags 37 = .ok (.irem, 1) := by decide +kernel
theorem dX12_whyNotSags_38 : decode cX12_whyNotSags 38 = .ok (.ifCond .eq 6, 3) := by decide +kernel
theorem dX12_whyNotSags_41 : decode cX12_whyNotSags 41 = .ok (.bipush (-2), 2) := by decide +kernel
theorem dX12_whyNotSags_43 : decode cX12_whyNotSags 43 = .ok (.ireturn, 1) := by decide +kernel
theorem dX12_whyNotSags_44 : decode cX12_whyNotSags 44 = .ok (.iconst 0, 1) := by decide +kernel
theorem dX12_whyNotSags_45 : decode cX12_whyNotSags 45 = .ok (.istore_n 2, 1) := by decide +kernel
theorem dX12_whyNotSags_46 : decode cX12_whyNotSags 46 = .ok (.iload_n 2, 1) := by decide +kernel
theorem dX12_whyNotSags_47 : decode cX12_whyNotSags 47 = .ok (.aload_n 0, 1) := by decide +kernel
theorem dX12_whyNotSags_48 : decode cX12_whyNotSags 48 = .ok (.getfield 13, 3) := by decide +kernel
theorem dX12_whyNotSags_51 : decode cX12_whyNotSags 51 = .ok (.iload_n 1, 1) := by decide +kernel
theorem dX12_whyNotSags_52 : decode cX12_whyNotSags 52 = .ok (.iaload, 1) := by decide +kernel
theorem dX12_whyNotSags_53 : decode cX12_whyNotSags 53 = .ok (.if_icmp .ge 65, 3) := by decide +kernel
theorem dX12_whyNotSags_56 : decode cX12_whyNotSags 56 = .ok (.bipush 60, 2) := by decide +kernel
theorem dX12_whyNotSags_58 : decode cX12_whyNotSags 58 = .ok (.iload_n 1, 1) := by decide +kernel
theorem dX12_whyNotSags_59 : decode cX12_whyNotSags 59 = .ok (.imul, 1) := by decide +kernel
theorem dX12_whyNotSags_60 : decode cX12_whyNotSags 60 = .ok (.iload_n 2, 1) := by decide +kernel
theorem dX12_whyNotSags_61 : decode cX12_whyNotSags 61 = .ok (.iadd, 1) := by decide +kernel
theorem dX12_whyNotSags_62 : decode cX12_whyNotSags 62 = .ok (.istore_n 3, 1) := by decide +kernel
theorem dX12_whyNotSags_63 : decode cX12_whyNotSags 63 = .ok (.aload_n 0, 1) := by decide +kernel
theorem dX12_whyNotSags_64 : decode cX12_whyNotSags 64 = .ok (.aload_n 0, 1) := by decide +kernel
theorem dX12_whyNotSags_65 : decode cX12_whyNotSags 65 = .ok (.getfield 16, 3) := by decide +kernel
theorem dX12_whyNotSags_68 : decode cX12_whyNotSags 68 = .ok (.iload_n 3, 1) := by decide +kernel
theorem dX12_whyNotSags_69 : decode cX12_whyNotSags 69 = .ok (.laload, 1) := by decide +kernel
theorem dX12_whyNotSags_70 : decode cX12_whyNotSags 70 = .ok (.invokevirtual 292, 3) := by decide +kernel
theorem dX12_whyNotSags_73 : decode cX12_whyNotSags 73 = .ok (.ifCond .eq 36, 3) := by decide +kernel
theorem dX12_whyNotSags_76 : decode cX12_whyNotSags 76 = .ok (.aload_n 0, 1) := by decide +kernel
theorem dX12_whyNotSags_77 : decode cX12_whyNotSags 77 = .ok (.aload_n 0, 1) := by decide +kernel
theorem dX12_whyNotSags_78 : decode cX12_whyNotSags 78 = .ok (.getfield 16, 3) := by decide +kernel
theorem dX12_whyNotSags_81 : decode cX12_whyNotSags 81 = .ok (.iload_n 3, 1) := by decide +kernel
theorem dX12_whyNotSags_82 : decode cX12_whyNotSags 82 = .ok (.iconst 1, 1) := by decide +kernel
theorem dX12_whyNotSags_83 : decode cX12_whyNotSags 83 = .ok (.iadd, 1) := by decide +kernel
theorem dX12_whyNotSags_84 : decode cX12_whyNotSags 84 = .ok (.laload, 1) := by decide +kernel
theorem dX12_whyNotSags_85 : decode cX12_whyNotSags 85 = .ok (.invokevirtual 289, 3) := by decide +kernel
theorem dX12_whyNotSags_88 : decode cX12_whyNotSags 88 = .ok (.ifCond .eq 21, 3) := by decide +kernel
theorem dX12_whyNotSags_91 : decode cX12_whyNotSags 91 = .ok (.aload_n 0, 1) := by decide +kernel
theorem dX12_whyNotSags_92 : decode cX12_whyNotSags 92 = .ok (.getfield 16, 3) := by decide +kernel
theorem dX12_whyNotSags_95 : decode cX12_whyNotSags 95 = .ok (.iload_n 3, 1) := by decide +kernel
theorem dX12_whyNotSags_96 : decode cX12_whyNotSags 96 = .ok (.iconst 2, 1) := by decide +kernel
theorem dX12_whyNotSags_97 : decode cX12_whyNotSags 97 = .ok (.iadd, 1) := by decide +kernel
theorem dX12_whyNotSags_98 : decode cX12_whyNotSags 98 = .ok (.laload, 1) := by decide +kernel
theorem dX12_whyNotSags_99 : decode cX12_whyNotSags 99 = .ok (.lconst 0, 1) := by decide +kernel
theorem dX12_whyNotSags_100 : decode cX12_whyNotSags 100 = .ok (.ldc2_w 422, 3) := by decide +kernel
theorem dX12_whyNotSags_103 : decode cX12_whyNotSags 103 = .ok (.invokestatic 121, 3) := by decide +kernel
theorem dX12_whyNotSags_106 : decode cX12_whyNotSags 106 = .ok (.ifCond .ne 6, 3) := by decide +kernel
theorem dX12_whyNotSags_109 : decode cX12_whyNotSags 109 = .ok (.bipush (-2), 2) := by decide +kernel
theorem dX12_whyNotSags_111 : decode cX12_whyNotSags 111 = .ok (.ireturn, 1) := by decide +kernel
theorem dX12_whyNotSags_112 : decode cX12_whyNotSags 112 = .ok (.iinc 2 3, 3) := by decide +kernel
theorem dX12_whyNotSags_115 : decode cX12_whyNotSags 115 = .ok (.goto (-69), 3) := by decide +kernel
theorem dX12_whyNotSags_118 : decode cX12_whyNotSags 118 = .ok (.iconst 0, 1) := by decide +kernel
theorem dX12_whyNotSags_119 : decode cX12_whyNotSags 119 = .ok (.ireturn, 1) := by decide +kernel
