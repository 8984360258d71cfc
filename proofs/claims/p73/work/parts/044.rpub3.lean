theorem dX11_by_0 : decode cX11_by 0 = .ok (.aload_n 0, 1) := by decide +kernel
theorem dX11_by_1 : decode cX11_by 1 = .ok (.invokevirtual 180, 3) := by decide +kernel
theorem dX11_by_4 : decode cX11_by 4 = .ok (.ifCond .ne 12, 3) := by decide +kernel
theorem dX11_by_7 : decode cX11_by 7 = .ok (.iload_n 1, 1) := by decide +kernel
theorem dX11_by_8 : decode cX11_by 8 = .ok (.ifCond .lt 8, 3) := by decide +kernel
theorem dX11_by_11 : decode cX11_by 11 = .ok (.iload_n 1, 1) := by decide +kernel
theorem dX11_by_12 : decode cX11_by 12 = .ok (.iconst 4, 1) := by decide +kernel
theorem dX11_by_13 : decode cX11_by 13 = .ok (.if_icmp .lt 6, 3) := by decide +kernel
theorem dX11_by_16 : decode cX11_by 16 = .ok (.bipush (-2), 2) := by decide +kernel
theorem dX11_by_18 : decode cX11_by 18 = .ok (.ireturn, 1) := by decide +kernel
theorem dX11_by_19 : decode cX11_by 19 = .ok (.aload_n 0, 1) := by decide +kernel
theorem dX11_by_20 : decode cX11_by 20 = .ok (.iload_n 1, 1) := by decide +kernel
theorem dX11_by_21 : decode cX11_by 21 = .ok (.invokevirtual 304, 3) := by decide +kernel
theorem dX11_by_24 : decode cX11_by 24 = .ok (.aload_n 0, 1) := by decide +kernel
theorem dX11_by_25 : decode cX11_by 25 = .ok (.getfield 49, 3) := by decide +kernel
theorem dX11_by_28 : decode cX11_by 28 = .ok (.invokevirtual 183, 3) := by decide +kernel
theorem dX11_by_31 : decode cX11_by 31 = .ok (.invokevirtual 209, 3) := by decide +kernel
theorem dX11_by_34 : decode cX11_by 34 = .ok (.ireturn, 1) := by decide +kernel
theorem dX11_chance_0 : decode cX11_chance 0 = .ok (.aload_n 0, 1) := by decide +kernel
theorem dX11_chance_1 : decode cX11_chance 1 = .ok (.getfield 19, 3) := by decide +kernel
theorem dX11_chance_4 : decode cX11_chance 4 = .ok (.iload_n 1, 1) := by decide +kernel
theorem dX11_chance_5 : decode cX11_chance 5 = .ok (.invokevirtual 131, 3) := by decide +kernel
theorem dX11_chance_8 : decode cX11_chance 8 = .ok (.ifCond .eq 12, 3) := by decide +kernel
theorem dX11_chance_11 : decode cX11_chance 11 = .ok (.iload_n 2, 1) := by decide +kernel
theorem dX11_chance_12 : decode cX11_chance 12 = .ok (.ifCond .lt 8, 3) := by decide +kernel
theorem dX11_chance_15 : decode cX11_chance 15 = .ok (.iload_n 2, 1) := by decide +kernel
theorem dX11_chance_16 : decode cX11_chance 16 = .ok (.iconst 1, 1) := by decide +kernel
theorem dX11_chance_17 : decode cX11_chance 17 = .ok (.if_icmp .le 6, 3) := by decide +kernel
theorem dX11_chance_20 : decode cX11_chance 20 = .ok (.bipush (-2), 2) := by decide +kernel
theorem dX11_chance_22 : decode cX11_chance 22 = .ok (.ireturn, 1) := by decide +kernel
theorem dX11_chance_23 : decode cX11_chance 23 = .ok (.lconst 0, 1) := by decide +kernel
theorem dX11_chance_24 : decode cX11_chance 24 = .ok (.lstore_n 3, 1) := by decide +kernel
theorem dX11_chance_25 : decode cX11_chance 25 = .ok (.iconst 0, 1) := by decide +kernel
theorem dX11_chance_26 : decode cX11_chance 26 = .ok (.istore 5, 2) := by decide +kernel
theorem dX11_chance_28 : decode cX11_chance 28 = .ok (.iload 5, 2) := by decide +kernel
theorem dX11_chance_30 : decode cX11_chance 30 = .ok (.iconst 1, 1) := by decide +kernel
theorem dX11_chance_31 : decode cX11_chance 31 = .ok (.aload_n 0, 1) := by decide +kernel
theorem dX11_chance_32 : decode cX11_chance 32 = .ok (.getfield 19, 3) := by decide +kernel
theorem dX11_chance_35 : decode cX11_chance 35 = .ok (.getfield 177, 3) := by decide +kernel
theorem dX11_chance_38 : decode cX11_chance 38 = .ok (.ishl, 1) := by decide +kernel
theorem dX11_chance_39 : decode cX11_chance 39 = .ok (.if_icmp .ge 39, 3) := by decide +kernel
theorem dX11_chance_42 : decode cX11_chance 42 = .ok (.aload_n 0, 1) := by decide +kernel
theorem dX11_chance_43 : decode cX11_chance 43 = .ok (.iload 5, 2) := by decide +kernel
theorem dX11_chance_45 : decode cX11_chance 45 = .ok (.invokevirtual 330, 3) := by decide +kernel
theorem dX11_chance_48 : decode cX11_chance 48 = .ok (.lstore 6, 2) := by decide +kernel
theorem dX11_chance_50 : decode cX11_chance 50 = .ok (.lload 6, 2) := by decide +kernel
theorem dX11_chance_52 : decode cX11_chance 52 = .ok (.lconst 0, 1) := by decide +kernel
theorem dX11_chance_53 : decode cX11_chance 53 = .ok (.lcmp, 1) := by decide +kernel
theorem dX11_chance_54 : decode cX11_chance 54 = .ok (.ifCond .le 18, 3) := by decide +kernel
theorem dX11_chance_57 : decode cX11_chance 57 = .ok (.aload_n 0, 1) := by decide +kernel
theorem dX11_chance_58 : decode cX11_chance 58 = .ok (.iload 5, 2) := by decide +kernel
theorem dX11_chance_60 : decode cX11_chance 60 = .ok (.iload_n 1, 1) := by decide +kernel
theorem dX11_chance_61 : decode cX11_chance 61 = .ok (.invokevirtual 333, 3) := by decide +kernel
theorem dX11_chance_64 : decode cX11_chance 64 = .ok (.ifCond .eq 8, 3) := by decide +kernel
theorem dX11_chance_67 : decode cX11_chance 67 = .ok (.lload_n 3, 1) := by decide +kernel
theorem dX11_chance_68 : decode cX11_chance 68 = .ok (.lload 6, 2) := by decide +kernel
theorem dX11_chance_70 : decode cX11_chance 70 = .ok (.ladd, 1) := by decide +kernel
theorem dX11_chance_71 : decode cX11_chance 71 = .ok (.lstore_n 3, 1) := by decide +kernel
theorem dX11_chance_72 : decode cX11_chance 72 = .ok (.iinc 5 1, 3) := by decide +kernel
theorem dX11_chance_75 : decode cX11_chance 75 = .ok (.goto (-47), 3) := by decide +kernel
theorem dX11_chance_78 : decode cX11_chance 78 = .ok (.lload_n 3, 1) := by decide +kernel
theorem dX11_chance_79 : decode cX11_chance 79 = .ok (.bipush 10, 2) := by decide +kernel
theorem dX11_chance_81 : decode cX11_chance 81 = .ok (.aload_n 0, 1) := by decide +kernel
theorem dX11_chance_82 : decode cX11_chance 82 = .ok (.getfield 19, 3) := by decide +kernel
theorem dX11_chance_85 : decode cX11_chance 85 = .ok (.getfield 177, 3) := by decide +kernel
theorem dX11_chance_88 : decode cX11_chance 88 = .ok (.invokestatic 336, 3) := by decide +kernel
theorem dX11_chance_91 : decode cX11_chance 91 = .ok (.iload_n 2, 1) := by decide +kernel
theorem dX11_chance_92 : decode cX11_chance 92 = .ok (.invokestatic 319, 3) := by decide +kernel
theorem dX11_chance_95 : decode cX11_chance 95 = .ok (.l2i, 1) := by decide +kernel
theorem dX11_chance_96 : decode cX11_chance 96 = .ok (.ireturn, 1) := by decide +kernel
theorem dX11_drawn_0 : decode cX11_drawn 0 = .ok (.aload_n 0, 1) := by decide +kernel
theorem dX11_drawn_1 : decode cX11_drawn 1 = .ok (.invokevirtual 180, 3) := by decide +kernel
theorem dX11_drawn_4 : decode cX11_drawn 4 = .ok (.ifCond .ne 23, 3) := by decide +kernel
theorem dX11_drawn_7 : decode cX11_drawn 7 = .ok (.iload_n 1, 1) := by decide +kernel
theorem dX11_drawn_8 : decode cX11_drawn 8 = .ok (.ifCond .lt 19, 3) := by decide +kernel
theorem dX11_drawn_11 : decode cX11_drawn 11 = .ok (.iload_n 1, 1) := by decide +kernel
theorem dX11_drawn_12 : decode cX11_drawn 12 = .ok (.ldc_w 349, 3) := by decide +kernel
theorem dX11_drawn_15 : decode cX11_drawn 15 = .ok (.if_icmp .gt 12, 3) := by decide +kernel
theorem dX11_drawn_18 : decode cX11_drawn 18 = .ok (.iload_n 2, 1) := by decide +kernel
theorem dX11_drawn_19 : decode cX11_drawn 19 = .ok (.ifCond .lt 8, 3) := by decide +kernel
theorem dX11_drawn_22 : decode cX11_drawn 22 = .ok (.iload_n 2, 1) := by decide +kernel
theorem dX11_drawn_23 : decode cX11_drawn 23 = .ok (.iconst 1, 1) := by decide +kernel
theorem dX11_drawn_24 : decode cX11_drawn 24 = .ok (.if_icmp .le 6, 3) := by decide +kernel
theorem dX11_drawn_27 : decode cX11_drawn 27 = .ok (.bipush (-2), 2) := by decide +kernel
theorem dX11_drawn_29 : decode cX11_drawn 29 = .ok (.ireturn, 1) := by decide +kernel
theorem dX11_drawn_30 : decode cX11_drawn 30 = .ok (.aload_n 0, 1) := by decide +kernel
theorem dX11_drawn_31 : decode cX11_drawn 31 = .ok (.iload_n 1, 1) := by decide +kernel
theorem dX11_drawn_32 : decode cX11_drawn 32 = .ok (.i2l, 1) := by decide +kernel
theorem dX11_drawn_33 : decode cX11_drawn 33 = .ok (.invokevirtual 350, 3) := by decide +kernel
theorem dX11_drawn_36 : decode cX11_drawn 36 = .ok (.istore_n 3, 1) := by decide +kernel
theorem dX11_drawn_37 : decode cX11_drawn 37 = .ok (.iload_n 2, 1) := by decide +kernel
theorem dX11_drawn_38 : decode cX11_drawn 38 = .ok (.ifCond .ne 7, 3) := by decide +kernel
theorem dX11_drawn_41 : decode cX11_drawn 41 = .ok (.iload_n 3, 1) := by decide +kernel
theorem dX11_drawn_42 : decode cX11_drawn 42 = .ok (.goto 8, 3) := by decide +kernel
theorem dX11_drawn_45 : decode cX11_drawn 45 = .ok (.aload_n 0, 1) := by decide +kernel
theorem dX11_drawn_46 : decode cX11_drawn 46 = .ok (.iload_n 3, 1) := by decide +kernel
theorem dX11_drawn_47 : decode cX11_drawn 47 = .ok (.invokevirtual 264, 3) := by decide +kernel
theorem dX11_drawn_50 : decode cX11_drawn 50 = .ok (.ireturn, 1) := by decide +kernel
theorem dX11_heavy_0 : decode cX11_heavy 0 = .ok (.aload_n 0, 1) := by decide +kernel
theorem dX11_heavy_1 : decode cX11_heavy 1 = .ok (.iload_n 1, 1) := by decide +kernel
theorem dX11_heavy_2 : decode cX11_heavy 2 = .ok (.iload_n 2, 1) := by decide +kernel
theorem dX11_heavy_3 : decode cX11_heavy 3 = .ok (.invokevirtual 290, 3) := by decide +kernel
theorem dX11_heavy_6 : decode cX11_heavy 6 = .ok (.istore_n 3, 1) := by decide +kernel
theorem dX11_heavy_7 : decode cX11_heavy 7 = .ok (.iload_n 3, 1) := by decide +kernel
theorem dX11_heavy_8 : decode cX11_heavy 8 = .ok (.ifCond .ge 5, 3) := by decide +kernel
theorem dX11_heavy_11 : decode cX11_heavy 11 = .ok (.iload_n 3, 1) := by decide +kernel
theorem dX11_heavy_12 : decode cX11_heavy 12 = .ok (.ireturn, 1) := by decide +kernel
theorem dX11_heavy_13 : decode cX11_heavy 13 = .ok (.bipush 99, 2) := by decide +kernel
theorem dX11_heavy_15 : decode cX11_heavy 15 = .ok (.istore 4, 2) := by decide +kernel
theorem dX11_heavy_17 : decode cX11_heavy 17 = .ok (.iload 4, 2) := by decide +kernel
theorem dX11_heavy_19 : decode cX11_heavy 19 = .ok (.ifCond .le 23, 3) := by decide +kernel
theorem dX11_heavy_22 : decode cX11_heavy 22 = .ok (.aload_n 0, 1) := by decide +kernel
theorem dX11_heavy_23 : decode cX11_heavy 23 = .ok (.iload_n 1, 1) := by decide +kernel
theorem dX11_heavy_24 : decode cX11_heavy 24 = .ok (.iload_n 2, 1) := by decide +kernel
theorem dX11_heavy_25 : decode cX11_heavy 25 = .ok (.iload 4, 2) := by decide +kernel
theorem dX11_heavy_27 : decode cX11_heavy 27 = .ok (.invokevirtual 293, 3) := by decide +kernel
theorem dX11_heavy_30 : decode cX11_heavy 30 = .ok (.ifCond .eq 6, 3) := by decide +kernel
theorem dX11_heavy_33 : decode cX11_heavy 33 = .ok (.iload 4, 2) := by decide +kernel
theorem dX11_heavy_35 : decode cX11_heavy 35 = .ok (.ireturn, 1) := by decide +kernel
theorem dX11_heavy_36 : decode cX11_heavy 36 = .ok (.iinc 4 (-1), 3) := by decide +kernel
theorem dX11_heavy_39 : decode cX11_heavy 39 = .ok (.goto (-22), 3) := by decide +kernel
theorem dX11_heavy_42 : decode cX11_heavy 42 = .ok (.iconst (-1), 1) := by decide +kernel
theorem dX11_heavy_43 : decode cX11_heavy 43 = .ok (.ireturn, 1) := by decide +kernel
theorem dX11_law_0 : decode cX11_law 0 = .ok (.aload_n 0, 1) := by decide +kernel
theorem dX11_law_1 : decode cX11_law 1 = .ok (.invokevirtual 180, 3) := by decide +kernel
theorem dX11_law_4 : decode cX11_law 4 = .ok (.ifCond .eq 6, 3) := by decide +kernel
theorem dX11_law_7 : decode cX11_law 7 = .ok (.bipush (-2), 2) := by decide +kernel
theorem dX11_law_9 : decode cX11_law 9 = .ok (.ireturn, 1) := by decide +kernel
theorem dX11_law_10 : decode cX11_law 10 = .ok (.iconst 0, 1) := by decide +kernel
theorem dX11_law_11 : decode cX11_law 11 = .ok (.istore_n 1, 1) := by decide +kernel
theorem dX11_law_12 : decode cX11_law 12 = .ok (.iconst 0, 1) := by decide +kernel
theorem dX11_law_13 : decode cX11_law 13 = .ok (.istore_n 2, 1) := by decide +kernel
theorem dX11_law_14 : decode cX11_law 14 = .ok (.iconst 0, 1) := by decide +kernel
theorem dX11_law_15 : decode cX11_law 15 = .ok (.istore_n 3, 1) := by decide +kernel
theorem dX11_law_16 : decode cX11_law 16 = .ok (.iload_n 3, 1) := by decide +kernel
theorem dX11_law_17 : decode cX11_law 17 = .ok (.iconst 4, 1) := by decide +kernel
theorem dX11_law_18 : decode cX11_law 18 = .ok (.if_icmp .ge 41, 3) := by decide +kernel
theorem dX11_law_21 : decode cX11_law 21 = .ok (.aload_n 0, 1) := by decide +kernel
theorem dX11_law_22 : decode cX11_law 22 = .ok (.iload_n 3, 1) := by decide +kernel
theorem dX11_law_23 : decode cX11_law 23 = .ok (.invokevirtual 304, 3) := by decide +kernel
theorem dX11_law_26 : decode cX11_law 26 = .ok (.aload_n 0, 1) := by decide +kernel
theorem dX11_law_27 : decode cX11_law 27 = .ok (.getfield 49, 3) := by decide +kernel
theorem dX11_law_30 : decode cX11_law 30 = .ok (.invokevirtual 183, 3) := by decide +kernel
theorem dX11_law_33 : decode cX11_law 33 = .ok (.invokevirtual 209, 3) := by decide +kernel
theorem dX11_law_36 : decode cX11_law 36 = .ok (.istore 4, 2) := by decide +kernel
theorem dX11_law_38 : decode cX11_law 38 = .ok (.iload_n 3, 1) := by decide +kernel
theorem dX11_law_39 : decode cX11_law 39 = .ok (.ifCond .eq 9, 3) := by decide +kernel
theorem dX11_law_42 : decode cX11_law 42 = .ok (.iload 4, 2) := by decide +kernel
theorem dX11_law_44 : decode cX11_law 44 = .ok (.iload_n 2, 1) := by decide +kernel
theorem dX11_law_45 : decode cX11_law 45 = .ok (.if_icmp .ge 8, 3) := by decide +kernel
theorem dX11_law_48 : decode cX11_law 48 = .ok (.iload 4, 2) := by decide +kernel
theorem dX11_law_50 : decode cX11_law 50 = .ok (.istore_n 2, 1) := by decide +kernel
theorem dX11_law_51 : decode cX11_law 51 = .ok (.iload_n 3, 1) := by decide +kernel
theorem dX11_law_52 : decode cX11_law 52 = .ok (.istore_n 1, 1) := by decide +kernel
theorem dX11_law_53 : decode cX11_law 53 = .ok (.iinc 3 1, 3) := by decide +kernel
theorem dX11_law_56 : decode cX11_law 56 = .ok (.goto (-40), 3) := by decide +kernel
theorem dX11_law_59 : decode cX11_law 59 = .ok (.iload_n 1, 1) := by decide +kernel
theorem dX11_law_60 : decode cX11_law 60 = .ok (.ireturn, 1) := by decide +kernel
theorem dX11_laws_0 : decode cX11_laws 0 = .ok (.aload_n 0, 1) := by decide +kernel
theorem dX11_laws_1 : decode cX11_laws 1 = .ok (.iload_n 1, 1) := by decide +kernel
theorem dX11_laws_2 : decode cX11_laws 2 = .ok (.invokevirtual 297, 3) := by decide +kernel
theorem dX11_laws_5 : decode cX11_laws 5 = .ok (.istore_n 2, 1) := by decide +kernel
theorem dX11_laws_6 : decode cX11_laws 6 = .ok (.iload_n 2, 1) := by decide +kernel
theorem dX11_laws_7 : decode cX11_laws 7 = .ok (.ifCond .ge 5, 3) := by decide +kernel
theorem dX11_laws_10 : decode cX11_laws 10 = .ok (.iload_n 2, 1) := by decide +kernel
theorem dX11_laws_11 : decode cX11_laws 11 = .ok (.ireturn, 1) := by decide +kernel
theorem dX11_laws_12 : decode cX11_laws 12 = .ok (.iconst 0, 1) := by decide +kernel
theorem dX11_laws_13 : decode cX11_laws 13 = .ok (.istore_n 3, 1) := by decide +kernel
theorem dX11_laws_14 : decode cX11_laws 14 = .ok (.iconst 0, 1) := by decide +kernel
theorem dX11_laws_15 : decode cX11_laws 15 = .ok (.istore 4, 2) := by decide +kernel
theorem dX11_laws_17 : decode cX11_laws 17 = .ok (.iload 4, 2) := by decide +kernel
theorem dX11_laws_19 : decode cX11_laws 19 = .ok (.iconst 4, 1) := by decide +kernel
theorem dX11_laws_20 : decode cX11_laws 20 = .ok (.if_icmp .ge 38, 3) := by decide +kernel
theorem dX11_laws_23 : decode cX11_laws 23 = .ok (.aload_n 0, 1) := by decide +kernel
theorem dX11_laws_24 : decode cX11_laws 24 = .ok (.iload 4, 2) := by decide +kernel
theorem dX11_laws_26 : decode cX11_laws 26 = .ok (.invokevirtual 304, 3) := by decide +kernel
theorem dX11_laws_29 : decode cX11_laws 29 = .ok (.aload_n 0, 1) := by decide +kernel
theorem dX11_laws_30 : decode cX11_laws 30 = .ok (.getfield 85, 3) := by decide +kernel
theorem dX11_laws_33 : decode cX11_laws 33 = .ok (.iload_n 1, 1) := by decide +kernel
theorem dX11_laws_34 : decode cX11_laws 34 = .ok (.aaload, 1) := by decide +kernel
theorem dX11_laws_35 : decode cX11_laws 35 = .ok (.aload_n 0, 1) := by decide +kernel
theorem dX11_laws_36 : decode cX11_laws 36 = .ok (.getfield 49, 3) := by decide +kernel
theorem dX11_laws_39 : decode cX11_laws 39 = .ok (.invokevirtual 300, 3) := by decide +kernel
theorem dX11_laws_42 : decode cX11_laws 42 = .ok (.ifCond .eq 10, 3) := by decide +kernel
theorem dX11_laws_45 : decode cX11_laws 45 = .ok (.iload_n 3, 1) := by decide +kernel
theorem dX11_laws_46 : decode cX11_laws 46 = .ok (.iconst 1, 1) := by decide +kernel
theorem dX11_laws_47 : decode cX11_laws 47 = .ok (.iload 4, 2) := by decide +kernel
theorem dX11_laws_49 : decode cX11_laws 49 = .ok (.ishl, 1) := by decide +kernel
theorem dX11_laws_50 : decode cX11_laws 50 = .ok (.ior, 1) := by decide +kernel
theorem dX11_laws_51 : decode cX11_laws 51 = .ok (.istore_n 3, 1) := by decide +kernel
theorem dX11_laws_52 : decode cX11_laws 52 = .ok (.iinc 4 1, 3) := by decide +kernel
theorem dX11_laws_55 : decode cX11_laws 55 = .ok (.goto (-38), 3) := by decide +kernel
theorem dX11_laws_58 : decode cX11_laws 58 = .ok (.iload_n 3, 1) := by decide +kernel
theorem dX11_laws_59 : decode cX11_laws 59 = .ok (.ireturn, 1) := by decide +kernel
theorem dX11_liars_0 : decode cX11_liars 0 = .ok (.aload_n 0, 1) := by decide +kernel
theorem dX11_liars_1 : decode cX11_liars 1 = .ok (.iload_n 1, 1) := by decide +kernel
theorem dX11_liars_2 : decode cX11_liars 2 = .ok (.invokevirtual 297, 3) := by decide +kernel
theorem dX11_liars_5 : decode cX11_liars 5 = .ok (.istore_n 2, 1) := by decide +kernel
theorem dX11_liars_6 : decode cX11_liars 6 = .ok (.iload_n 2, 1) := by decide +kernel
theorem dX11_liars_7 : decode cX11_liars 7 = .ok (.ifCond .ge 5, 3) := by decide +kernel
theorem dX11_liars_10 : decode cX11_liars 10 = .ok (.iload_n 2, 1) := by decide +kernel
theorem dX11_liars_11 : decode cX11_liars 11 = .ok (.ireturn, 1) := by decide +kernel
theorem dX11_liars_12 : decode cX11_liars 12 = .ok (.aload_n 0, 1) := by decide +kernel
theorem dX11_liars_13 : decode cX11_liars 13 = .ok (.getfield 85, 3) := by decide +kernel
theorem dX11_liars_16 : decode cX11_liars 16 = .ok (.iload_n 1, 1) := by decide +kernel
theorem dX11_liars_17 : decode cX11_liars 17 = .ok (.aaload, 1) := by decide +kernel
theorem dX11_liars_18 : decode cX11_liars 18 = .ok (.aload_n 0, 1) := by decide +kernel
theorem dX11_liars_19 : decode cX11_liars 19 = .ok (.getfield 45, 3) := by decide +kernel
theorem dX11_liars_22 : decode cX11_liars 22 = .ok (.invokevirtual 300, 3) := by decide +kernel
theorem dX11_liars_25 : decode cX11_liars 25 = .ok (.ifCond .eq 5, 3) := by decide +kernel
theorem dX11_liars_28 : decode cX11_liars 28 = .ok (.iconst 0, 1) := by decide +kernel
theorem dX11_liars_29 : decode cX11_liars 29 = .ok (.ireturn, 1) := by decide +kernel
theorem dX11_liars_30 : decode cX11_liars 30 = .ok (.iconst 0, 1) := by decide +kernel
theorem dX11_liars_31 : decode cX11_liars 31 = .ok (.istore_n 3, 1) := by decide +kernel
theorem dX11_liars_32 : decode cX11_liars 32 = .ok (.iconst 0, 1) := by decide +kernel
theorem dX11_liars_33 : decode cX11_liars 33 = .ok (.istore 4, 2) := by decide +kernel
theorem dX11_liars_35 : decode cX11_liars 35 = .ok (.iload 4, 2) := by decide +kernel
theorem dX11_liars_37 : decode cX11_liars 37 = .ok (.aload_n 0, 1) := by decide +kernel
theorem dX11_liars_38 : decode cX11_liars 38 = .ok (.getfield 19, 3) := by decide +kernel
theorem dX11_liars_41 : decode cX11_liars 41 = .ok (.getfield 177, 3) := by decide +kernel
theorem dX11_liars_44 : decode cX11_liars 44 = .ok (.if_icmp .ge 47, 3) := by decide +kernel
theorem dX11_liars_47 : decode cX11_liars 47 = .ok (.iconst 1, 1) := by decide +kernel
theorem dX11_liars_48 : decode cX11_liars 48 = .ok (.istore 5, 2) := by decide +kernel
theorem dX11_liars_50 : decode cX11_liars 50 = .ok (.iload 5, 2) := by decide +kernel
theorem dX11_liars_52 : decode cX11_liars 52 = .ok (.bipush 99, 2) := by decide +kernel
theorem dX11_liars_54 : decode cX11_liars 54 = .ok (.if_icmp .gt 31, 3) := by decide +kernel
theorem dX11_liars_57 : decode cX11_liars 57 = .ok (.aload_n 0, 1) := by decide +kernel
theorem dX11_liars_58 : decode cX11_liars 58 = .ok (.iload_n 1, 1) := by decide +kernel
theorem dX11_liars_59 : decode cX11_liars 59 = .ok (.iload 4, 2) := by decide +kernel
theorem dX11_liars_61 : decode cX11_liars 61 = .ok (.iload 5, 2) := by decide +kernel
theorem dX11_liars_63 : decode cX11_liars 63 = .ok (.invokevirtual 293, 3) := by decide +kernel
theorem dX11_liars_66 : decode cX11_liars 66 = .ok (.ifCond .eq 13, 3) := by decide +kernel
theorem dX11_liars_69 : decode cX11_liars 69 = .ok (.iload_n 3, 1) := by decide +kernel
theorem dX11_liars_70 : decode cX11_liars 70 = .ok (.iconst 1, 1) := by decide +kernel
theorem dX11_liars_71 : decode cX11_liars 71 = .ok (.iload 4, 2) := by decide +kernel
theorem dX11_liars_73 : decode cX11_liars 73 = .ok (.ishl, 1) := by decide +kernel
theorem dX11_liars_74 : decode cX11_liars 74 = .ok (.ior, 1) := by decide +kernel
theorem dX11_liars_75 : decode cX11_liars 75 = .ok (.istore_n 3, 1) := by decide +kernel
theorem dX11_liars_76 : decode cX11_liars 76 = .ok (.goto 9, 3) := by decide +kernel
theorem dX11_liars_79 : decode cX11_liars 79 = .ok (.iinc 5 1, 3) := by decide +kernel
theorem dX11_liars_82 : decode cX11_liars 82 = .ok (.goto (-32), 3) := by decide +kernel
theorem dX11_liars_85 : decode cX11_liars 85 = .ok (.iinc 4 1, 3) := by decide +kernel
theorem dX11_liars_88 : decode cX11_liars 88 = .ok (.goto (-53), 3) := by decide +kernel
theorem dX11_liars_91 : decode cX11_liars 91 = .ok (.iload_n 3, 1) := by decide +kernel
theorem dX11_liars_92 : decode cX11_liars 92 = .ok (.ireturn, 1) := by decide +kernel
theorem dX11_light_0 : decode cX11_light 0 = .ok (.aload_n 0, 1) := by decide +kernel
theorem dX11_light_1 : decode cX11_light 1 = .ok (.iload_n 1, 1) := by decide +kernel
theorem dX11_light_2 : decode cX11_light 2 = .ok (.iload_n 2, 1) := by decide +kernel
theorem dX11_light_3 : decode cX11_light 3 = .ok (.invokevirtual 290, 3) := by decide +kernel
theorem dX11_light_6 : decode cX11_light 6 = .ok (.istore_n 3, 1) := by decide +kernel
theorem dX11_light_7 : decode cX11_light 7 = .ok (.iload_n 3, 1) := by decide +kernel
theorem dX11_light_8 : decode cX11_light 8 = .ok (.ifCond .ge 5, 3) := by decide +kernel
theorem dX11_light_11 : decode cX11_light 11 = .ok (.iload_n 3, 1) := by decide +kernel
theorem dX11_light_12 : decode cX11_light 12 = .ok (.ireturn, 1) := by decide +kernel
theorem dX11_light_13 : decode cX11_light 13 = .ok (.iconst 1, 1) := by decide +kernel
theorem dX11_light_14 : decode cX11_light 14 = .ok (.istore 4, 2) := by decide +kernel
theorem dX11_light_16 : decode cX11_light 16 = .ok (.iload 4, 2) := by decide +kernel
theorem dX11_light_18 : decode cX11_light 18 = .ok (.bipush 99, 2) := by decide +kernel
theorem dX11_light_20 : decode cX11_light 20 = .ok (.if_icmp .gt 23, 3) := by decide +kernel
theorem dX11_light_23 : decode cX11_light 23 = .ok (.aload_n 0, 1) := by decide +kernel
theorem dX11_light_24 : decode cX11_light 24 = .ok (.iload_n 1, 1) := by decide +kernel
theorem dX11_light_25 : decode cX11_light 25 = .ok (.iload_n 2, 1) := by decide +kernel
theorem dX11_light_26 : decode cX11_light 26 = .ok (.iload 4, 2) := by decide +kernel
theorem dX11_light_28 : decode cX11_light 28 = .ok (.invokevirtual 293, 3) := by decide +kernel
theorem dX11_light_31 : decode cX11_light 31 = .ok (.ifCond .eq 6, 3) := by decide +kernel
theorem dX11_light_34 : decode cX11_light 34 = .ok (.iload 4, 2) := by decide +kernel
theorem dX11_light_36 : decode cX11_light 36 = .ok (.ireturn, 1) := by decide +kernel
theorem dX11_light_37 : decode cX11_light 37 = .ok (.iinc 4 1, 3) := by decide +kernel
theorem dX11_light_40 : decode cX11_light 40 = .ok (.goto (-24), 3) := by decide +kernel
theorem dX11_light_43 : decode cX11_light 43 = .ok (.iconst (-1), 1) := by decide +kernel
theorem dX11_light_44 : decode cX11_light 44 = .ok (.ireturn, 1) := by decide +kernel
theorem dX11_loads_0 : decode cX11_loads 0 = .ok (.aload_n 0, 1) := by decide +kernel
theorem dX11_loads_1 : decode cX11_loads 1 = .ok (.iload_n 1, 1) := by decide +kernel
theorem dX11_loads_2 : decode cX11_loads 2 = .ok (.iload_n 2, 1) := by decide +kernel
theorem dX11_loads_3 : decode cX11_loads 3 = .ok (.invokevirtual 290, 3) := by decide +kernel
theorem dX11_loads_6 : decode cX11_loads 6 = .ok (.istore_n 3, 1) := by decide +kernel
theorem dX11_loads_7 : decode cX11_loads 7 = .ok (.iload_n 3, 1) := by decide +kernel
theorem dX11_loads_8 : decode cX11_loads 8 = .ok (.ifCond .ge 5, 3) := by decide +kernel
theorem dX11_loads_11 : decode cX11_loads 11 = .ok (.iload_n 3, 1) := by decide +kernel
theorem dX11_loads_12 : decode cX11_loads 12 = .ok (.ireturn, 1) := by decide +kernel
theorem dX11_loads_13 : decode cX11_loads 13 = .ok (.iconst 0, 1) := by decide +kernel
theorem dX11_loads_14 : decode cX11_loads 14 = .ok (.istore 4, 2) := by decide +kernel
theorem dX11_loads_16 : decode cX11_loads 16 = .ok (.iconst 1, 1) := by decide +kernel
theorem dX11_loads_17 : decode cX11_loads 17 = .ok (.istore 5, 2) := by decide +kernel
theorem dX11_loads_19 : decode cX11_loads 19 = .ok (.iload 5, 2) := by decide +kernel
theorem dX11_loads_21 : decode cX11_loads 21 = .ok (.bipush 99, 2) := by decide +kernel
theorem dX11_loads_23 : decode cX11_loads 23 = .ok (.if_icmp .gt 23, 3) := by decide +kernel
theorem dX11_loads_26 : decode cX11_loads 26 = .ok (.aload_n 0, 1) := by decide +kernel
theorem dX11_loads_27 : decode cX11_loads 27 = .ok (.iload_n 1, 1) := by decide +kernel
theorem dX11_loads_28 : decode cX11_loads 28 = .ok (.iload_n 2, 1) := by decide +kernel
theorem dX11_loads_29 : decode cX11_loads 29 = .ok (.iload 5, 2) := by decide +kernel
theorem dX11_loads_31 : decode cX11_loads 31 = .ok (.invokevirtual 293, 3) := by decide +kernel
theorem dX11_loads_34 : decode cX11_loads 34 = .ok (.ifCond .eq 6, 3) := by decide +kernel
theorem dX11_loads_37 : decode cX11_loads 37 = .ok (.iinc 4 1, 3) := by decide +kernel
theorem dX11_loads_40 : decode cX11_loads 40 = .ok (.iinc 5 1, 3) := by decide +kernel
theorem dX11_loads_43 : decode cX11_loads 43 = .ok (.goto (-24), 3) := by decide +kernel
theorem dX11_loads_46 : decode cX11_loads 46 = .ok (.iload 4, 2) := by decide +kernel
theorem dX11_loads_48 : decode cX11_loads 48 = .ok (.ireturn, 1) := by decide +kernel
theorem dX11_luck_0 : decode cX11_luck 0 = .ok (.aload_n 0, 1) := by decide +kernel
theorem dX11_luck_1 : decode cX11_luck 1 = .ok (.getfield 19, 3) := by decide +kernel
theorem dX11_luck_4 : decode cX11_luck 4 = .ok (.iload_n 3, 1) := by decide +kernel
theorem dX11_luck_5 : decode cX11_luck 5 = .ok (.invokevirtual 131, 3) := by decide +kernel
theorem dX11_luck_8 : decode cX11_luck 8 = .ok (.ifCond .eq 25, 3) := by decide +kernel
theorem dX11_luck_11 : decode cX11_luck 11 = .ok (.iload_n 1, 1) := by decide +kernel
theorem dX11_luck_12 : decode cX11_luck 12 = .ok (.ifCond .lt 21, 3) := by decide +kernel
theorem dX11_luck_15 : decode cX11_luck 15 = .ok (.iload_n 1, 1) := by decide +kernel
theorem dX11_luck_16 : decode cX11_luck 16 = .ok (.ldc_w 349, 3) := by decide +kernel
theorem dX11_luck_19 : decode cX11_luck 19 = .ok (.if_icmp .gt 14, 3) := by decide +kernel
theorem dX11_luck_22 : decode cX11_luck 22 = .ok (.iload_n 2, 1) := by decide +kernel
theorem dX11_luck_23 : decode cX11_luck 23 = .ok (.iconst 1, 1) := by decide +kernel
theorem dX11_luck_24 : decode cX11_luck 24 = .ok (.if_icmp .lt 9, 3) := by decide +kernel
theorem dX11_luck_27 : decode cX11_luck 27 = .ok (.iload_n 2, 1) := by decide +kernel
theorem dX11_luck_28 : decode cX11_luck 28 = .ok (.bipush 20, 2) := by decide +kernel
theorem dX11_luck_30 : decode cX11_luck 30 = .ok (.if_icmp .le 6, 3) := by decide +kernel
theorem dX11_luck_33 : decode cX11_luck 33 = .ok (.bipush (-2), 2) := by decide +kernel
theorem dX11_luck_35 : decode cX11_luck 35 = .ok (.ireturn, 1) := by decide +kernel
theorem dX11_luck_36 : decode cX11_luck 36 = .ok (.iconst 0, 1) := by decide +kernel
theorem dX11_luck_37 : decode cX11_luck 37 = .ok (.istore 4, 2) := by decide +kernel
theorem dX11_luck_39 : decode cX11_luck 39 = .ok (.iconst 0, 1) := by decide +kernel
theorem dX11_luck_40 : decode cX11_luck 40 = .ok (.istore 5, 2) := by decide +kernel
theorem dX11_luck_42 : decode cX11_luck 42 = .ok (.iload 5, 2) := by decide +kernel
theorem dX11_luck_44 : decode cX11_luck 44 = .ok (.iload_n 2, 1) := by decide +kernel
theorem dX11_luck_45 : decode cX11_luck 45 = .ok (.if_icmp .ge 30, 3) := by decide +kernel
theorem dX11_luck_48 : decode cX11_luck 48 = .ok (.aload_n 0, 1) := by decide +kernel
theorem dX11_luck_49 : decode cX11_luck 49 = .ok (.aload_n 0, 1) := by decide +kernel
theorem dX11_luck_50 : decode cX11_luck 50 = .ok (.iload_n 1, 1) := by decide +kernel
theorem dX11_luck_51 : decode cX11_luck 51 = .ok (.i2l, 1) := by decide +kernel
theorem dX11_luck_52 : decode cX11_luck 52 = .ok (.iload 5, 2) := by decide +kernel
theorem dX11_luck_54 : decode cX11_luck 54 = .ok (.i2l, 1) := by decide +kernel
theorem dX11_luck_55 : decode cX11_luck 55 = .ok (.ladd, 1) := by decide +kernel
theorem dX11_luck_56 : decode cX11_luck 56 = .ok (.invokevirtual 350, 3) := by decide +kernel
theorem dX11_luck_59 : decode cX11_luck 59 = .ok (.iload_n 3, 1) := by decide +kernel
theorem dX11_luck_60 : decode cX11_luck 60 = .ok (.invokevirtual 333, 3) := by decide +kernel
theorem dX11_luck_63 : decode cX11_luck 63 = .ok (.ifCond .eq 6, 3) := by decide +kernel
theorem dX11_luck_66 : decode cX11_luck 66 = .ok (.iinc 4 1, 3) := by decide +kernel
theorem dX11_luck_69 : decode cX11_luck 69 = .ok (.iinc 5 1, 3) := by decide +kernel
theorem dX11_luck_72 : decode cX11_luck 72 = .ok (.goto (-30), 3) := by decide +kernel
theorem dX11_luck_75 : decode cX11_luck 75 = .ok (.iload 4, 2) := by decide +kernel
theorem dX11_luck_77 : decode cX11_luck 77 = .ok (.ireturn, 1) := by decide +kernel
theorem dX11_mean_0 : decode cX11_mean 0 = .ok (.aload_n 0, 1) := by decide +kernel
theorem dX11_mean_1 : decode cX11_mean 1 = .ok (.getfield 19, 3) := by decide +kernel
theorem dX11_mean_4 : decode cX11_mean 4 = .ok (.iload_n 1, 1) := by decide +kernel
theorem dX11_mean_5 : decode cX11_mean 5 = .ok (.invokevirtual 131, 3) := by decide +kernel
theorem dX11_mean_8 : decode cX11_mean 8 = .ok (.ifCond .eq 12, 3) := by decide +kernel
theorem dX11_mean_11 : decode cX11_mean 11 = .ok (.iload_n 2, 1) := by decide +kernel
theorem dX11_mean_12 : decode cX11_mean 12 = .ok (.ifCond .lt 8, 3) := by decide +kernel
theorem dX11_mean_15 : decode cX11_mean 15 = .ok (.iload_n 2, 1) := by decide +kernel
theorem dX11_mean_16 : decode cX11_mean 16 = .ok (.iconst 1, 1) := by decide +kernel
theorem dX11_mean_17 : decode cX11_mean 17 = .ok (.if_icmp .le 7, 3) := by decide +kernel
theorem dX11_mean_20 : decode cX11_mean 20 = .ok (.ldc2_w 340, 3) := by decide +kernel
theorem dX11_mean_23 : decode cX11_mean 23 = .ok (.lreturn, 1) := by decide +kernel
theorem dX11_mean_24 : decode cX11_mean 24 = .ok (.lconst 0, 1) := by decide +kernel
theorem dX11_mean_25 : decode cX11_mean 25 = .ok (.lstore_n 3, 1) := by decide +kernel
theorem dX11_mean_26 : decode cX11_mean 26 = .ok (.iconst 0, 1) := by decide +kernel
theorem dX11_mean_27 : decode cX11_mean 27 = .ok (.istore 5, 2) := by decide +kernel
theorem dX11_mean_29 : decode cX11_mean 29 = .ok (.iload 5, 2) := by decide +kernel
theorem dX11_mean_31 : decode cX11_mean 31 = .ok (.iconst 1, 1) := by decide +kernel
theorem dX11_mean_32 : decode cX11_mean 32 = .ok (.aload_n 0, 1) := by decide +kernel
theorem dX11_mean_33 : decode cX11_mean 33 = .ok (.getfield 19, 3) := by decide +kernel
theorem dX11_mean_36 : decode cX11_mean 36 = .ok (.getfield 177, 3) := by decide +kernel
theorem dX11_mean_39 : decode cX11_mean 39 = .ok (.ishl, 1) := by decide +kernel
theorem dX11_mean_40 : decode cX11_mean 40 = .ok (.if_icmp .ge 52, 3) := by decide +kernel
theorem dX11_mean_43 : decode cX11_mean 43 = .ok (.aload_n 0, 1) := by decide +kernel
theorem dX11_mean_44 : decode cX11_mean 44 = .ok (.iload 5, 2) := by decide +kernel
theorem dX11_mean_46 : decode cX11_mean 46 = .ok (.invokevirtual 330, 3) := by decide +kernel
theorem dX11_mean_49 : decode cX11_mean 49 = .ok (.lstore 6, 2) := by decide +kernel
theorem dX11_mean_51 : decode cX11_mean 51 = .ok (.lload 6, 2) := by decide +kernel
theorem dX11_mean_53 : decode cX11_mean 53 = .ok (.lconst 0, 1) := by decide +kernel
theorem dX11_mean_54 : decode cX11_mean 54 = .ok (.lcmp, 1) := by decide +kernel
theorem dX11_mean_55 : decode cX11_mean 55 = .ok (.ifCond .le 31, 3) := by decide +kernel
theorem dX11_mean_58 : decode cX11_mean 58 = .ok (.aload_n 0, 1) := by decide +kernel
theorem dX11_mean_59 : decode cX11_mean 59 = .ok (.iload 5, 2) := by decide +kernel
theorem dX11_mean_61 : decode cX11_mean 61 = .ok (.invokevirtual 342, 3) := by decide +kernel
theorem dX11_mean_64 : decode cX11_mean 64 = .ok (.lload_n 3, 1) := by decide +kernel
theorem dX11_mean_65 : decode cX11_mean 65 = .ok (.lload 6, 2) := by decide +kernel
theorem dX11_mean_67 : decode cX11_mean 67 = .ok (.aload_n 0, 1) := by decide +kernel
theorem dX11_mean_68 : decode cX11_mean 68 = .ok (.getfield 49, 3) := by decide +kernel
theorem dX11_mean_71 : decode cX11_mean 71 = .ok (.invokevirtual 183, 3) := by decide +kernel
theorem dX11_mean_74 : decode cX11_mean 74 = .ok (.getfield 194, 3) := by decide +kernel
theorem dX11_mean_77 : decode cX11_mean 77 = .ok (.iload_n 1, 1) := by decide +kernel
theorem dX11_mean_78 : decode cX11_mean 78 = .ok (.aaload, 1) := by decide +kernel
theorem dX11_mean_79 : decode cX11_mean 79 = .ok (.invokevirtual 205, 3) := by decide +kernel
theorem dX11_mean_82 : decode cX11_mean 82 = .ok (.i2l, 1) := by decide +kernel
theorem dX11_mean_83 : decode cX11_mean 83 = .ok (.lmul, 1) := by decide +kernel
theorem dX11_mean_84 : decode cX11_mean 84 = .ok (.ladd, 1) := by decide +kernel
theorem dX11_mean_85 : decode cX11_mean 85 = .ok (.lstore_n 3, 1) := by decide +kernel
theorem dX11_mean_86 : decode cX11_mean 86 = .ok (.iinc 5 1, 3) := by decide +kernel
theorem dX11_mean_89 : decode cX11_mean 89 = .ok (.goto (-60), 3) := by decide +kernel
theorem dX11_mean_92 : decode cX11_mean 92 = .ok (.lload_n 3, 1) := by decide +kernel
theorem dX11_mean_93 : decode cX11_mean 93 = .ok (.bipush 10, 2) := by decide +kernel
theorem dX11_mean_95 : decode cX11_mean 95 = .ok (.aload_n 0, 1) := by decide +kernel
theorem dX11_mean_96 : decode cX11_mean 96 = .ok (.getfield 19, 3) := by decide +kernel
theorem dX11_mean_99 : decode cX11_mean 99 = .ok (.getfield 177, 3) := by decide +kernel
theorem dX11_mean_102 : decode cX11_mean 102 = .ok (.invokestatic 336, 3) := by decide +kernel
theorem dX11_mean_105 : decode cX11_mean 105 = .ok (.iload_n 2, 1) := by decide +kernel
theorem dX11_mean_106 : decode cX11_mean 106 = .ok (.invokestatic 319, 3) := by decide +kernel
theorem dX11_mean_109 : decode cX11_mean 109 = .ok (.lreturn, 1) := by decide +kernel
theorem dX11_rest_0 : decode cX11_rest 0 = .ok (.aload_n 0, 1) := by decide +kernel
theorem dX11_rest_1 : decode cX11_rest 1 = .ok (.getfield 19, 3) := by decide +kernel
theorem dX11_rest_4 : decode cX11_rest 4 = .ok (.iload_n 1, 1) := by decide +kernel
theorem dX11_rest_5 : decode cX11_rest 5 = .ok (.invokevirtual 141, 3) := by decide +kernel
theorem dX11_rest_8 : decode cX11_rest 8 = .ok (.ifCond .eq 19, 3) := by decide +kernel
theorem dX11_rest_11 : decode cX11_rest 11 = .ok (.aload_n 0, 1) := by decide +kernel
theorem dX11_rest_12 : decode cX11_rest 12 = .ok (.getfield 19, 3) := by decide +kernel
theorem dX11_rest_15 : decode cX11_rest 15 = .ok (.iload_n 2, 1) := by decide +kernel
theorem dX11_rest_16 : decode cX11_rest 16 = .ok (.invokevirtual 141, 3) := by decide +kernel
theorem dX11_rest_19 : decode cX11_rest 19 = .ok (.ifCond .eq 8, 3) := by decide +kernel
theorem dX11_rest_22 : decode cX11_rest 22 = .ok (.iload_n 1, 1) := by decide +kernel
theorem dX11_rest_23 : decode cX11_rest 23 = .ok (.iload_n 2, 1) := by decide +kernel
theorem dX11_rest_24 : decode cX11_rest 24 = .ok (.if_icmp .ne 6, 3) := by decide +kernel
theorem dX11_rest_27 : decode cX11_rest 27 = .ok (.bipush (-2), 2) := by decide +kernel
theorem dX11_rest_29 : decode cX11_rest 29 = .ok (.ireturn, 1) := by decide +kernel
theorem dX11_rest_30 : decode cX11_rest 30 = .ok (.aload_n 0, 1) := by decide +kernel
theorem dX11_rest_31 : decode cX11_rest 31 = .ok (.iload_n 1, 1) := by decide +kernel
theorem dX11_rest_32 : decode cX11_rest 32 = .ok (.iload_n 2, 1) := by decide +kernel
theorem dX11_rest_33 : decode cX11_rest 33 = .ok (.invokevirtual 323, 3) := by decide +kernel
theorem dX11_rest_36 : decode cX11_rest 36 = .ok (.iconst 0, 1) := by decide +kernel
theorem dX11_rest_37 : decode cX11_rest 37 = .ok (.istore_n 3, 1) := by decide +kernel
theorem dX11_rest_38 : decode cX11_rest 38 = .ok (.iload_n 3, 1) := by decide +kernel
theorem dX11_rest_39 : decode cX11_rest 39 = .ok (.aload_n 0, 1) := by decide +kernel
theorem dX11_rest_40 : decode cX11_rest 40 = .ok (.getfield 19, 3) := by decide +kernel
theorem dX11_rest_43 : decode cX11_rest 43 = .ok (.getfield 212, 3) := by decide +kernel
theorem dX11_rest_46 : decode cX11_rest 46 = .ok (.if_icmp .ge 48, 3) := by decide +kernel
theorem dX11_rest_49 : decode cX11_rest 49 = .ok (.iconst 0, 1) := by decide +kernel
theorem dX11_rest_50 : decode cX11_rest 50 = .ok (.istore 4, 2) := by decide +kernel
theorem dX11_rest_52 : decode cX11_rest 52 = .ok (.iload 4, 2) := by decide +kernel
theorem dX11_rest_54 : decode cX11_rest 54 = .ok (.aload_n 0, 1) := by decide +kernel
theorem dX11_rest_55 : decode cX11_rest 55 = .ok (.getfield 19, 3) := by decide +kernel
theorem dX11_rest_58 : decode cX11_rest 58 = .ok (.getfield 212, 3) := by decide +kernel
theorem dX11_rest_61 : decode cX11_rest 61 = .ok (.if_icmp .ge 27, 3) := by decide +kernel
theorem dX11_rest_64 : decode cX11_rest 64 = .ok (.aload_n 0, 1) := by decide +kernel
theorem dX11_rest_65 : decode cX11_rest 65 = .ok (.iload_n 3, 1) := by decide +kernel
theorem dX11_rest_66 : decode cX11_rest 66 = .ok (.iload 4, 2) := by decide +kernel
theorem dX11_rest_68 : decode cX11_rest 68 = .ok (.invokevirtual 327, 3) := by decide +kernel
theorem dX11_rest_71 : decode cX11_rest 71 = .ok (.ifCond .eq 11, 3) := by decide +kernel
theorem dX11_rest_74 : decode cX11_rest 74 = .ok (.bipush 10, 2) := by decide +kernel
theorem dX11_rest_76 : decode cX11_rest 76 = .ok (.iload_n 3, 1) := by decide +kernel
theorem dX11_rest_77 : decode cX11_rest 77 = .ok (.imul, 1) := by decide +kernel
theorem dX11_rest_78 : decode cX11_rest 78 = .ok (.iload 4, 2) := by decide +kernel
theorem dX11_rest_80 : decode cX11_rest 80 = .ok (.iadd, 1) := by decide +kernel
theorem dX11_rest_81 : decode cX11_rest 81 = .ok (.ireturn, 1) := by decide +kernel
theorem dX11_rest_82 : decode cX11_rest 82 = .ok (.iinc 4 1, 3) := by decide +kernel
theorem dX11_rest_85 : decode cX11_rest 85 = .ok (.goto (-33), 3) := by decide +kernel
theorem dX11_rest_88 : decode cX11_rest 88 = .ok (.iinc 3 1, 3) := by decide +kernel
theorem dX11_rest_91 : decode cX11_rest 91 = .ok (.goto (-53), 3) := by decide +kernel
theorem dX11_rest_94 : decode cX11_rest 94 = .ok (.iconst (-1), 1) := by decide +kernel
theorem dX11_rest_95 : decode cX11_rest 95 = .ok (.ireturn, 1) := by decide +kernel
theorem dX11_rests_0 : decode cX11_rests 0 = .ok (.aload_n 0, 1) := by decide +kernel
theorem dX11_rests_1 : decode cX11_rests 1 = .ok (.getfield 19, 3) := by decide +kernel
theorem dX11_rests_4 : decode cX11_rests 4 = .ok (.iload_n 1, 1) := by decide +kernel
theorem dX11_rests_5 : decode cX11_rests 5 = .ok (.invokevirtual 141, 3) := by decide +kernel
theorem dX11_rests_8 : decode cX11_rests 8 = .ok (.ifCond .eq 19, 3) := by decide +kernel
theorem dX11_rests_11 : decode cX11_rests 11 = .ok (.aload_n 0, 1) := by decide +kernel
theorem dX11_rests_12 : decode cX11_rests 12 = .ok (.getfield 19, 3) := by decide +kernel
theorem dX11_rests_15 : decode cX11_rests 15 = .ok (.iload_n 2, 1) := by decide +kernel
theorem dX11_rests_16 : decode cX11_rests 16 = .ok (.invokevirtual 141, 3) := by decide +kernel
theorem dX11_rests_19 : decode cX11_rests 19 = .ok (.ifCond .eq 8, 3) := by decide +kernel
theorem dX11_rests_22 : decode cX11_rests 22 = .ok (.iload_n 1, 1) := by decide +kernel
theorem dX11_rests_23 : decode cX11_rests 23 = .ok (.iload_n 2, 1) := by decide +kernel
theorem dX11_rests_24 : decode cX11_rests 24 = .ok (.if_icmp .ne 6, 3) := by decide +kernel
theorem dX11_rests_27 : decode cX11_rests 27 = .ok (.bipush (-2), 2) := by decide +kernel
theorem dX11_rests_29 : decode cX11_rests 29 = .ok (.ireturn, 1) := by decide +kernel
theorem dX11_rests_30 : decode cX11_rests 30 = .ok (.aload_n 0, 1) := by decide +kernel
theorem dX11_rests_31 : decode cX11_rests 31 = .ok (.iload_n 1, 1) := by decide +kernel
theorem dX11_rests_32 : decode cX11_rests 32 = .ok (.iload_n 2, 1) := by decide +kernel
theorem dX11_rests_33 : decode cX11_rests 33 = .ok (.invokevirtual 323, 3) := by decide +kernel
theorem dX11_rests_36 : decode cX11_rests 36 = .ok (.iconst 0, 1) := by decide +kernel
theorem dX11_rests_37 : decode cX11_rests 37 = .ok (.istore_n 3, 1) := by decide +kernel
theorem dX11_rests_38 : decode cX11_rests 38 = .ok (.iconst 0, 1) := by decide +kernel
theorem dX11_rests_39 : decode cX11_rests 39 = .ok (.istore 4, 2) := by decide +kernel
theorem dX11_rests_41 : decode cX11_rests 41 = .ok (.iload 4, 2) := by decide +kernel
theorem dX11_rests_43 : decode cX11_rests 43 = .ok (.aload_n 0, 1) := by decide +kernel
theorem dX11_rests_44 : decode cX11_rests 44 = .ok (.getfield 19, 3) := by decide +kernel
theorem dX11_rests_47 : decode cX11_rests 47 = .ok (.getfield 212, 3) := by decide +kernel
theorem dX11_rests_50 : decode cX11_rests 50 = .ok (.if_icmp .ge 44, 3) := by decide +kernel
theorem dX11_rests_53 : decode cX11_rests 53 = .ok (.iconst 0, 1) := by decide +kernel
theorem dX11_rests_54 : decode cX11_rests 54 = .ok (.istore 5, 2) := by decide +kernel
theorem dX11_rests_56 : decode cX11_rests 56 = .ok (.iload 5, 2) := by decide +kernel
theorem dX11_rests_58 : decode cX11_rests 58 = .ok (.aload_n 0, 1) := by decide +kernel
theorem dX11_rests_59 : decode cX11_rests 59 = .ok (.getfield 19, 3) := by decide +kernel
theorem dX11_rests_62 : decode cX11_rests 62 = .ok (.getfield 212, 3) := by decide +kernel
theorem dX11_rests_65 : decode cX11_rests 65 = .ok (.if_icmp .ge 23, 3) := by decide +kernel
theorem dX11_rests_68 : decode cX11_rests 68 = .ok (.aload_n 0, 1) := by decide +kernel
theorem dX11_rests_69 : decode cX11_rests 69 = .ok (.iload 4, 2) := by decide +kernel
theorem dX11_rests_71 : decode cX11_rests 71 = .ok (.iload 5, 2) := by decide +kernel
theorem dX11_rests_73 : decode cX11_rests 73 = .ok (.invokevirtual 327, 3) := by decide +kernel
theorem dX11_rests_76 : decode cX11_rests 76 = .ok (.ifCond .eq 6, 3) := by decide +kernel
theorem dX11_rests_79 : decode cX11_rests 79 = .ok (.iinc 3 1, 3) := by decide +kernel
theorem dX11_rests_82 : decode cX11_rests 82 = .ok (.iinc 5 1, 3) := by decide +kernel
theorem dX11_rests_85 : decode cX11_rests 85 = .ok (.goto (-29), 3) := by decide +kernel
theorem dX11_rests_88 : decode cX11_rests 88 = .ok (.iinc 4 1, 3) := by decide +kernel
theorem dX11_rests_91 : decode cX11_rests 91 = .ok (.goto (-50), 3) := by decide +kernel
theorem dX11_rests_94 : decode cX11_rests 94 = .ok (.iload_n 3, 1) := by decide +kernel
theorem dX11_rests_95 : decode cX11_rests 95 = .ok (.ireturn, 1) := by decide +kernel
theorem dX11_share_0 : decode cX11_share 0 = .ok (.aload_n 0, 1) := by decide +kernel
theorem dX11_share_1 : decode cX11_share 1 = .ok (.getfield 19, 3) := by decide +kernel
theorem dX11_share_4 : decode cX11_share 4 = .ok (.iload_n 1, 1) := by decide +kernel
theorem dX11_share_5 : decode cX11_share 5 = .ok (.invokevirtual 141, 3) := by decide +kernel
theorem dX11_share_8 : decode cX11_share 8 = .ok (.ifCond .eq 12, 3) := by decide +kernel
theorem dX11_share_11 : decode cX11_share 11 = .ok (.iload_n 2, 1) := by decide +kernel
theorem dX11_share_12 : decode cX11_share 12 = .ok (.ifCond .lt 8, 3) := by decide +kernel
theorem dX11_share_15 : decode cX11_share 15 = .ok (.iload_n 2, 1) := by decide +kernel
theorem dX11_share_16 : decode cX11_share 16 = .ok (.iconst 1, 1) := by decide +kernel
theorem dX11_share_17 : decode cX11_share 17 = .ok (.if_icmp .le 6, 3) := by decide +kernel
theorem dX11_share_20 : decode cX11_share 20 = .ok (.bipush (-2), 2) := by decide +kernel
theorem dX11_share_22 : decode cX11_share 22 = .ok (.ireturn, 1) := by decide +kernel
theorem dX11_share_23 : decode cX11_share 23 = .ok (.lconst 0, 1) := by decide +kernel
theorem dX11_share_24 : decode cX11_share 24 = .ok (.lstore_n 3, 1) := by decide +kernel
theorem dX11_share_25 : decode cX11_share 25 = .ok (.iconst 0, 1) := by decide +kernel
theorem dX11_share_26 : decode cX11_share 26 = .ok (.istore 5, 2) := by decide +kernel
theorem dX11_share_28 : decode cX11_share 28 = .ok (.iload 5, 2) := by decide +kernel
theorem dX11_share_30 : decode cX11_share 30 = .ok (.iconst 1, 1) := by decide +kernel
theorem dX11_share_31 : decode cX11_share 31 = .ok (.aload_n 0, 1) := by decide +kernel
theorem dX11_share_32 : decode cX11_share 32 = .ok (.getfield 19, 3) := by decide +kernel
theorem dX11_share_35 : decode cX11_share 35 = .ok (.getfield 177, 3) := by decide +kernel
theorem dX11_share_38 : decode cX11_share 38 = .ok (.ishl, 1) := by decide +kernel
theorem dX11_share_39 : decode cX11_share 39 = .ok (.if_icmp .ge 72, 3) := by decide +kernel
theorem dX11_share_42 : decode cX11_share 42 = .ok (.iload 5, 2) := by decide +kernel
theorem dX11_share_44 : decode cX11_share 44 = .ok (.iload_n 1, 1) := by decide +kernel
theorem dX11_share_45 : decode cX11_share 45 = .ok (.ishr, 1) := by decide +kernel
theorem dX11_share_46 : decode cX11_share 46 = .ok (.iconst 1, 1) := by decide +kernel
theorem dX11_share_47 : decode cX11_share 47 = .ok (.iand, 1) := by decide +kernel
theorem dX11_share_48 : decode cX11_share 48 = .ok (.ifCond .ne 57, 3) := by decide +kernel
theorem dX11_share_51 : decode cX11_share 51 = .ok (.iload 5, 2) := by decide +kernel
theorem dX11_share_53 : decode cX11_share 53 = .ok (.invokestatic 307, 3) := by decide +kernel
theorem dX11_share_56 : decode cX11_share 56 = .ok (.istore 6, 2) := by decide +kernel
theorem dX11_share_58 : decode cX11_share 58 = .ok (.iload 6, 2) := by decide +kernel
theorem dX11_share_60 : decode cX11_share 60 = .ok (.invokestatic 312, 3) := by decide +kernel
theorem dX11_share_63 : decode cX11_share 63 = .ok (.aload_n 0, 1) := by decide +kernel
theorem dX11_share_64 : decode cX11_share 64 = .ok (.getfield 19, 3) := by decide +kernel
theorem dX11_share_67 : decode cX11_share 67 = .ok (.getfield 177, 3) := by decide +kernel
theorem dX11_share_70 : decode cX11_share 70 = .ok (.iconst 1, 1) := by decide +kernel
theorem dX11_share_71 : decode cX11_share 71 = .ok (.isub, 1) := by decide +kernel
theorem dX11_share_72 : decode cX11_share 72 = .ok (.iload 6, 2) := by decide +kernel
theorem dX11_share_74 : decode cX11_share 74 = .ok (.isub, 1) := by decide +kernel
theorem dX11_share_75 : decode cX11_share 75 = .ok (.invokestatic 312, 3) := by decide +kernel
theorem dX11_share_78 : decode cX11_share 78 = .ok (.lmul, 1) := by decide +kernel
theorem dX11_share_79 : decode cX11_share 79 = .ok (.lstore 7, 2) := by decide +kernel
theorem dX11_share_81 : decode cX11_share 81 = .ok (.lload_n 3, 1) := by decide +kernel
theorem dX11_share_82 : decode cX11_share 82 = .ok (.lload 7, 2) := by decide +kernel
theorem dX11_share_84 : decode cX11_share 84 = .ok (.aload_n 0, 1) := by decide +kernel
theorem dX11_share_85 : decode cX11_share 85 = .ok (.iload 5, 2) := by decide +kernel
theorem dX11_share_87 : decode cX11_share 87 = .ok (.iconst 1, 1) := by decide +kernel
theorem dX11_share_88 : decode cX11_share 88 = .ok (.iload_n 1, 1) := by decide +kernel
theorem dX11_share_89 : decode cX11_share 89 = .ok (.ishl, 1) := by decide +kernel
theorem dX11_share_90 : decode cX11_share 90 = .ok (.ior, 1) := by decide +kernel
theorem dX11_share_91 : decode cX11_share 91 = .ok (.invokevirtual 316, 3) := by decide +kernel
theorem dX11_share_94 : decode cX11_share 94 = .ok (.aload_n 0, 1) := by decide +kernel
theorem dX11_share_95 : decode cX11_share 95 = .ok (.iload 5, 2) := by decide +kernel
theorem dX11_share_97 : decode cX11_share 97 = .ok (.invokevirtual 316, 3) := by decide +kernel
theorem dX11_share_100 : decode cX11_share 100 = .ok (.isub, 1) := by decide +kernel
theorem dX11_share_101 : decode cX11_share 101 = .ok (.i2l, 1) := by decide +kernel
theorem dX11_share_102 : decode cX11_share 102 = .ok (.lmul, 1) := by decide +kernel
theorem dX11_share_103 : decode cX11_share 103 = .ok (.ladd, 1) := by decide +kernel
theorem dX11_share_104 : decode cX11_share 104 = .ok (.lstore_n 3, 1) := by decide +kernel
theorem dX11_share_105 : decode cX11_share 105 = .ok (.iinc 5 1, 3) := by decide +kernel
theorem dX11_share_108 : decode cX11_share 108 = .ok (.goto (-80), 3) := by decide +kernel
theorem dX11_share_111 : decode cX11_share 111 = .ok (.lload_n 3, 1) := by decide +kernel
theorem dX11_share_112 : decode cX11_share 112 = .ok (.aload_n 0, 1) := by decide +kernel
theorem dX11_share_113 : decode cX11_share 113 = .ok (.getfield 19, 3) := by decide +kernel
theorem dX11_share_116 : decode cX11_share 116 = .ok (.getfield 177, 3) := by decide +kernel
theorem dX11_share_119 : decode cX11_share 119 = .ok (.invokestatic 312, 3) := by decide +kernel
theorem dX11_share_122 : decode cX11_share 122 = .ok (.iload_n 2, 1) := by decide +kernel
theorem dX11_share_123 : decode cX11_share 123 = .ok (.invokestatic 319, 3) := by decide +kernel
theorem dX11_share_126 : decode cX11_share 126 = .ok (.l2i, 1) := by decide +kernel
theorem dX11_share_127 : decode cX11_share 127 = .ok (.ireturn, 1) := by decide +kernel
