theorem dX12_bridgeHere_0 : decode cX12_bridgeHere 0 = .ok (.aload_n 0, 1) := by decide +kernel
theorem dX12_bridgeHere_1 : decode cX12_bridgeHere 1 = .ok (.iconst 0, 1) := by decide +kernel
theorem dX12_bridgeHere_2 : decode cX12_bridgeHere 2 = .ok (.aload_n 0, 1) := by decide +kernel
theorem dX12_bridgeHere_3 : decode cX12_bridgeHere 3 = .ok (.iconst 3, 1) := by decide +kernel
theorem dX12_bridgeHere_4 : decode cX12_bridgeHere 4 = .ok (.invokevirtual 198, 3) := by decide +kernel
theorem dX12_bridgeHere_7 : decode cX12_bridgeHere 7 = .ok (.iconst 1, 1) := by decide +kernel
theorem dX12_bridgeHere_8 : decode cX12_bridgeHere 8 = .ok (.isub, 1) := by decide +kernel
theorem dX12_bridgeHere_9 : decode cX12_bridgeHere 9 = .ok (.invokevirtual 191, 3) := by decide +kernel
theorem dX12_bridgeHere_12 : decode cX12_bridgeHere 12 = .ok (.ireturn, 1) := by decide +kernel
theorem dX12_bridgeLine_0 : decode cX12_bridgeLine 0 = .ok (.iconst 2, 1) := by decide +kernel
theorem dX12_bridgeLine_1 : decode cX12_bridgeLine 1 = .ok (.bipush 12, 2) := by decide +kernel
theorem dX12_bridgeLine_3 : decode cX12_bridgeLine 3 = .ok (.aload_n 0, 1) := by decide +kernel
theorem dX12_bridgeLine_4 : decode cX12_bridgeLine 4 = .ok (.iconst 3, 1) := by decide +kernel
theorem dX12_bridgeLine_5 : decode cX12_bridgeLine 5 = .ok (.invokevirtual 198, 3) := by decide +kernel
theorem dX12_bridgeLine_8 : decode cX12_bridgeLine 8 = .ok (.iadd, 1) := by decide +kernel
theorem dX12_bridgeLine_9 : decode cX12_bridgeLine 9 = .ok (.imul, 1) := by decide +kernel
theorem dX12_bridgeLine_10 : decode cX12_bridgeLine 10 = .ok (.istore_n 1, 1) := by decide +kernel
theorem dX12_bridgeLine_11 : decode cX12_bridgeLine 11 = .ok (.aload_n 0, 1) := by decide +kernel
theorem dX12_bridgeLine_12 : decode cX12_bridgeLine 12 = .ok (.getfield 37, 3) := by decide +kernel
theorem dX12_bridgeLine_15 : decode cX12_bridgeLine 15 = .ok (.iload_n 1, 1) := by decide +kernel
theorem dX12_bridgeLine_16 : decode cX12_bridgeLine 16 = .ok (.aload_n 0, 1) := by decide +kernel
theorem dX12_bridgeLine_17 : decode cX12_bridgeLine 17 = .ok (.ldc2_w 202, 3) := by decide +kernel
theorem dX12_bridgeLine_20 : decode cX12_bridgeLine 20 = .ok (.iconst 1, 1) := by decide +kernel
theorem dX12_bridgeLine_21 : decode cX12_bridgeLine 21 = .ok (.sipush 300, 3) := by decide +kernel
theorem dX12_bridgeLine_24 : decode cX12_bridgeLine 24 = .ok (.invokevirtual 204, 3) := by decide +kernel
theorem dX12_bridgeLine_27 : decode cX12_bridgeLine 27 = .ok (.iastore, 1) := by decide +kernel
theorem dX12_bridgeLine_28 : decode cX12_bridgeLine 28 = .ok (.aload_n 0, 1) := by decide +kernel
theorem dX12_bridgeLine_29 : decode cX12_bridgeLine 29 = .ok (.getfield 37, 3) := by decide +kernel
theorem dX12_bridgeLine_32 : decode cX12_bridgeLine 32 = .ok (.iload_n 1, 1) := by decide +kernel
theorem dX12_bridgeLine_33 : decode cX12_bridgeLine 33 = .ok (.iconst 1, 1) := by decide +kernel
theorem dX12_bridgeLine_34 : decode cX12_bridgeLine 34 = .ok (.iadd, 1) := by decide +kernel
theorem dX12_bridgeLine_35 : decode cX12_bridgeLine 35 = .ok (.aload_n 0, 1) := by decide +kernel
theorem dX12_bridgeLine_36 : decode cX12_bridgeLine 36 = .ok (.ldc2_w 207, 3) := by decide +kernel
theorem dX12_bridgeLine_39 : decode cX12_bridgeLine 39 = .ok (.iconst 0, 1) := by decide +kernel
theorem dX12_bridgeLine_40 : decode cX12_bridgeLine 40 = .ok (.bipush 9, 2) := by decide +kernel
theorem dX12_bridgeLine_42 : decode cX12_bridgeLine 42 = .ok (.invokevirtual 204, 3) := by decide +kernel
theorem dX12_bridgeLine_45 : decode cX12_bridgeLine 45 = .ok (.iastore, 1) := by decide +kernel
theorem dX12_bridgeLine_46 : decode cX12_bridgeLine 46 = .ok (.aload_n 0, 1) := by decide +kernel
theorem dX12_bridgeLine_47 : decode cX12_bridgeLine 47 = .ok (.iconst 3, 1) := by decide +kernel
theorem dX12_bridgeLine_48 : decode cX12_bridgeLine 48 = .ok (.aload_n 0, 1) := by decide +kernel
theorem dX12_bridgeLine_49 : decode cX12_bridgeLine 49 = .ok (.iconst 3, 1) := by decide +kernel
theorem dX12_bridgeLine_50 : decode cX12_bridgeLine 50 = .ok (.invokevirtual 198, 3) := by decide +kernel
theorem dX12_bridgeLine_53 : decode cX12_bridgeLine 53 = .ok (.iconst 1, 1) := by decide +kernel
theorem dX12_bridgeLine_54 : decode cX12_bridgeLine 54 = .ok (.iadd, 1) := by decide +kernel
theorem dX12_bridgeLine_55 : decode cX12_bridgeLine 55 = .ok (.invokevirtual 209, 3) := by decide +kernel
theorem dX12_bridgeLine_58 : decode cX12_bridgeLine 58 = .ok (.return_, 1) := by decide +kernel
theorem dX12_cartLine_0 : decode cX12_cartLine 0 = .ok (.iconst 2, 1) := by decide +kernel
theorem dX12_cartLine_1 : decode cX12_cartLine 1 = .ok (.bipush 28, 2) := by decide +kernel
theorem dX12_cartLine_3 : decode cX12_cartLine 3 = .ok (.aload_n 0, 1) := by decide +kernel
theorem dX12_cartLine_4 : decode cX12_cartLine 4 = .ok (.iconst 4, 1) := by decide +kernel
theorem dX12_cartLine_5 : decode cX12_cartLine 5 = .ok (.invokevirtual 198, 3) := by decide +kernel
theorem dX12_cartLine_8 : decode cX12_cartLine 8 = .ok (.iadd, 1) := by decide +kernel
theorem dX12_cartLine_9 : decode cX12_cartLine 9 = .ok (.imul, 1) := by decide +kernel
theorem dX12_cartLine_10 : decode cX12_cartLine 10 = .ok (.istore_n 1, 1) := by decide +kernel
theorem dX12_cartLine_11 : decode cX12_cartLine 11 = .ok (.aload_n 0, 1) := by decide +kernel
theorem dX12_cartLine_12 : decode cX12_cartLine 12 = .ok (.getfield 40, 3) := by decide +kernel
theorem dX12_cartLine_15 : decode cX12_cartLine 15 = .ok (.iload_n 1, 1) := by decide +kernel
theorem dX12_cartLine_16 : decode cX12_cartLine 16 = .ok (.aload_n 0, 1) := by decide +kernel
theorem dX12_cartLine_17 : decode cX12_cartLine 17 = .ok (.iconst 1, 1) := by decide +kernel
theorem dX12_cartLine_18 : decode cX12_cartLine 18 = .ok (.bipush 99, 2) := by decide +kernel
theorem dX12_cartLine_20 : decode cX12_cartLine 20 = .ok (.invokevirtual 191, 3) := by decide +kernel
theorem dX12_cartLine_23 : decode cX12_cartLine 23 = .ok (.iastore, 1) := by decide +kernel
theorem dX12_cartLine_24 : decode cX12_cartLine 24 = .ok (.aload_n 0, 1) := by decide +kernel
theorem dX12_cartLine_25 : decode cX12_cartLine 25 = .ok (.ldc2_w 213, 3) := by decide +kernel
theorem dX12_cartLine_28 : decode cX12_cartLine 28 = .ok (.invokevirtual 187, 3) := by decide +kernel
theorem dX12_cartLine_31 : decode cX12_cartLine 31 = .ok (.aload_n 0, 1) := by decide +kernel
theorem dX12_cartLine_32 : decode cX12_cartLine 32 = .ok (.getfield 40, 3) := by decide +kernel
theorem dX12_cartLine_35 : decode cX12_cartLine 35 = .ok (.iload_n 1, 1) := by decide +kernel
theorem dX12_cartLine_36 : decode cX12_cartLine 36 = .ok (.iconst 1, 1) := by decide +kernel
theorem dX12_cartLine_37 : decode cX12_cartLine 37 = .ok (.iadd, 1) := by decide +kernel
theorem dX12_cartLine_38 : decode cX12_cartLine 38 = .ok (.aload_n 0, 1) := by decide +kernel
theorem dX12_cartLine_39 : decode cX12_cartLine 39 = .ok (.invokevirtual 215, 3) := by decide +kernel
theorem dX12_cartLine_42 : decode cX12_cartLine 42 = .ok (.iastore, 1) := by decide +kernel
theorem dX12_cartLine_43 : decode cX12_cartLine 43 = .ok (.aload_n 0, 1) := by decide +kernel
theorem dX12_cartLine_44 : decode cX12_cartLine 44 = .ok (.iconst 4, 1) := by decide +kernel
theorem dX12_cartLine_45 : decode cX12_cartLine 45 = .ok (.aload_n 0, 1) := by decide +kernel
theorem dX12_cartLine_46 : decode cX12_cartLine 46 = .ok (.iconst 4, 1) := by decide +kernel
theorem dX12_cartLine_47 : decode cX12_cartLine 47 = .ok (.invokevirtual 198, 3) := by decide +kernel
theorem dX12_cartLine_50 : decode cX12_cartLine 50 = .ok (.iconst 1, 1) := by decide +kernel
theorem dX12_cartLine_51 : decode cX12_cartLine 51 = .ok (.iadd, 1) := by decide +kernel
theorem dX12_cartLine_52 : decode cX12_cartLine 52 = .ok (.invokevirtual 209, 3) := by decide +kernel
theorem dX12_cartLine_55 : decode cX12_cartLine 55 = .ok (.return_, 1) := by decide +kernel
theorem dX12_clears_0 : decode cX12_clears 0 = .ok (.aload_n 0, 1) := by decide +kernel
theorem dX12_clears_1 : decode cX12_clears 1 = .ok (.getfield 31, 3) := by decide +kernel
theorem dX12_clears_4 : decode cX12_clears 4 = .ok (.iconst 4, 1) := by decide +kernel
theorem dX12_clears_5 : decode cX12_clears 5 = .ok (.iconst 0, 1) := by decide +kernel
theorem dX12_clears_6 : decode cX12_clears 6 = .ok (.iastore, 1) := by decide +kernel
theorem dX12_clears_7 : decode cX12_clears 7 = .ok (.iconst 0, 1) := by decide +kernel
theorem dX12_clears_8 : decode cX12_clears 8 = .ok (.istore_n 1, 1) := by decide +kernel
theorem dX12_clears_9 : decode cX12_clears 9 = .ok (.iload_n 1, 1) := by decide +kernel
theorem dX12_clears_10 : decode cX12_clears 10 = .ok (.bipush 8, 2) := by decide +kernel
theorem dX12_clears_12 : decode cX12_clears 12 = .ok (.if_icmp .ge 15, 3) := by decide +kernel
theorem dX12_clears_15 : decode cX12_clears 15 = .ok (.aload_n 0, 1) := by decide +kernel
theorem dX12_clears_16 : decode cX12_clears 16 = .ok (.iload_n 1, 1) := by decide +kernel
theorem dX12_clears_17 : decode cX12_clears 17 = .ok (.iconst 0, 1) := by decide +kernel
theorem dX12_clears_18 : decode cX12_clears 18 = .ok (.invokevirtual 209, 3) := by decide +kernel
theorem dX12_clears_21 : decode cX12_clears 21 = .ok (.iinc 1 1, 3) := by decide +kernel
theorem dX12_clears_24 : decode cX12_clears 24 = .ok (.goto (-15), 3) := by decide +kernel
theorem dX12_clears_27 : decode cX12_clears 27 = .ok (.return_, 1) := by decide +kernel
theorem dX12_frostLine_0 : decode cX12_frostLine 0 = .ok (.aload_n 0, 1) := by decide +kernel
theorem dX12_frostLine_1 : decode cX12_frostLine 1 = .ok (.getfield 46, 3) := by decide +kernel
theorem dX12_frostLine_4 : decode cX12_frostLine 4 = .ok (.bipush 16, 2) := by decide +kernel
theorem dX12_frostLine_6 : decode cX12_frostLine 6 = .ok (.aload_n 0, 1) := by decide +kernel
theorem dX12_frostLine_7 : decode cX12_frostLine 7 = .ok (.bipush 6, 2) := by decide +kernel
theorem dX12_frostLine_9 : decode cX12_frostLine 9 = .ok (.invokevirtual 198, 3) := by decide +kernel
theorem dX12_frostLine_12 : decode cX12_frostLine 12 = .ok (.iadd, 1) := by decide +kernel
theorem dX12_frostLine_13 : decode cX12_frostLine 13 = .ok (.aload_n 0, 1) := by decide +kernel
theorem dX12_frostLine_14 : decode cX12_frostLine 14 = .ok (.ldc2_w 225, 3) := by decide +kernel
theorem dX12_frostLine_17 : decode cX12_frostLine 17 = .ok (.iconst 0, 1) := by decide +kernel
theorem dX12_frostLine_18 : decode cX12_frostLine 18 = .ok (.bipush 6, 2) := by decide +kernel
theorem dX12_frostLine_20 : decode cX12_frostLine 20 = .ok (.invokevirtual 204, 3) := by decide +kernel
theorem dX12_frostLine_23 : decode cX12_frostLine 23 = .ok (.iastore, 1) := by decide +kernel
theorem dX12_frostLine_24 : decode cX12_frostLine 24 = .ok (.aload_n 0, 1) := by decide +kernel
theorem dX12_frostLine_25 : decode cX12_frostLine 25 = .ok (.bipush 6, 2) := by decide +kernel
theorem dX12_frostLine_27 : decode cX12_frostLine 27 = .ok (.aload_n 0, 1) := by decide +kernel
theorem dX12_frostLine_28 : decode cX12_frostLine 28 = .ok (.bipush 6, 2) := by decide +kernel
theorem dX12_frostLine_30 : decode cX12_frostLine 30 = .ok (.invokevirtual 198, 3) := by decide +kernel
theorem dX12_frostLine_33 : decode cX12_frostLine 33 = .ok (.iconst 1, 1) := by decide +kernel
theorem dX12_frostLine_34 : decode cX12_frostLine 34 = .ok (.iadd, 1) := by decide +kernel
theorem dX12_frostLine_35 : decode cX12_frostLine 35 = .ok (.invokevirtual 209, 3) := by decide +kernel
theorem dX12_frostLine_38 : decode cX12_frostLine 38 = .ok (.return_, 1) := by decide +kernel
theorem dX12_isRoom_0 : decode cX12_isRoom 0 = .ok (.iload_n 1, 1) := by decide +kernel
theorem dX12_isRoom_1 : decode cX12_isRoom 1 = .ok (.ifCond .eq 17, 3) := by decide +kernel
theorem dX12_isRoom_4 : decode cX12_isRoom 4 = .ok (.aload_n 0, 1) := by decide +kernel
theorem dX12_isRoom_5 : decode cX12_isRoom 5 = .ok (.iload_n 2, 1) := by decide +kernel
theorem dX12_isRoom_6 : decode cX12_isRoom 6 = .ok (.invokevirtual 198, 3) := by decide +kernel
theorem dX12_isRoom_9 : decode cX12_isRoom 9 = .ok (.iload_n 3, 1) := by decide +kernel
theorem dX12_isRoom_10 : decode cX12_isRoom 10 = .ok (.if_icmp .ne 8, 3) := by decide +kernel
theorem dX12_isRoom_13 : decode cX12_isRoom 13 = .ok (.aload_n 0, 1) := by decide +kernel
theorem dX12_isRoom_14 : decode cX12_isRoom 14 = .ok (.iconst 3, 1) := by decide +kernel
theorem dX12_isRoom_15 : decode cX12_isRoom 15 = .ok (.invokevirtual 184, 3) := by decide +kernel
theorem dX12_isRoom_18 : decode cX12_isRoom 18 = .ok (.iload_n 1, 1) := by decide +kernel
theorem dX12_isRoom_19 : decode cX12_isRoom 19 = .ok (.ifCond .eq 14, 3) := by decide +kernel
theorem dX12_isRoom_22 : decode cX12_isRoom 22 = .ok (.aload_n 0, 1) := by decide +kernel
theorem dX12_isRoom_23 : decode cX12_isRoom 23 = .ok (.getfield 168, 3) := by decide +kernel
theorem dX12_isRoom_26 : decode cX12_isRoom 26 = .ok (.ifCond .ne 7, 3) := by decide +kernel
theorem dX12_isRoom_29 : decode cX12_isRoom 29 = .ok (.aload_n 0, 1) := by decide +kernel
theorem dX12_isRoom_30 : decode cX12_isRoom 30 = .ok (.invokevirtual 178, 3) := by decide +kernel
theorem dX12_isRoom_33 : decode cX12_isRoom 33 = .ok (.iload_n 1, 1) := by decide +kernel
theorem dX12_isRoom_34 : decode cX12_isRoom 34 = .ok (.ifCond .eq 14, 3) := by decide +kernel
theorem dX12_isRoom_37 : decode cX12_isRoom 37 = .ok (.aload_n 0, 1) := by decide +kernel
theorem dX12_isRoom_38 : decode cX12_isRoom 38 = .ok (.getfield 168, 3) := by decide +kernel
theorem dX12_isRoom_41 : decode cX12_isRoom 41 = .ok (.ifCond .ne 7, 3) := by decide +kernel
theorem dX12_isRoom_44 : decode cX12_isRoom 44 = .ok (.iconst 1, 1) := by decide +kernel
theorem dX12_isRoom_45 : decode cX12_isRoom 45 = .ok (.goto 4, 3) := by decide +kernel
theorem dX12_isRoom_48 : decode cX12_isRoom 48 = .ok (.iconst 0, 1) := by decide +kernel
theorem dX12_isRoom_49 : decode cX12_isRoom 49 = .ok (.ireturn, 1) := by decide +kernel
theorem dX12_lineHere_0 : decode cX12_lineHere 0 = .ok (.aload_n 0, 1) := by decide +kernel
theorem dX12_lineHere_1 : decode cX12_lineHere 1 = .ok (.aload_n 0, 1) := by decide +kernel
theorem dX12_lineHere_2 : decode cX12_lineHere 2 = .ok (.ldc2_w 227, 3) := by decide +kernel
theorem dX12_lineHere_5 : decode cX12_lineHere 5 = .ok (.invokevirtual 174, 3) := by decide +kernel
theorem dX12_lineHere_8 : decode cX12_lineHere 8 = .ok (.iconst 3, 1) := by decide +kernel
theorem dX12_lineHere_9 : decode cX12_lineHere 9 = .ok (.iconst 3, 1) := by decide +kernel
theorem dX12_lineHere_10 : decode cX12_lineHere 10 = .ok (.invokevirtual 229, 3) := by decide +kernel
theorem dX12_lineHere_13 : decode cX12_lineHere 13 = .ok (.ifCond .eq 10, 3) := by decide +kernel
theorem dX12_lineHere_16 : decode cX12_lineHere 16 = .ok (.aload_n 0, 1) := by decide +kernel
theorem dX12_lineHere_17 : decode cX12_lineHere 17 = .ok (.invokevirtual 233, 3) := by decide +kernel
theorem dX12_lineHere_20 : decode cX12_lineHere 20 = .ok (.goto 107, 3) := by decide +kernel
theorem dX12_lineHere_23 : decode cX12_lineHere 23 = .ok (.aload_n 0, 1) := by decide +kernel
theorem dX12_lineHere_24 : decode cX12_lineHere 24 = .ok (.getfield 168, 3) := by decide +kernel
theorem dX12_lineHere_27 : decode cX12_lineHere 27 = .ok (.ifCond .ne 27, 3) := by decide +kernel
theorem dX12_lineHere_30 : decode cX12_lineHere 30 = .ok (.aload_n 0, 1) := by decide +kernel
theorem dX12_lineHere_31 : decode cX12_lineHere 31 = .ok (.aload_n 0, 1) := by decide +kernel
theorem dX12_lineHere_32 : decode cX12_lineHere 32 = .ok (.ldc2_w 236, 3) := by decide +kernel
theorem dX12_lineHere_35 : decode cX12_lineHere 35 = .ok (.invokevirtual 174, 3) := by decide +kernel
theorem dX12_lineHere_38 : decode cX12_lineHere 38 = .ok (.iconst 4, 1) := by decide +kernel
theorem dX12_lineHere_39 : decode cX12_lineHere 39 = .ok (.bipush 7, 2) := by decide +kernel
theorem dX12_lineHere_41 : decode cX12_lineHere 41 = .ok (.invokevirtual 229, 3) := by decide +kernel
theorem dX12_lineHere_44 : decode cX12_lineHere 44 = .ok (.ifCond .eq 10, 3) := by decide +kernel
theorem dX12_lineHere_47 : decode cX12_lineHere 47 = .ok (.aload_n 0, 1) := by decide +kernel
theorem dX12_lineHere_48 : decode cX12_lineHere 48 = .ok (.invokevirtual 238, 3) := by decide +kernel
theorem dX12_lineHere_51 : decode cX12_lineHere 51 = .ok (.goto 76, 3) := by decide +kernel
theorem dX12_lineHere_54 : decode cX12_lineHere 54 = .ok (.aload_n 0, 1) := by decide +kernel
theorem dX12_lineHere_55 : decode cX12_lineHere 55 = .ok (.getfield 168, 3) := by decide +kernel
theorem dX12_lineHere_58 : decode cX12_lineHere 58 = .ok (.ifCond .ne 26, 3) := by decide +kernel
theorem dX12_lineHere_61 : decode cX12_lineHere 61 = .ok (.aload_n 0, 1) := by decide +kernel
theorem dX12_lineHere_62 : decode cX12_lineHere 62 = .ok (.aload_n 0, 1) := by decide +kernel
theorem dX12_lineHere_63 : decode cX12_lineHere 63 = .ok (.ldc2_w 241, 3) := by decide +kernel
theorem dX12_lineHere_66 : decode cX12_lineHere 66 = .ok (.invokevirtual 174, 3) := by decide +kernel
theorem dX12_lineHere_69 : decode cX12_lineHere 69 = .ok (.iconst 5, 1) := by decide +kernel
theorem dX12_lineHere_70 : decode cX12_lineHere 70 = .ok (.iconst 5, 1) := by decide +kernel
theorem dX12_lineHere_71 : decode cX12_lineHere 71 = .ok (.invokevirtual 229, 3) := by decide +kernel
theorem dX12_lineHere_74 : decode cX12_lineHere 74 = .ok (.ifCond .eq 10, 3) := by decide +kernel
theorem dX12_lineHere_77 : decode cX12_lineHere 77 = .ok (.aload_n 0, 1) := by decide +kernel
theorem dX12_lineHere_78 : decode cX12_lineHere 78 = .ok (.invokevirtual 243, 3) := by decide +kernel
theorem dX12_lineHere_81 : decode cX12_lineHere 81 = .ok (.goto 46, 3) := by decide +kernel
theorem dX12_lineHere_84 : decode cX12_lineHere 84 = .ok (.aload_n 0, 1) := by decide +kernel
theorem dX12_lineHere_85 : decode cX12_lineHere 85 = .ok (.getfield 168, 3) := by decide +kernel
theorem dX12_lineHere_88 : decode cX12_lineHere 88 = .ok (.ifCond .ne 27, 3) := by decide +kernel
theorem dX12_lineHere_91 : decode cX12_lineHere 91 = .ok (.aload_n 0, 1) := by decide +kernel
theorem dX12_lineHere_92 : decode cX12_lineHere 92 = .ok (.aload_n 0, 1) := by decide +kernel
theorem dX12_lineHere_93 : decode cX12_lineHere 93 = .ok (.ldc2_w 246, 3) := by decide +kernel
theorem dX12_lineHere_96 : decode cX12_lineHere 96 = .ok (.invokevirtual 174, 3) := by decide +kernel
theorem dX12_lineHere_99 : decode cX12_lineHere 99 = .ok (.bipush 6, 2) := by decide +kernel
theorem dX12_lineHere_101 : decode cX12_lineHere 101 = .ok (.iconst 4, 1) := by decide +kernel
theorem dX12_lineHere_102 : decode cX12_lineHere 102 = .ok (.invokevirtual 229, 3) := by decide +kernel
theorem dX12_lineHere_105 : decode cX12_lineHere 105 = .ok (.ifCond .eq 10, 3) := by decide +kernel
theorem dX12_lineHere_108 : decode cX12_lineHere 108 = .ok (.aload_n 0, 1) := by decide +kernel
theorem dX12_lineHere_109 : decode cX12_lineHere 109 = .ok (.invokevirtual 248, 3) := by decide +kernel
theorem dX12_lineHere_112 : decode cX12_lineHere 112 = .ok (.goto 15, 3) := by decide +kernel
theorem dX12_lineHere_115 : decode cX12_lineHere 115 = .ok (.aload_n 0, 1) := by decide +kernel
theorem dX12_lineHere_116 : decode cX12_lineHere 116 = .ok (.getfield 168, 3) := by decide +kernel
theorem dX12_lineHere_119 : decode cX12_lineHere 119 = .ok (.ifCond .ne 8, 3) := by decide +kernel
theorem dX12_lineHere_122 : decode cX12_lineHere 122 = .ok (.aload_n 0, 1) := by decide +kernel
theorem dX12_lineHere_123 : decode cX12_lineHere 123 = .ok (.iconst 1, 1) := by decide +kernel
theorem dX12_lineHere_124 : decode cX12_lineHere 124 = .ok (.invokevirtual 184, 3) := by decide +kernel
theorem dX12_lineHere_127 : decode cX12_lineHere 127 = .ok (.return_, 1) := by decide +kernel
theorem dX12_wardLine_0 : decode cX12_wardLine 0 = .ok (.iconst 3, 1) := by decide +kernel
theorem dX12_wardLine_1 : decode cX12_wardLine 1 = .ok (.bipush 20, 2) := by decide +kernel
theorem dX12_wardLine_3 : decode cX12_wardLine 3 = .ok (.aload_n 0, 1) := by decide +kernel
theorem dX12_wardLine_4 : decode cX12_wardLine 4 = .ok (.iconst 5, 1) := by decide +kernel
theorem dX12_wardLine_5 : decode cX12_wardLine 5 = .ok (.invokevirtual 198, 3) := by decide +kernel
theorem dX12_wardLine_8 : decode cX12_wardLine 8 = .ok (.iadd, 1) := by decide +kernel
theorem dX12_wardLine_9 : decode cX12_wardLine 9 = .ok (.imul, 1) := by decide +kernel
theorem dX12_wardLine_10 : decode cX12_wardLine 10 = .ok (.istore_n 1, 1) := by decide +kernel
theorem dX12_wardLine_11 : decode cX12_wardLine 11 = .ok (.aload_n 0, 1) := by decide +kernel
theorem dX12_wardLine_12 : decode cX12_wardLine 12 = .ok (.getfield 43, 3) := by decide +kernel
theorem dX12_wardLine_15 : decode cX12_wardLine 15 = .ok (.iload_n 1, 1) := by decide +kernel
theorem dX12_wardLine_16 : decode cX12_wardLine 16 = .ok (.aload_n 0, 1) := by decide +kernel
theorem dX12_wardLine_17 : decode cX12_wardLine 17 = .ok (.invokevirtual 215, 3) := by decide +kernel
theorem dX12_wardLine_20 : decode cX12_wardLine 20 = .ok (.iastore, 1) := by decide +kernel
theorem dX12_wardLine_21 : decode cX12_wardLine 21 = .ok (.aload_n 0, 1) := by decide +kernel
theorem dX12_wardLine_22 : decode cX12_wardLine 22 = .ok (.getfield 43, 3) := by decide +kernel
theorem dX12_wardLine_25 : decode cX12_wardLine 25 = .ok (.iload_n 1, 1) := by decide +kernel
theorem dX12_wardLine_26 : decode cX12_wardLine 26 = .ok (.iconst 1, 1) := by decide +kernel
theorem dX12_wardLine_27 : decode cX12_wardLine 27 = .ok (.iadd, 1) := by decide +kernel
theorem dX12_wardLine_28 : decode cX12_wardLine 28 = .ok (.aload_n 0, 1) := by decide +kernel
theorem dX12_wardLine_29 : decode cX12_wardLine 29 = .ok (.ldc2_w 219, 3) := by decide +kernel
theorem dX12_wardLine_32 : decode cX12_wardLine 32 = .ok (.iconst 0, 1) := by decide +kernel
theorem dX12_wardLine_33 : decode cX12_wardLine 33 = .ok (.bipush 99, 2) := by decide +kernel
theorem dX12_wardLine_35 : decode cX12_wardLine 35 = .ok (.invokevirtual 204, 3) := by decide +kernel
theorem dX12_wardLine_38 : decode cX12_wardLine 38 = .ok (.iastore, 1) := by decide +kernel
theorem dX12_wardLine_39 : decode cX12_wardLine 39 = .ok (.aload_n 0, 1) := by decide +kernel
theorem dX12_wardLine_40 : decode cX12_wardLine 40 = .ok (.ldc2_w 221, 3) := by decide +kernel
theorem dX12_wardLine_43 : decode cX12_wardLine 43 = .ok (.invokevirtual 187, 3) := by decide +kernel
theorem dX12_wardLine_46 : decode cX12_wardLine 46 = .ok (.aload_n 0, 1) := by decide +kernel
theorem dX12_wardLine_47 : decode cX12_wardLine 47 = .ok (.getfield 168, 3) := by decide +kernel
theorem dX12_wardLine_50 : decode cX12_wardLine 50 = .ok (.ifCond .ne 25, 3) := by decide +kernel
theorem dX12_wardLine_53 : decode cX12_wardLine 53 = .ok (.aload_n 0, 1) := by decide +kernel
theorem dX12_wardLine_54 : decode cX12_wardLine 54 = .ok (.ldc2_w 223, 3) := by decide +kernel
theorem dX12_wardLine_57 : decode cX12_wardLine 57 = .ok (.invokevirtual 181, 3) := by decide +kernel
theorem dX12_wardLine_60 : decode cX12_wardLine 60 = .ok (.ifCond .eq 15, 3) := by decide +kernel
theorem dX12_wardLine_63 : decode cX12_wardLine 63 = .ok (.aload_n 0, 1) := by decide +kernel
theorem dX12_wardLine_64 : decode cX12_wardLine 64 = .ok (.getfield 43, 3) := by decide +kernel
theorem dX12_wardLine_67 : decode cX12_wardLine 67 = .ok (.iload_n 1, 1) := by decide +kernel
theorem dX12_wardLine_68 : decode cX12_wardLine 68 = .ok (.iconst 2, 1) := by decide +kernel
theorem dX12_wardLine_69 : decode cX12_wardLine 69 = .ok (.iadd, 1) := by decide +kernel
theorem dX12_wardLine_70 : decode cX12_wardLine 70 = .ok (.iconst (-1), 1) := by decide +kernel
theorem dX12_wardLine_71 : decode cX12_wardLine 71 = .ok (.iastore, 1) := by decide +kernel
theorem dX12_wardLine_72 : decode cX12_wardLine 72 = .ok (.goto 48, 3) := by decide +kernel
theorem dX12_wardLine_75 : decode cX12_wardLine 75 = .ok (.aload_n 0, 1) := by decide +kernel
theorem dX12_wardLine_76 : decode cX12_wardLine 76 = .ok (.getfield 168, 3) := by decide +kernel
theorem dX12_wardLine_79 : decode cX12_wardLine 79 = .ok (.ifCond .ne 29, 3) := by decide +kernel
theorem dX12_wardLine_82 : decode cX12_wardLine 82 = .ok (.aload_n 0, 1) := by decide +kernel
theorem dX12_wardLine_83 : decode cX12_wardLine 83 = .ok (.getfield 157, 3) := by decide +kernel
theorem dX12_wardLine_86 : decode cX12_wardLine 86 = .ok (.iconst 2, 1) := by decide +kernel
theorem dX12_wardLine_87 : decode cX12_wardLine 87 = .ok (.if_icmp .ne 21, 3) := by decide +kernel
theorem dX12_wardLine_90 : decode cX12_wardLine 90 = .ok (.aload_n 0, 1) := by decide +kernel
theorem dX12_wardLine_91 : decode cX12_wardLine 91 = .ok (.getfield 150, 3) := by decide +kernel
theorem dX12_wardLine_94 : decode cX12_wardLine 94 = .ok (.aload_n 0, 1) := by decide +kernel
theorem dX12_wardLine_95 : decode cX12_wardLine 95 = .ok (.getfield 43, 3) := by decide +kernel
theorem dX12_wardLine_98 : decode cX12_wardLine 98 = .ok (.iload_n 1, 1) := by decide +kernel
theorem dX12_wardLine_99 : decode cX12_wardLine 99 = .ok (.iaload, 1) := by decide +kernel
theorem dX12_wardLine_100 : decode cX12_wardLine 100 = .ok (.if_icmp .ne 8, 3) := by decide +kernel
theorem dX12_wardLine_103 : decode cX12_wardLine 103 = .ok (.aload_n 0, 1) := by decide +kernel
theorem dX12_wardLine_104 : decode cX12_wardLine 104 = .ok (.iconst 2, 1) := by decide +kernel
theorem dX12_wardLine_105 : decode cX12_wardLine 105 = .ok (.invokevirtual 184, 3) := by decide +kernel
theorem dX12_wardLine_108 : decode cX12_wardLine 108 = .ok (.aload_n 0, 1) := by decide +kernel
theorem dX12_wardLine_109 : decode cX12_wardLine 109 = .ok (.getfield 43, 3) := by decide +kernel
theorem dX12_wardLine_112 : decode cX12_wardLine 112 = .ok (.iload_n 1, 1) := by decide +kernel
theorem dX12_wardLine_113 : decode cX12_wardLine 113 = .ok (.iconst 2, 1) := by decide +kernel
theorem dX12_wardLine_114 : decode cX12_wardLine 114 = .ok (.iadd, 1) := by decide +kernel
theorem dX12_wardLine_115 : decode cX12_wardLine 115 = .ok (.aload_n 0, 1) := by decide +kernel
theorem dX12_wardLine_116 : decode cX12_wardLine 116 = .ok (.invokevirtual 215, 3) := by decide +kernel
theorem dX12_wardLine_119 : decode cX12_wardLine 119 = .ok (.iastore, 1) := by decide +kernel
theorem dX12_wardLine_120 : decode cX12_wardLine 120 = .ok (.aload_n 0, 1) := by decide +kernel
theorem dX12_wardLine_121 : decode cX12_wardLine 121 = .ok (.iconst 5, 1) := by decide +kernel
theorem dX12_wardLine_122 : decode cX12_wardLine 122 = .ok (.aload_n 0, 1) := by decide +kernel
theorem dX12_wardLine_123 : decode cX12_wardLine 123 = .ok (.iconst 5, 1) := by decide +kernel
theorem dX12_wardLine_124 : decode cX12_wardLine 124 = .ok (.invokevirtual 198, 3) := by decide +kernel
theorem dX12_wardLine_127 : decode cX12_wardLine 127 = .ok (.iconst 1, 1) := by decide +kernel
theorem dX12_wardLine_128 : decode cX12_wardLine 128 = .ok (.iadd, 1) := by decide +kernel
theorem dX12_wardLine_129 : decode cX12_wardLine 129 = .ok (.invokevirtual 209, 3) := by decide +kernel
theorem dX12_wardLine_132 : decode cX12_wardLine 132 = .ok (.return_, 1) := by decide +kernel
