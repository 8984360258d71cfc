theorem dX12_all_0 : decode cX12_all 0 = .ok (.aload_n 0, 1) := by decide +kernel
theorem dX12_all_1 : decode cX12_all 1 = .ok (.iconst 0, 1) := by decide +kernel
theorem dX12_all_2 : decode cX12_all 2 = .ok (.putfield 116, 3) := by decide +kernel
theorem dX12_all_5 : decode cX12_all 5 = .ok (.aload_n 0, 1) := by decide +kernel
theorem dX12_all_6 : decode cX12_all 6 = .ok (.iload_n 1, 1) := by decide +kernel
theorem dX12_all_7 : decode cX12_all 7 = .ok (.i2l, 1) := by decide +kernel
theorem dX12_all_8 : decode cX12_all 8 = .ok (.invokevirtual 289, 3) := by decide +kernel
theorem dX12_all_11 : decode cX12_all 11 = .ok (.ifCond .ne 6, 3) := by decide +kernel
theorem dX12_all_14 : decode cX12_all 14 = .ok (.bipush (-2), 2) := by decide +kernel
theorem dX12_all_16 : decode cX12_all 16 = .ok (.ireturn, 1) := by decide +kernel
theorem dX12_all_17 : decode cX12_all 17 = .ok (.aload_n 0, 1) := by decide +kernel
theorem dX12_all_18 : decode cX12_all 18 = .ok (.invokevirtual 336, 3) := by decide +kernel
theorem dX12_all_21 : decode cX12_all 21 = .ok (.iconst 0, 1) := by decide +kernel
theorem dX12_all_22 : decode cX12_all 22 = .ok (.istore_n 2, 1) := by decide +kernel
theorem dX12_all_23 : decode cX12_all 23 = .ok (.iconst 0, 1) := by decide +kernel
theorem dX12_all_24 : decode cX12_all 24 = .ok (.istore_n 3, 1) := by decide +kernel
theorem dX12_all_25 : decode cX12_all 25 = .ok (.iload_n 3, 1) := by decide +kernel
theorem dX12_all_26 : decode cX12_all 26 = .ok (.aload_n 0, 1) := by decide +kernel
theorem dX12_all_27 : decode cX12_all 27 = .ok (.invokevirtual 283, 3) := by decide +kernel
theorem dX12_all_30 : decode cX12_all 30 = .ok (.if_icmp .ge 22, 3) := by decide +kernel
theorem dX12_all_33 : decode cX12_all 33 = .ok (.iload_n 2, 1) := by decide +kernel
theorem dX12_all_34 : decode cX12_all 34 = .ok (.aload_n 0, 1) := by decide +kernel
theorem dX12_all_35 : decode cX12_all 35 = .ok (.getfield 98, 3) := by decide +kernel
theorem dX12_all_38 : decode cX12_all 38 = .ok (.iconst 3, 1) := by decide +kernel
theorem dX12_all_39 : decode cX12_all 39 = .ok (.iload_n 1, 1) := by decide +kernel
theorem dX12_all_40 : decode cX12_all 40 = .ok (.imul, 1) := by decide +kernel
theorem dX12_all_41 : decode cX12_all 41 = .ok (.iload_n 3, 1) := by decide +kernel
theorem dX12_all_42 : decode cX12_all 42 = .ok (.iadd, 1) := by decide +kernel
theorem dX12_all_43 : decode cX12_all 43 = .ok (.iaload, 1) := by decide +kernel
theorem dX12_all_44 : decode cX12_all 44 = .ok (.iadd, 1) := by decide +kernel
theorem dX12_all_45 : decode cX12_all 45 = .ok (.istore_n 2, 1) := by decide +kernel
theorem dX12_all_46 : decode cX12_all 46 = .ok (.iinc 3 1, 3) := by decide +kernel
theorem dX12_all_49 : decode cX12_all 49 = .ok (.goto (-24), 3) := by decide +kernel
theorem dX12_all_52 : decode cX12_all 52 = .ok (.iload_n 2, 1) := by decide +kernel
theorem dX12_all_53 : decode cX12_all 53 = .ok (.ireturn, 1) := by decide +kernel
theorem dX12_breaks_0 : decode cX12_breaks 0 = .ok (.aload_n 0, 1) := by decide +kernel
theorem dX12_breaks_1 : decode cX12_breaks 1 = .ok (.iconst 0, 1) := by decide +kernel
theorem dX12_breaks_2 : decode cX12_breaks 2 = .ok (.putfield 116, 3) := by decide +kernel
theorem dX12_breaks_5 : decode cX12_breaks 5 = .ok (.aload_n 0, 1) := by decide +kernel
theorem dX12_breaks_6 : decode cX12_breaks 6 = .ok (.iload_n 1, 1) := by decide +kernel
theorem dX12_breaks_7 : decode cX12_breaks 7 = .ok (.i2l, 1) := by decide +kernel
theorem dX12_breaks_8 : decode cX12_breaks 8 = .ok (.invokevirtual 292, 3) := by decide +kernel
theorem dX12_breaks_11 : decode cX12_breaks 11 = .ok (.ifCond .ne 6, 3) := by decide +kernel
theorem dX12_breaks_14 : decode cX12_breaks 14 = .ok (.bipush (-2), 2) := by decide +kernel
theorem dX12_breaks_16 : decode cX12_breaks 16 = .ok (.ireturn, 1) := by decide +kernel
theorem dX12_breaks_17 : decode cX12_breaks 17 = .ok (.aload_n 0, 1) := by decide +kernel
theorem dX12_breaks_18 : decode cX12_breaks 18 = .ok (.invokevirtual 336, 3) := by decide +kernel
theorem dX12_breaks_21 : decode cX12_breaks 21 = .ok (.aload_n 0, 1) := by decide +kernel
theorem dX12_breaks_22 : decode cX12_breaks 22 = .ok (.getfield 74, 3) := by decide +kernel
theorem dX12_breaks_25 : decode cX12_breaks 25 = .ok (.iload_n 1, 1) := by decide +kernel
theorem dX12_breaks_26 : decode cX12_breaks 26 = .ok (.iaload, 1) := by decide +kernel
theorem dX12_breaks_27 : decode cX12_breaks 27 = .ok (.ireturn, 1) := by decide +kernel
theorem dX12_bridge_0 : decode cX12_bridge 0 = .ok (.aload_n 0, 1) := by decide +kernel
theorem dX12_bridge_1 : decode cX12_bridge 1 = .ok (.iconst 0, 1) := by decide +kernel
theorem dX12_bridge_2 : decode cX12_bridge 2 = .ok (.putfield 116, 3) := by decide +kernel
theorem dX12_bridge_5 : decode cX12_bridge 5 = .ok (.aload_n 0, 1) := by decide +kernel
theorem dX12_bridge_6 : decode cX12_bridge 6 = .ok (.iload_n 1, 1) := by decide +kernel
theorem dX12_bridge_7 : decode cX12_bridge 7 = .ok (.i2l, 1) := by decide +kernel
theorem dX12_bridge_8 : decode cX12_bridge 8 = .ok (.invokevirtual 292, 3) := by decide +kernel
theorem dX12_bridge_11 : decode cX12_bridge 11 = .ok (.ifCond .eq 23, 3) := by decide +kernel
theorem dX12_bridge_14 : decode cX12_bridge 14 = .ok (.iload_n 2, 1) := by decide +kernel
theorem dX12_bridge_15 : decode cX12_bridge 15 = .ok (.invokestatic 342, 3) := by decide +kernel
theorem dX12_bridge_18 : decode cX12_bridge 18 = .ok (.ifCond .eq 16, 3) := by decide +kernel
theorem dX12_bridge_21 : decode cX12_bridge 21 = .ok (.aload_n 0, 1) := by decide +kernel
theorem dX12_bridge_22 : decode cX12_bridge 22 = .ok (.getfield 37, 3) := by decide +kernel
theorem dX12_bridge_25 : decode cX12_bridge 25 = .ok (.iconst 2, 1) := by decide +kernel
theorem dX12_bridge_26 : decode cX12_bridge 26 = .ok (.iload_n 1, 1) := by decide +kernel
theorem dX12_bridge_27 : decode cX12_bridge 27 = .ok (.imul, 1) := by decide +kernel
theorem dX12_bridge_28 : decode cX12_bridge 28 = .ok (.iload_n 2, 1) := by decide +kernel
theorem dX12_bridge_29 : decode cX12_bridge 29 = .ok (.iadd, 1) := by decide +kernel
theorem dX12_bridge_30 : decode cX12_bridge 30 = .ok (.iaload, 1) := by decide +kernel
theorem dX12_bridge_31 : decode cX12_bridge 31 = .ok (.goto 5, 3) := by decide +kernel
theorem dX12_bridge_34 : decode cX12_bridge 34 = .ok (.bipush (-2), 2) := by decide +kernel
theorem dX12_bridge_36 : decode cX12_bridge 36 = .ok (.ireturn, 1) := by decide +kernel
theorem dX12_broken_0 : decode cX12_broken 0 = .ok (.aload_n 0, 1) := by decide +kernel
theorem dX12_broken_1 : decode cX12_broken 1 = .ok (.iconst 0, 1) := by decide +kernel
theorem dX12_broken_2 : decode cX12_broken 2 = .ok (.putfield 116, 3) := by decide +kernel
theorem dX12_broken_5 : decode cX12_broken 5 = .ok (.aload_n 0, 1) := by decide +kernel
theorem dX12_broken_6 : decode cX12_broken 6 = .ok (.iload_n 1, 1) := by decide +kernel
theorem dX12_broken_7 : decode cX12_broken 7 = .ok (.i2l, 1) := by decide +kernel
theorem dX12_broken_8 : decode cX12_broken 8 = .ok (.invokevirtual 289, 3) := by decide +kernel
theorem dX12_broken_11 : decode cX12_broken 11 = .ok (.ifCond .ne 6, 3) := by decide +kernel
theorem dX12_broken_14 : decode cX12_broken 14 = .ok (.bipush (-2), 2) := by decide +kernel
theorem dX12_broken_16 : decode cX12_broken 16 = .ok (.ireturn, 1) := by decide +kernel
theorem dX12_broken_17 : decode cX12_broken 17 = .ok (.aload_n 0, 1) := by decide +kernel
theorem dX12_broken_18 : decode cX12_broken 18 = .ok (.invokevirtual 336, 3) := by decide +kernel
theorem dX12_broken_21 : decode cX12_broken 21 = .ok (.iconst 0, 1) := by decide +kernel
theorem dX12_broken_22 : decode cX12_broken 22 = .ok (.istore_n 2, 1) := by decide +kernel
theorem dX12_broken_23 : decode cX12_broken 23 = .ok (.iconst 0, 1) := by decide +kernel
theorem dX12_broken_24 : decode cX12_broken 24 = .ok (.istore_n 3, 1) := by decide +kernel
theorem dX12_broken_25 : decode cX12_broken 25 = .ok (.iload_n 3, 1) := by decide +kernel
theorem dX12_broken_26 : decode cX12_broken 26 = .ok (.aload_n 0, 1) := by decide +kernel
theorem dX12_broken_27 : decode cX12_broken 27 = .ok (.invokevirtual 283, 3) := by decide +kernel
theorem dX12_broken_30 : decode cX12_broken 30 = .ok (.if_icmp .ge 29, 3) := by decide +kernel
theorem dX12_broken_33 : decode cX12_broken 33 = .ok (.iload_n 2, 1) := by decide +kernel
theorem dX12_broken_34 : decode cX12_broken 34 = .ok (.aload_n 0, 1) := by decide +kernel
theorem dX12_broken_35 : decode cX12_broken 35 = .ok (.getfield 77, 3) := by decide +kernel
theorem dX12_broken_38 : decode cX12_broken 38 = .ok (.iload_n 3, 1) := by decide +kernel
theorem dX12_broken_39 : decode cX12_broken 39 = .ok (.iaload, 1) := by decide +kernel
theorem dX12_broken_40 : decode cX12_broken 40 = .ok (.iload_n 1, 1) := by decide +kernel
theorem dX12_broken_41 : decode cX12_broken 41 = .ok (.if_icmp .gt 9, 3) := by decide +kernel
theorem dX12_broken_44 : decode cX12_broken 44 = .ok (.iconst 1, 1) := by decide +kernel
theorem dX12_broken_45 : decode cX12_broken 45 = .ok (.iload_n 3, 1) := by decide +kernel
theorem dX12_broken_46 : decode cX12_broken 46 = .ok (.ishl, 1) := by decide +kernel
theorem dX12_broken_47 : decode cX12_broken 47 = .ok (.goto 4, 3) := by decide +kernel
theorem dX12_broken_50 : decode cX12_broken 50 = .ok (.iconst 0, 1) := by decide +kernel
theorem dX12_broken_51 : decode cX12_broken 51 = .ok (.ior, 1) := by decide +kernel
theorem dX12_broken_52 : decode cX12_broken 52 = .ok (.istore_n 2, 1) := by decide +kernel
theorem dX12_broken_53 : decode cX12_broken 53 = .ok (.iinc 3 1, 3) := by decide +kernel
theorem dX12_broken_56 : decode cX12_broken 56 = .ok (.goto (-31), 3) := by decide +kernel
theorem dX12_broken_59 : decode cX12_broken 59 = .ok (.iload_n 2, 1) := by decide +kernel
theorem dX12_broken_60 : decode cX12_broken 60 = .ok (.ireturn, 1) := by decide +kernel
theorem dX12_cart_0 : decode cX12_cart 0 = .ok (.aload_n 0, 1) := by decide +kernel
theorem dX12_cart_1 : decode cX12_cart 1 = .ok (.iconst 0, 1) := by decide +kernel
theorem dX12_cart_2 : decode cX12_cart 2 = .ok (.putfield 116, 3) := by decide +kernel
theorem dX12_cart_5 : decode cX12_cart 5 = .ok (.aload_n 0, 1) := by decide +kernel
theorem dX12_cart_6 : decode cX12_cart 6 = .ok (.iload_n 1, 1) := by decide +kernel
theorem dX12_cart_7 : decode cX12_cart 7 = .ok (.i2l, 1) := by decide +kernel
theorem dX12_cart_8 : decode cX12_cart 8 = .ok (.invokevirtual 289, 3) := by decide +kernel
theorem dX12_cart_11 : decode cX12_cart 11 = .ok (.ifCond .eq 23, 3) := by decide +kernel
theorem dX12_cart_14 : decode cX12_cart 14 = .ok (.iload_n 2, 1) := by decide +kernel
theorem dX12_cart_15 : decode cX12_cart 15 = .ok (.invokestatic 342, 3) := by decide +kernel
theorem dX12_cart_18 : decode cX12_cart 18 = .ok (.ifCond .eq 16, 3) := by decide +kernel
theorem dX12_cart_21 : decode cX12_cart 21 = .ok (.aload_n 0, 1) := by decide +kernel
theorem dX12_cart_22 : decode cX12_cart 22 = .ok (.getfield 40, 3) := by decide +kernel
theorem dX12_cart_25 : decode cX12_cart 25 = .ok (.iconst 2, 1) := by decide +kernel
theorem dX12_cart_26 : decode cX12_cart 26 = .ok (.iload_n 1, 1) := by decide +kernel
theorem dX12_cart_27 : decode cX12_cart 27 = .ok (.imul, 1) := by decide +kernel
theorem dX12_cart_28 : decode cX12_cart 28 = .ok (.iload_n 2, 1) := by decide +kernel
theorem dX12_cart_29 : decode cX12_cart 29 = .ok (.iadd, 1) := by decide +kernel
theorem dX12_cart_30 : decode cX12_cart 30 = .ok (.iaload, 1) := by decide +kernel
theorem dX12_cart_31 : decode cX12_cart 31 = .ok (.goto 5, 3) := by decide +kernel
theorem dX12_cart_34 : decode cX12_cart 34 = .ok (.bipush (-2), 2) := by decide +kernel
theorem dX12_cart_36 : decode cX12_cart 36 = .ok (.ireturn, 1) := by decide +kernel
theorem dX12_cold_0 : decode cX12_cold 0 = .ok (.aload_n 0, 1) := by decide +kernel
theorem dX12_cold_1 : decode cX12_cold 1 = .ok (.iconst 0, 1) := by decide +kernel
theorem dX12_cold_2 : decode cX12_cold 2 = .ok (.putfield 116, 3) := by decide +kernel
theorem dX12_cold_5 : decode cX12_cold 5 = .ok (.aload_n 0, 1) := by decide +kernel
theorem dX12_cold_6 : decode cX12_cold 6 = .ok (.iload_n 1, 1) := by decide +kernel
theorem dX12_cold_7 : decode cX12_cold 7 = .ok (.i2l, 1) := by decide +kernel
theorem dX12_cold_8 : decode cX12_cold 8 = .ok (.invokevirtual 289, 3) := by decide +kernel
theorem dX12_cold_11 : decode cX12_cold 11 = .ok (.ifCond .ne 6, 3) := by decide +kernel
theorem dX12_cold_14 : decode cX12_cold 14 = .ok (.bipush (-2), 2) := by decide +kernel
theorem dX12_cold_16 : decode cX12_cold 16 = .ok (.ireturn, 1) := by decide +kernel
theorem dX12_cold_17 : decode cX12_cold 17 = .ok (.aload_n 0, 1) := by decide +kernel
theorem dX12_cold_18 : decode cX12_cold 18 = .ok (.invokevirtual 330, 3) := by decide +kernel
theorem dX12_cold_21 : decode cX12_cold 21 = .ok (.aload_n 0, 1) := by decide +kernel
theorem dX12_cold_22 : decode cX12_cold 22 = .ok (.getfield 298, 3) := by decide +kernel
theorem dX12_cold_25 : decode cX12_cold 25 = .ok (.iload_n 1, 1) := by decide +kernel
theorem dX12_cold_26 : decode cX12_cold 26 = .ok (.invokestatic 307, 3) := by decide +kernel
theorem dX12_cold_29 : decode cX12_cold 29 = .ok (.ifCond .eq 7, 3) := by decide +kernel
theorem dX12_cold_32 : decode cX12_cold 32 = .ok (.iconst 1, 1) := by decide +kernel
theorem dX12_cold_33 : decode cX12_cold 33 = .ok (.goto 4, 3) := by decide +kernel
theorem dX12_cold_36 : decode cX12_cold 36 = .ok (.iconst 0, 1) := by decide +kernel
theorem dX12_cold_37 : decode cX12_cold 37 = .ok (.ireturn, 1) := by decide +kernel
theorem dX12_comes_0 : decode cX12_comes 0 = .ok (.aload_n 0, 1) := by decide +kernel
theorem dX12_comes_1 : decode cX12_comes 1 = .ok (.iconst 0, 1) := by decide +kernel
theorem dX12_comes_2 : decode cX12_comes 2 = .ok (.putfield 116, 3) := by decide +kernel
theorem dX12_comes_5 : decode cX12_comes 5 = .ok (.aload_n 0, 1) := by decide +kernel
theorem dX12_comes_6 : decode cX12_comes 6 = .ok (.iload_n 1, 1) := by decide +kernel
theorem dX12_comes_7 : decode cX12_comes 7 = .ok (.i2l, 1) := by decide +kernel
theorem dX12_comes_8 : decode cX12_comes 8 = .ok (.invokevirtual 289, 3) := by decide +kernel
theorem dX12_comes_11 : decode cX12_comes 11 = .ok (.ifCond .ne 6, 3) := by decide +kernel
theorem dX12_comes_14 : decode cX12_comes 14 = .ok (.bipush (-2), 2) := by decide +kernel
theorem dX12_comes_16 : decode cX12_comes 16 = .ok (.ireturn, 1) := by decide +kernel
theorem dX12_comes_17 : decode cX12_comes 17 = .ok (.aload_n 0, 1) := by decide +kernel
theorem dX12_comes_18 : decode cX12_comes 18 = .ok (.invokevirtual 336, 3) := by decide +kernel
theorem dX12_comes_21 : decode cX12_comes 21 = .ok (.aload_n 0, 1) := by decide +kernel
theorem dX12_comes_22 : decode cX12_comes 22 = .ok (.getfield 83, 3) := by decide +kernel
theorem dX12_comes_25 : decode cX12_comes 25 = .ok (.iload_n 1, 1) := by decide +kernel
theorem dX12_comes_26 : decode cX12_comes 26 = .ok (.iaload, 1) := by decide +kernel
theorem dX12_comes_27 : decode cX12_comes 27 = .ok (.ireturn, 1) := by decide +kernel
theorem dX12_creak_0 : decode cX12_creak 0 = .ok (.aload_n 0, 1) := by decide +kernel
theorem dX12_creak_1 : decode cX12_creak 1 = .ok (.iconst 0, 1) := by decide +kernel
theorem dX12_creak_2 : decode cX12_creak 2 = .ok (.putfield 116, 3) := by decide +kernel
theorem dX12_creak_5 : decode cX12_creak 5 = .ok (.aload_n 0, 1) := by decide +kernel
theorem dX12_creak_6 : decode cX12_creak 6 = .ok (.iload_n 1, 1) := by decide +kernel
theorem dX12_creak_7 : decode cX12_creak 7 = .ok (.i2l, 1) := by decide +kernel
theorem dX12_creak_8 : decode cX12_creak 8 = .ok (.invokevirtual 289, 3) := by decide +kernel
theorem dX12_creak_11 : decode cX12_creak 11 = .ok (.ifCond .ne 6, 3) := by decide +kernel
theorem dX12_creak_14 : decode cX12_creak 14 = .ok (.bipush (-2), 2) := by decide +kernel
theorem dX12_creak_16 : decode cX12_creak 16 = .ok (.ireturn, 1) := by decide +kernel
theorem dX12_creak_17 : decode cX12_creak 17 = .ok (.aload_n 0, 1) := by decide +kernel
theorem dX12_creak_18 : decode cX12_creak 18 = .ok (.invokevirtual 336, 3) := by decide +kernel
theorem dX12_creak_21 : decode cX12_creak 21 = .ok (.aload_n 0, 1) := by decide +kernel
theorem dX12_creak_22 : decode cX12_creak 22 = .ok (.getfield 89, 3) := by decide +kernel
theorem dX12_creak_25 : decode cX12_creak 25 = .ok (.iload_n 1, 1) := by decide +kernel
theorem dX12_creak_26 : decode cX12_creak 26 = .ok (.iaload, 1) := by decide +kernel
theorem dX12_creak_27 : decode cX12_creak 27 = .ok (.ireturn, 1) := by decide +kernel
theorem dX12_deep_0 : decode cX12_deep 0 = .ok (.aload_n 0, 1) := by decide +kernel
theorem dX12_deep_1 : decode cX12_deep 1 = .ok (.iconst 0, 1) := by decide +kernel
theorem dX12_deep_2 : decode cX12_deep 2 = .ok (.putfield 116, 3) := by decide +kernel
theorem dX12_deep_5 : decode cX12_deep 5 = .ok (.aload_n 0, 1) := by decide +kernel
theorem dX12_deep_6 : decode cX12_deep 6 = .ok (.iload_n 1, 1) := by decide +kernel
theorem dX12_deep_7 : decode cX12_deep 7 = .ok (.iload_n 2, 1) := by decide +kernel
theorem dX12_deep_8 : decode cX12_deep 8 = .ok (.invokevirtual 353, 3) := by decide +kernel
theorem dX12_deep_11 : decode cX12_deep 11 = .ok (.ifCond .ne 6, 3) := by decide +kernel
theorem dX12_deep_14 : decode cX12_deep 14 = .ok (.bipush (-2), 2) := by decide +kernel
theorem dX12_deep_16 : decode cX12_deep 16 = .ok (.ireturn, 1) := by decide +kernel
theorem dX12_deep_17 : decode cX12_deep 17 = .ok (.aload_n 0, 1) := by decide +kernel
theorem dX12_deep_18 : decode cX12_deep 18 = .ok (.invokevirtual 336, 3) := by decide +kernel
theorem dX12_deep_21 : decode cX12_deep 21 = .ok (.aload_n 0, 1) := by decide +kernel
theorem dX12_deep_22 : decode cX12_deep 22 = .ok (.getfield 95, 3) := by decide +kernel
theorem dX12_deep_25 : decode cX12_deep 25 = .ok (.iconst 3, 1) := by decide +kernel
theorem dX12_deep_26 : decode cX12_deep 26 = .ok (.iload_n 2, 1) := by decide +kernel
theorem dX12_deep_27 : decode cX12_deep 27 = .ok (.imul, 1) := by decide +kernel
theorem dX12_deep_28 : decode cX12_deep 28 = .ok (.iload_n 1, 1) := by decide +kernel
theorem dX12_deep_29 : decode cX12_deep 29 = .ok (.iadd, 1) := by decide +kernel
theorem dX12_deep_30 : decode cX12_deep 30 = .ok (.iaload, 1) := by decide +kernel
theorem dX12_deep_31 : decode cX12_deep 31 = .ok (.ireturn, 1) := by decide +kernel
theorem dX12_deepest_0 : decode cX12_deepest 0 = .ok (.aload_n 0, 1) := by decide +kernel
theorem dX12_deepest_1 : decode cX12_deepest 1 = .ok (.iconst 0, 1) := by decide +kernel
theorem dX12_deepest_2 : decode cX12_deepest 2 = .ok (.putfield 116, 3) := by decide +kernel
theorem dX12_deepest_5 : decode cX12_deepest 5 = .ok (.aload_n 0, 1) := by decide +kernel
theorem dX12_deepest_6 : decode cX12_deepest 6 = .ok (.iload_n 1, 1) := by decide +kernel
theorem dX12_deepest_7 : decode cX12_deepest 7 = .ok (.i2l, 1) := by decide +kernel
theorem dX12_deepest_8 : decode cX12_deepest 8 = .ok (.invokevirtual 289, 3) := by decide +kernel
theorem dX12_deepest_11 : decode cX12_deepest 11 = .ok (.ifCond .ne 6, 3) := by decide +kernel
theorem dX12_deepest_14 : decode cX12_deepest 14 = .ok (.bipush (-2), 2) := by decide +kernel
theorem dX12_deepest_16 : decode cX12_deepest 16 = .ok (.ireturn, 1) := by decide +kernel
theorem dX12_deepest_17 : decode cX12_deepest 17 = .ok (.aload_n 0, 1) := by decide +kernel
theorem dX12_deepest_18 : decode cX12_deepest 18 = .ok (.invokevirtual 336, 3) := by decide +kernel
theorem dX12_deepest_21 : decode cX12_deepest 21 = .ok (.iconst (-1), 1) := by decide +kernel
theorem dX12_deepest_22 : decode cX12_deepest 22 = .ok (.istore_n 2, 1) := by decide +kernel
theorem dX12_deepest_23 : decode cX12_deepest 23 = .ok (.iconst 0, 1) := by decide +kernel
theorem dX12_deepest_24 : decode cX12_deepest 24 = .ok (.istore_n 3, 1) := by decide +kernel
theorem dX12_deepest_25 : decode cX12_deepest 25 = .ok (.iload_n 3, 1) := by decide +kernel
theorem dX12_deepest_26 : decode cX12_deepest 26 = .ok (.aload_n 0, 1) := by decide +kernel
theorem dX12_deepest_27 : decode cX12_deepest 27 = .ok (.invokevirtual 283, 3) := by decide +kernel
theorem dX12_deepest_30 : decode cX12_deepest 30 = .ok (.if_icmp .ge 39, 3) := by decide +kernel
theorem dX12_deepest_33 : decode cX12_deepest 33 = .ok (.iload_n 2, 1) := by decide +kernel
theorem dX12_deepest_34 : decode cX12_deepest 34 = .ok (.iconst (-1), 1) := by decide +kernel
theorem dX12_deepest_35 : decode cX12_deepest 35 = .ok (.if_icmp .eq 26, 3) := by decide +kernel
theorem dX12_deepest_38 : decode cX12_deepest 38 = .ok (.aload_n 0, 1) := by decide +kernel
theorem dX12_deepest_39 : decode cX12_deepest 39 = .ok (.getfield 98, 3) := by decide +kernel
theorem dX12_deepest_42 : decode cX12_deepest 42 = .ok (.iconst 3, 1) := by decide +kernel
theorem dX12_deepest_43 : decode cX12_deepest 43 = .ok (.iload_n 1, 1) := by decide +kernel
theorem dX12_deepest_44 : decode cX12_deepest 44 = .ok (.imul, 1) := by decide +kernel
theorem dX12_deepest_45 : decode cX12_deepest 45 = .ok (.iload_n 3, 1) := by decide +kernel
theorem dX12_deepest_46 : decode cX12_deepest 46 = .ok (.iadd, 1) := by decide +kernel
theorem dX12_deepest_47 : decode cX12_deepest 47 = .ok (.iaload, 1) := by decide +kernel
theorem dX12_deepest_48 : decode cX12_deepest 48 = .ok (.aload_n 0, 1) := by decide +kernel
theorem dX12_deepest_49 : decode cX12_deepest 49 = .ok (.getfield 98, 3) := by decide +kernel
theorem dX12_deepest_52 : decode cX12_deepest 52 = .ok (.iconst 3, 1) := by decide +kernel
theorem dX12_deepest_53 : decode cX12_deepest 53 = .ok (.iload_n 1, 1) := by decide +kernel
theorem dX12_deepest_54 : decode cX12_deepest 54 = .ok (.imul, 1) := by decide +kernel
theorem dX12_deepest_55 : decode cX12_deepest 55 = .ok (.iload_n 2, 1) := by decide +kernel
theorem dX12_deepest_56 : decode cX12_deepest 56 = .ok (.iadd, 1) := by decide +kernel
theorem dX12_deepest_57 : decode cX12_deepest 57 = .ok (.iaload, 1) := by decide +kernel
theorem dX12_deepest_58 : decode cX12_deepest 58 = .ok (.if_icmp .le 5, 3) := by decide +kernel
theorem dX12_deepest_61 : decode cX12_deepest 61 = .ok (.iload_n 3, 1) := by decide +kernel
theorem dX12_deepest_62 : decode cX12_deepest 62 = .ok (.istore_n 2, 1) := by decide +kernel
theorem dX12_deepest_63 : decode cX12_deepest 63 = .ok (.iinc 3 1, 3) := by decide +kernel
theorem dX12_deepest_66 : decode cX12_deepest 66 = .ok (.goto (-41), 3) := by decide +kernel
theorem dX12_deepest_69 : decode cX12_deepest 69 = .ok (.iload_n 2, 1) := by decide +kernel
theorem dX12_deepest_70 : decode cX12_deepest 70 = .ok (.ireturn, 1) := by decide +kernel
theorem dX12_fails__0 : decode cX12_fails_ 0 = .ok (.aload_n 0, 1) := by decide +kernel
theorem dX12_fails__1 : decode cX12_fails_ 1 = .ok (.iconst 0, 1) := by decide +kernel
theorem dX12_fails__2 : decode cX12_fails_ 2 = .ok (.putfield 116, 3) := by decide +kernel
theorem dX12_fails__5 : decode cX12_fails_ 5 = .ok (.aload_n 0, 1) := by decide +kernel
theorem dX12_fails__6 : decode cX12_fails_ 6 = .ok (.invokevirtual 350, 3) := by decide +kernel
theorem dX12_fails__9 : decode cX12_fails_ 9 = .ok (.ifCond .ne 6, 3) := by decide +kernel
theorem dX12_fails__12 : decode cX12_fails_ 12 = .ok (.bipush (-2), 2) := by decide +kernel
theorem dX12_fails__14 : decode cX12_fails_ 14 = .ok (.ireturn, 1) := by decide +kernel
theorem dX12_fails__15 : decode cX12_fails_ 15 = .ok (.aload_n 0, 1) := by decide +kernel
theorem dX12_fails__16 : decode cX12_fails_ 16 = .ok (.invokevirtual 336, 3) := by decide +kernel
theorem dX12_fails__19 : decode cX12_fails_ 19 = .ok (.ldc 166, 2) := by decide +kernel
theorem dX12_fails__21 : decode cX12_fails_ 21 = .ok (.istore_n 1, 1) := by decide +kernel
theorem dX12_fails__22 : decode cX12_fails_ 22 = .ok (.iconst 0, 1) := by decide +kernel
theorem dX12_fails__23 : decode cX12_fails_ 23 = .ok (.istore_n 2, 1) := by decide +kernel
theorem dX12_fails__24 : decode cX12_fails_ 24 = .ok (.iload_n 2, 1) := by decide +kernel
theorem dX12_fails__25 : decode cX12_fails_ 25 = .ok (.aload_n 0, 1) := by decide +kernel
theorem dX12_fails__26 : decode cX12_fails_ 26 = .ok (.invokevirtual 283, 3) := by decide +kernel
theorem dX12_fails__29 : decode cX12_fails_ 29 = .ok (.if_icmp .ge 30, 3) := by decide +kernel
theorem dX12_fails__32 : decode cX12_fails_ 32 = .ok (.aload_n 0, 1) := by decide +kernel
theorem dX12_fails__33 : decode cX12_fails_ 33 = .ok (.getfield 77, 3) := by decide +kernel
theorem dX12_fails__36 : decode cX12_fails_ 36 = .ok (.iload_n 2, 1) := by decide +kernel
theorem dX12_fails__37 : decode cX12_fails_ 37 = .ok (.iaload, 1) := by decide +kernel
theorem dX12_fails__38 : decode cX12_fails_ 38 = .ok (.iload_n 1, 1) := by decide +kernel
theorem dX12_fails__39 : decode cX12_fails_ 39 = .ok (.if_icmp .ge 12, 3) := by decide +kernel
theorem dX12_fails__42 : decode cX12_fails_ 42 = .ok (.aload_n 0, 1) := by decide +kernel
theorem dX12_fails__43 : decode cX12_fails_ 43 = .ok (.getfield 77, 3) := by decide +kernel
theorem dX12_fails__46 : decode cX12_fails_ 46 = .ok (.iload_n 2, 1) := by decide +kernel
theorem dX12_fails__47 : decode cX12_fails_ 47 = .ok (.iaload, 1) := by decide +kernel
theorem dX12_fails__48 : decode cX12_fails_ 48 = .ok (.goto 4, 3) := by decide +kernel
theorem dX12_fails__51 : decode cX12_fails_ 51 = .ok (.iload_n 1, 1) := by decide +kernel
theorem dX12_fails__52 : decode cX12_fails_ 52 = .ok (.istore_n 1, 1) := by decide +kernel
theorem dX12_fails__53 : decode cX12_fails_ 53 = .ok (.iinc 2 1, 3) := by decide +kernel
theorem dX12_fails__56 : decode cX12_fails_ 56 = .ok (.goto (-32), 3) := by decide +kernel
theorem dX12_fails__59 : decode cX12_fails_ 59 = .ok (.iload_n 1, 1) := by decide +kernel
theorem dX12_fails__60 : decode cX12_fails_ 60 = .ok (.ldc 166, 2) := by decide +kernel
theorem dX12_fails__62 : decode cX12_fails_ 62 = .ok (.if_icmp .ne 7, 3) := by decide +kernel
theorem dX12_fails__65 : decode cX12_fails_ 65 = .ok (.iconst (-1), 1) := by decide +kernel
theorem dX12_fails__66 : decode cX12_fails_ 66 = .ok (.goto 4, 3) := by decide +kernel
theorem dX12_fails__69 : decode cX12_fails_ 69 = .ok (.iload_n 1, 1) := by decide +kernel
theorem dX12_fails__70 : decode cX12_fails_ 70 = .ok (.ireturn, 1) := by decide +kernel
theorem dX12_free_0 : decode cX12_free 0 = .ok (.aload_n 0, 1) := by decide +kernel
theorem dX12_free_1 : decode cX12_free 1 = .ok (.iconst 0, 1) := by decide +kernel
theorem dX12_free_2 : decode cX12_free 2 = .ok (.putfield 116, 3) := by decide +kernel
theorem dX12_free_5 : decode cX12_free 5 = .ok (.aload_n 0, 1) := by decide +kernel
theorem dX12_free_6 : decode cX12_free 6 = .ok (.iload_n 1, 1) := by decide +kernel
theorem dX12_free_7 : decode cX12_free 7 = .ok (.iload_n 2, 1) := by decide +kernel
theorem dX12_free_8 : decode cX12_free 8 = .ok (.invokevirtual 353, 3) := by decide +kernel
theorem dX12_free_11 : decode cX12_free 11 = .ok (.ifCond .ne 6, 3) := by decide +kernel
theorem dX12_free_14 : decode cX12_free 14 = .ok (.bipush (-2), 2) := by decide +kernel
theorem dX12_free_16 : decode cX12_free 16 = .ok (.ireturn, 1) := by decide +kernel
theorem dX12_free_17 : decode cX12_free 17 = .ok (.aload_n 0, 1) := by decide +kernel
theorem dX12_free_18 : decode cX12_free 18 = .ok (.invokevirtual 336, 3) := by decide +kernel
theorem dX12_free_21 : decode cX12_free 21 = .ok (.bipush 99, 2) := by decide +kernel
theorem dX12_free_23 : decode cX12_free 23 = .ok (.istore_n 3, 1) := by decide +kernel
theorem dX12_free_24 : decode cX12_free 24 = .ok (.iload_n 3, 1) := by decide +kernel
theorem dX12_free_25 : decode cX12_free 25 = .ok (.ifCond .le 29, 3) := by decide +kernel
theorem dX12_free_28 : decode cX12_free 28 = .ok (.aload_n 0, 1) := by decide +kernel
theorem dX12_free_29 : decode cX12_free 29 = .ok (.iload_n 1, 1) := by decide +kernel
theorem dX12_free_30 : decode cX12_free 30 = .ok (.iload_n 2, 1) := by decide +kernel
theorem dX12_free_31 : decode cX12_free 31 = .ok (.iload_n 3, 1) := by decide +kernel
theorem dX12_free_32 : decode cX12_free 32 = .ok (.invokevirtual 359, 3) := by decide +kernel
theorem dX12_free_35 : decode cX12_free 35 = .ok (.aload_n 0, 1) := by decide +kernel
theorem dX12_free_36 : decode cX12_free 36 = .ok (.getfield 98, 3) := by decide +kernel
theorem dX12_free_39 : decode cX12_free 39 = .ok (.iconst 3, 1) := by decide +kernel
theorem dX12_free_40 : decode cX12_free 40 = .ok (.iload_n 2, 1) := by decide +kernel
theorem dX12_free_41 : decode cX12_free 41 = .ok (.imul, 1) := by decide +kernel
theorem dX12_free_42 : decode cX12_free 42 = .ok (.iload_n 1, 1) := by decide +kernel
theorem dX12_free_43 : decode cX12_free 43 = .ok (.iadd, 1) := by decide +kernel
theorem dX12_free_44 : decode cX12_free 44 = .ok (.iaload, 1) := by decide +kernel
theorem dX12_free_45 : decode cX12_free 45 = .ok (.if_icmp .le 9, 3) := by decide +kernel
theorem dX12_free_48 : decode cX12_free 48 = .ok (.iinc 3 (-1), 3) := by decide +kernel
theorem dX12_free_51 : decode cX12_free 51 = .ok (.goto (-27), 3) := by decide +kernel
theorem dX12_free_54 : decode cX12_free 54 = .ok (.iload_n 3, 1) := by decide +kernel
theorem dX12_free_55 : decode cX12_free 55 = .ok (.ireturn, 1) := by decide +kernel
theorem dX12_gives_0 : decode cX12_gives 0 = .ok (.aload_n 0, 1) := by decide +kernel
theorem dX12_gives_1 : decode cX12_gives 1 = .ok (.iconst 0, 1) := by decide +kernel
theorem dX12_gives_2 : decode cX12_gives 2 = .ok (.putfield 116, 3) := by decide +kernel
theorem dX12_gives_5 : decode cX12_gives 5 = .ok (.aload_n 0, 1) := by decide +kernel
theorem dX12_gives_6 : decode cX12_gives 6 = .ok (.iload_n 1, 1) := by decide +kernel
theorem dX12_gives_7 : decode cX12_gives 7 = .ok (.i2l, 1) := by decide +kernel
theorem dX12_gives_8 : decode cX12_gives 8 = .ok (.invokevirtual 289, 3) := by decide +kernel
theorem dX12_gives_11 : decode cX12_gives 11 = .ok (.ifCond .ne 7, 3) := by decide +kernel
theorem dX12_gives_14 : decode cX12_gives 14 = .ok (.sipush (-1000), 3) := by decide +kernel
theorem dX12_gives_17 : decode cX12_gives 17 = .ok (.ireturn, 1) := by decide +kernel
theorem dX12_gives_18 : decode cX12_gives 18 = .ok (.aload_n 0, 1) := by decide +kernel
theorem dX12_gives_19 : decode cX12_gives 19 = .ok (.invokevirtual 336, 3) := by decide +kernel
theorem dX12_gives_22 : decode cX12_gives 22 = .ok (.aload_n 0, 1) := by decide +kernel
theorem dX12_gives_23 : decode cX12_gives 23 = .ok (.getfield 86, 3) := by decide +kernel
theorem dX12_gives_26 : decode cX12_gives 26 = .ok (.iload_n 1, 1) := by decide +kernel
theorem dX12_gives_27 : decode cX12_gives 27 = .ok (.iaload, 1) := by decide +kernel
theorem dX12_gives_28 : decode cX12_gives 28 = .ok (.ireturn, 1) := by decide +kernel
theorem dX12_goes_0 : decode cX12_goes 0 = .ok (.aload_n 0, 1) := by decide +kernel
theorem dX12_goes_1 : decode cX12_goes 1 = .ok (.iconst 0, 1) := by decide +kernel
theorem dX12_goes_2 : decode cX12_goes 2 = .ok (.putfield 116, 3) := by decide +kernel
theorem dX12_goes_5 : decode cX12_goes 5 = .ok (.aload_n 0, 1) := by decide +kernel
theorem dX12_goes_6 : decode cX12_goes 6 = .ok (.iload_n 1, 1) := by decide +kernel
theorem dX12_goes_7 : decode cX12_goes 7 = .ok (.i2l, 1) := by decide +kernel
theorem dX12_goes_8 : decode cX12_goes 8 = .ok (.invokevirtual 289, 3) := by decide +kernel
theorem dX12_goes_11 : decode cX12_goes 11 = .ok (.ifCond .ne 6, 3) := by decide +kernel
theorem dX12_goes_14 : decode cX12_goes 14 = .ok (.bipush (-2), 2) := by decide +kernel
theorem dX12_goes_16 : decode cX12_goes 16 = .ok (.ireturn, 1) := by decide +kernel
theorem dX12_goes_17 : decode cX12_goes 17 = .ok (.aload_n 0, 1) := by decide +kernel
theorem dX12_goes_18 : decode cX12_goes 18 = .ok (.invokevirtual 336, 3) := by decide +kernel
theorem dX12_goes_21 : decode cX12_goes 21 = .ok (.aload_n 0, 1) := by decide +kernel
theorem dX12_goes_22 : decode cX12_goes 22 = .ok (.getfield 80, 3) := by decide +kernel
theorem dX12_goes_25 : decode cX12_goes 25 = .ok (.iload_n 1, 1) := by decide +kernel
theorem dX12_goes_26 : decode cX12_goes 26 = .ok (.iaload, 1) := by decide +kernel
theorem dX12_goes_27 : decode cX12_goes 27 = .ok (.ireturn, 1) := by decide +kernel
theorem dX12_kept_0 : decode cX12_kept 0 = .ok (.aload_n 0, 1) := by decide +kernel
theorem dX12_kept_1 : decode cX12_kept 1 = .ok (.iconst 0, 1) := by decide +kernel
theorem dX12_kept_2 : decode cX12_kept 2 = .ok (.putfield 116, 3) := by decide +kernel
theorem dX12_kept_5 : decode cX12_kept 5 = .ok (.aload_n 0, 1) := by decide +kernel
theorem dX12_kept_6 : decode cX12_kept 6 = .ok (.iload_n 1, 1) := by decide +kernel
theorem dX12_kept_7 : decode cX12_kept 7 = .ok (.i2l, 1) := by decide +kernel
theorem dX12_kept_8 : decode cX12_kept 8 = .ok (.invokevirtual 292, 3) := by decide +kernel
theorem dX12_kept_11 : decode cX12_kept 11 = .ok (.ifCond .ne 6, 3) := by decide +kernel
theorem dX12_kept_14 : decode cX12_kept 14 = .ok (.bipush (-2), 2) := by decide +kernel
theorem dX12_kept_16 : decode cX12_kept 16 = .ok (.ireturn, 1) := by decide +kernel
theorem dX12_kept_17 : decode cX12_kept 17 = .ok (.aload_n 0, 1) := by decide +kernel
theorem dX12_kept_18 : decode cX12_kept 18 = .ok (.invokevirtual 336, 3) := by decide +kernel
theorem dX12_kept_21 : decode cX12_kept 21 = .ok (.iconst 0, 1) := by decide +kernel
theorem dX12_kept_22 : decode cX12_kept 22 = .ok (.istore_n 2, 1) := by decide +kernel
theorem dX12_kept_23 : decode cX12_kept 23 = .ok (.iconst 0, 1) := by decide +kernel
theorem dX12_kept_24 : decode cX12_kept 24 = .ok (.istore_n 3, 1) := by decide +kernel
theorem dX12_kept_25 : decode cX12_kept 25 = .ok (.iload_n 3, 1) := by decide +kernel
theorem dX12_kept_26 : decode cX12_kept 26 = .ok (.aload_n 0, 1) := by decide +kernel
theorem dX12_kept_27 : decode cX12_kept 27 = .ok (.getfield 71, 3) := by decide +kernel
theorem dX12_kept_30 : decode cX12_kept 30 = .ok (.iload_n 1, 1) := by decide +kernel
theorem dX12_kept_31 : decode cX12_kept 31 = .ok (.iaload, 1) := by decide +kernel
theorem dX12_kept_32 : decode cX12_kept 32 = .ok (.if_icmp .ge 25, 3) := by decide +kernel
theorem dX12_kept_35 : decode cX12_kept 35 = .ok (.iload_n 2, 1) := by decide +kernel
theorem dX12_kept_36 : decode cX12_kept 36 = .ok (.iconst 1, 1) := by decide +kernel
theorem dX12_kept_37 : decode cX12_kept 37 = .ok (.aload_n 0, 1) := by decide +kernel
theorem dX12_kept_38 : decode cX12_kept 38 = .ok (.getfield 68, 3) := by decide +kernel
theorem dX12_kept_41 : decode cX12_kept 41 = .ok (.bipush 8, 2) := by decide +kernel
theorem dX12_kept_43 : decode cX12_kept 43 = .ok (.iload_n 1, 1) := by decide +kernel
theorem dX12_kept_44 : decode cX12_kept 44 = .ok (.imul, 1) := by decide +kernel
theorem dX12_kept_45 : decode cX12_kept 45 = .ok (.iload_n 3, 1) := by decide +kernel
theorem dX12_kept_46 : decode cX12_kept 46 = .ok (.iadd, 1) := by decide +kernel
theorem dX12_kept_47 : decode cX12_kept 47 = .ok (.iaload, 1) := by decide +kernel
theorem dX12_kept_48 : decode cX12_kept 48 = .ok (.ishl, 1) := by decide +kernel
theorem dX12_kept_49 : decode cX12_kept 49 = .ok (.ior, 1) := by decide +kernel
theorem dX12_kept_50 : decode cX12_kept 50 = .ok (.istore_n 2, 1) := by decide +kernel
theorem dX12_kept_51 : decode cX12_kept 51 = .ok (.iinc 3 1, 3) := by decide +kernel
theorem dX12_kept_54 : decode cX12_kept 54 = .ok (.goto (-29), 3) := by decide +kernel
theorem dX12_kept_57 : decode cX12_kept 57 = .ok (.iload_n 2, 1) := by decide +kernel
theorem dX12_kept_58 : decode cX12_kept 58 = .ok (.ireturn, 1) := by decide +kernel
theorem dX12_last_0 : decode cX12_last 0 = .ok (.aload_n 0, 1) := by decide +kernel
theorem dX12_last_1 : decode cX12_last 1 = .ok (.iconst 0, 1) := by decide +kernel
theorem dX12_last_2 : decode cX12_last 2 = .ok (.putfield 116, 3) := by decide +kernel
theorem dX12_last_5 : decode cX12_last 5 = .ok (.aload_n 0, 1) := by decide +kernel
theorem dX12_last_6 : decode cX12_last 6 = .ok (.iload_n 1, 1) := by decide +kernel
theorem dX12_last_7 : decode cX12_last 7 = .ok (.iload_n 2, 1) := by decide +kernel
theorem dX12_last_8 : decode cX12_last 8 = .ok (.invokevirtual 353, 3) := by decide +kernel
theorem dX12_last_11 : decode cX12_last 11 = .ok (.ifCond .ne 6, 3) := by decide +kernel
theorem dX12_last_14 : decode cX12_last 14 = .ok (.bipush (-2), 2) := by decide +kernel
theorem dX12_last_16 : decode cX12_last 16 = .ok (.ireturn, 1) := by decide +kernel
theorem dX12_last_17 : decode cX12_last 17 = .ok (.aload_n 0, 1) := by decide +kernel
theorem dX12_last_18 : decode cX12_last 18 = .ok (.invokevirtual 336, 3) := by decide +kernel
theorem dX12_last_21 : decode cX12_last 21 = .ok (.aload_n 0, 1) := by decide +kernel
theorem dX12_last_22 : decode cX12_last 22 = .ok (.getfield 95, 3) := by decide +kernel
theorem dX12_last_25 : decode cX12_last 25 = .ok (.iconst 3, 1) := by decide +kernel
theorem dX12_last_26 : decode cX12_last 26 = .ok (.iload_n 2, 1) := by decide +kernel
theorem dX12_last_27 : decode cX12_last 27 = .ok (.imul, 1) := by decide +kernel
theorem dX12_last_28 : decode cX12_last 28 = .ok (.iload_n 1, 1) := by decide +kernel
theorem dX12_last_29 : decode cX12_last 29 = .ok (.iadd, 1) := by decide +kernel
theorem dX12_last_30 : decode cX12_last 30 = .ok (.iaload, 1) := by decide +kernel
theorem dX12_last_31 : decode cX12_last 31 = .ok (.istore_n 3, 1) := by decide +kernel
theorem dX12_last_32 : decode cX12_last 32 = .ok (.iload_n 3, 1) := by decide +kernel
theorem dX12_last_33 : decode cX12_last 33 = .ok (.ifCond .ne 7, 3) := by decide +kernel
theorem dX12_last_36 : decode cX12_last 36 = .ok (.iconst (-1), 1) := by decide +kernel
theorem dX12_last_37 : decode cX12_last 37 = .ok (.goto 20, 3) := by decide +kernel
theorem dX12_last_40 : decode cX12_last 40 = .ok (.aload_n 0, 1) := by decide +kernel
theorem dX12_last_41 : decode cX12_last 41 = .ok (.getfield 101, 3) := by decide +kernel
theorem dX12_last_44 : decode cX12_last 44 = .ok (.bipush 8, 2) := by decide +kernel
theorem dX12_last_46 : decode cX12_last 46 = .ok (.iconst 3, 1) := by decide +kernel
theorem dX12_last_47 : decode cX12_last 47 = .ok (.iload_n 2, 1) := by decide +kernel
theorem dX12_last_48 : decode cX12_last 48 = .ok (.imul, 1) := by decide +kernel
theorem dX12_last_49 : decode cX12_last 49 = .ok (.iload_n 1, 1) := by decide +kernel
theorem dX12_last_50 : decode cX12_last 50 = .ok (.iadd, 1) := by decide +kernel
theorem dX12_last_51 : decode cX12_last 51 = .ok (.imul, 1) := by decide +kernel
theorem dX12_last_52 : decode cX12_last 52 = .ok (.iload_n 3, 1) := by decide +kernel
theorem dX12_last_53 : decode cX12_last 53 = .ok (.iadd, 1) := by decide +kernel
theorem dX12_last_54 : decode cX12_last 54 = .ok (.iconst 1, 1) := by decide +kernel
theorem dX12_last_55 : decode cX12_last 55 = .ok (.isub, 1) := by decide +kernel
theorem dX12_last_56 : decode cX12_last 56 = .ok (.iaload, 1) := by decide +kernel
theorem dX12_last_57 : decode cX12_last 57 = .ok (.ireturn, 1) := by decide +kernel
theorem dX12_load_0 : decode cX12_load 0 = .ok (.aload_n 0, 1) := by decide +kernel
theorem dX12_load_1 : decode cX12_load 1 = .ok (.iconst 0, 1) := by decide +kernel
theorem dX12_load_2 : decode cX12_load 2 = .ok (.putfield 116, 3) := by decide +kernel
theorem dX12_load_5 : decode cX12_load 5 = .ok (.aload_n 0, 1) := by decide +kernel
theorem dX12_load_6 : decode cX12_load 6 = .ok (.iload_n 1, 1) := by decide +kernel
theorem dX12_load_7 : decode cX12_load 7 = .ok (.iload_n 2, 1) := by decide +kernel
theorem dX12_load_8 : decode cX12_load 8 = .ok (.invokevirtual 353, 3) := by decide +kernel
theorem dX12_load_11 : decode cX12_load 11 = .ok (.ifCond .ne 6, 3) := by decide +kernel
theorem dX12_load_14 : decode cX12_load 14 = .ok (.bipush (-2), 2) := by decide +kernel
theorem dX12_load_16 : decode cX12_load 16 = .ok (.ireturn, 1) := by decide +kernel
theorem dX12_load_17 : decode cX12_load 17 = .ok (.aload_n 0, 1) := by decide +kernel
theorem dX12_load_18 : decode cX12_load 18 = .ok (.invokevirtual 336, 3) := by decide +kernel
theorem dX12_load_21 : decode cX12_load 21 = .ok (.iload_n 3, 1) := by decide +kernel
theorem dX12_load_22 : decode cX12_load 22 = .ok (.i2l, 1) := by decide +kernel
theorem dX12_load_23 : decode cX12_load 23 = .ok (.lconst 0, 1) := by decide +kernel
theorem dX12_load_24 : decode cX12_load 24 = .ok (.aload_n 0, 1) := by decide +kernel
theorem dX12_load_25 : decode cX12_load 25 = .ok (.getfield 95, 3) := by decide +kernel
theorem dX12_load_28 : decode cX12_load 28 = .ok (.iconst 3, 1) := by decide +kernel
theorem dX12_load_29 : decode cX12_load 29 = .ok (.iload_n 2, 1) := by decide +kernel
theorem dX12_load_30 : decode cX12_load 30 = .ok (.imul, 1) := by decide +kernel
theorem dX12_load_31 : decode cX12_load 31 = .ok (.iload_n 1, 1) := by decide +kernel
theorem dX12_load_32 : decode cX12_load 32 = .ok (.iadd, 1) := by decide +kernel
theorem dX12_load_33 : decode cX12_load 33 = .ok (.iaload, 1) := by decide +kernel
theorem dX12_load_34 : decode cX12_load 34 = .ok (.i2l, 1) := by decide +kernel
theorem dX12_load_35 : decode cX12_load 35 = .ok (.lconst 1, 1) := by decide +kernel
theorem dX12_load_36 : decode cX12_load 36 = .ok (.lsub, 1) := by decide +kernel
theorem dX12_load_37 : decode cX12_load 37 = .ok (.invokestatic 121, 3) := by decide +kernel
theorem dX12_load_40 : decode cX12_load 40 = .ok (.ifCond .eq 21, 3) := by decide +kernel
theorem dX12_load_43 : decode cX12_load 43 = .ok (.aload_n 0, 1) := by decide +kernel
theorem dX12_load_44 : decode cX12_load 44 = .ok (.getfield 101, 3) := by decide +kernel
theorem dX12_load_47 : decode cX12_load 47 = .ok (.bipush 8, 2) := by decide +kernel
theorem dX12_load_49 : decode cX12_load 49 = .ok (.iconst 3, 1) := by decide +kernel
theorem dX12_load_50 : decode cX12_load 50 = .ok (.iload_n 2, 1) := by decide +kernel
theorem dX12_load_51 : decode cX12_load 51 = .ok (.imul, 1) := by decide +kernel
theorem dX12_load_52 : decode cX12_load 52 = .ok (.iload_n 1, 1) := by decide +kernel
theorem dX12_load_53 : decode cX12_load 53 = .ok (.iadd, 1) := by decide +kernel
theorem dX12_load_54 : decode cX12_load 54 = .ok (.imul, 1) := by decide +kernel
theorem dX12_load_55 : decode cX12_load 55 = .ok (.iload_n 3, 1) := by decide +kernel
theorem dX12_load_56 : decode cX12_load 56 = .ok (.iadd, 1) := by decide +kernel
theorem dX12_load_57 : decode cX12_load 57 = .ok (.iaload, 1) := by decide +kernel
theorem dX12_load_58 : decode cX12_load 58 = .ok (.goto 4, 3) := by decide +kernel
theorem dX12_load_61 : decode cX12_load 61 = .ok (.iconst (-1), 1) := by decide +kernel
theorem dX12_load_62 : decode cX12_load 62 = .ok (.ireturn, 1) := by decide +kernel
theorem dX12_loudest_0 : decode cX12_loudest 0 = .ok (.aload_n 0, 1) := by decide +kernel
theorem dX12_loudest_1 : decode cX12_loudest 1 = .ok (.iconst 0, 1) := by decide +kernel
theorem dX12_loudest_2 : decode cX12_loudest 2 = .ok (.putfield 116, 3) := by decide +kernel
theorem dX12_loudest_5 : decode cX12_loudest 5 = .ok (.aload_n 0, 1) := by decide +kernel
theorem dX12_loudest_6 : decode cX12_loudest 6 = .ok (.invokevirtual 350, 3) := by decide +kernel
theorem dX12_loudest_9 : decode cX12_loudest 9 = .ok (.ifCond .ne 6, 3) := by decide +kernel
theorem dX12_loudest_12 : decode cX12_loudest 12 = .ok (.bipush (-2), 2) := by decide +kernel
theorem dX12_loudest_14 : decode cX12_loudest 14 = .ok (.ireturn, 1) := by decide +kernel
theorem dX12_loudest_15 : decode cX12_loudest 15 = .ok (.aload_n 0, 1) := by decide +kernel
theorem dX12_loudest_16 : decode cX12_loudest 16 = .ok (.invokevirtual 336, 3) := by decide +kernel
theorem dX12_loudest_19 : decode cX12_loudest 19 = .ok (.iconst (-1), 1) := by decide +kernel
theorem dX12_loudest_20 : decode cX12_loudest 20 = .ok (.istore_n 1, 1) := by decide +kernel
theorem dX12_loudest_21 : decode cX12_loudest 21 = .ok (.iconst 0, 1) := by decide +kernel
theorem dX12_loudest_22 : decode cX12_loudest 22 = .ok (.istore_n 2, 1) := by decide +kernel
theorem dX12_loudest_23 : decode cX12_loudest 23 = .ok (.iconst 0, 1) := by decide +kernel
theorem dX12_loudest_24 : decode cX12_loudest 24 = .ok (.istore_n 3, 1) := by decide +kernel
theorem dX12_loudest_25 : decode cX12_loudest 25 = .ok (.iload_n 3, 1) := by decide +kernel
theorem dX12_loudest_26 : decode cX12_loudest 26 = .ok (.aload_n 0, 1) := by decide +kernel
theorem dX12_loudest_27 : decode cX12_loudest 27 = .ok (.invokevirtual 286, 3) := by decide +kernel
theorem dX12_loudest_30 : decode cX12_loudest 30 = .ok (.if_icmp .ge 31, 3) := by decide +kernel
theorem dX12_loudest_33 : decode cX12_loudest 33 = .ok (.aload_n 0, 1) := by decide +kernel
theorem dX12_loudest_34 : decode cX12_loudest 34 = .ok (.getfield 89, 3) := by decide +kernel
theorem dX12_loudest_37 : decode cX12_loudest 37 = .ok (.iload_n 3, 1) := by decide +kernel
theorem dX12_loudest_38 : decode cX12_loudest 38 = .ok (.iaload, 1) := by decide +kernel
theorem dX12_loudest_39 : decode cX12_loudest 39 = .ok (.iload_n 2, 1) := by decide +kernel
theorem dX12_loudest_40 : decode cX12_loudest 40 = .ok (.if_icmp .gt 6, 3) := by decide +kernel
theorem dX12_loudest_43 : decode cX12_loudest 43 = .ok (.goto 12, 3) := by decide +kernel
theorem dX12_loudest_46 : decode cX12_loudest 46 = .ok (.iload_n 3, 1) := by decide +kernel
theorem dX12_loudest_47 : decode cX12_loudest 47 = .ok (.istore_n 1, 1) := by decide +kernel
theorem dX12_loudest_48 : decode cX12_loudest 48 = .ok (.aload_n 0, 1) := by decide +kernel
theorem dX12_loudest_49 : decode cX12_loudest 49 = .ok (.getfield 89, 3) := by decide +kernel
theorem dX12_loudest_52 : decode cX12_loudest 52 = .ok (.iload_n 3, 1) := by decide +kernel
theorem dX12_loudest_53 : decode cX12_loudest 53 = .ok (.iaload, 1) := by decide +kernel
theorem dX12_loudest_54 : decode cX12_loudest 54 = .ok (.istore_n 2, 1) := by decide +kernel
theorem dX12_loudest_55 : decode cX12_loudest 55 = .ok (.iinc 3 1, 3) := by decide +kernel
theorem dX12_loudest_58 : decode cX12_loudest 58 = .ok (.goto (-33), 3) := by decide +kernel
theorem dX12_loudest_61 : decode cX12_loudest 61 = .ok (.iload_n 1, 1) := by decide +kernel
theorem dX12_loudest_62 : decode cX12_loudest 62 = .ok (.ireturn, 1) := by decide +kernel
theorem dX12_most_0 : decode cX12_most 0 = .ok (.aload_n 0, 1) := by decide +kernel
theorem dX12_most_1 : decode cX12_most 1 = .ok (.iconst 0, 1) := by decide +kernel
theorem dX12_most_2 : decode cX12_most 2 = .ok (.putfield 116, 3) := by decide +kernel
theorem dX12_most_5 : decode cX12_most 5 = .ok (.aload_n 0, 1) := by decide +kernel
theorem dX12_most_6 : decode cX12_most 6 = .ok (.iload_n 1, 1) := by decide +kernel
theorem dX12_most_7 : decode cX12_most 7 = .ok (.iload_n 2, 1) := by decide +kernel
theorem dX12_most_8 : decode cX12_most 8 = .ok (.invokevirtual 353, 3) := by decide +kernel
theorem dX12_most_11 : decode cX12_most 11 = .ok (.ifCond .ne 6, 3) := by decide +kernel
theorem dX12_most_14 : decode cX12_most 14 = .ok (.bipush (-2), 2) := by decide +kernel
theorem dX12_most_16 : decode cX12_most 16 = .ok (.ireturn, 1) := by decide +kernel
theorem dX12_most_17 : decode cX12_most 17 = .ok (.aload_n 0, 1) := by decide +kernel
theorem dX12_most_18 : decode cX12_most 18 = .ok (.invokevirtual 336, 3) := by decide +kernel
theorem dX12_most_21 : decode cX12_most 21 = .ok (.iconst 1, 1) := by decide +kernel
theorem dX12_most_22 : decode cX12_most 22 = .ok (.istore_n 3, 1) := by decide +kernel
theorem dX12_most_23 : decode cX12_most 23 = .ok (.iload_n 3, 1) := by decide +kernel
theorem dX12_most_24 : decode cX12_most 24 = .ok (.bipush 99, 2) := by decide +kernel
theorem dX12_most_26 : decode cX12_most 26 = .ok (.if_icmp .gt 39, 3) := by decide +kernel
theorem dX12_most_29 : decode cX12_most 29 = .ok (.aload_n 0, 1) := by decide +kernel
theorem dX12_most_30 : decode cX12_most 30 = .ok (.getfield 77, 3) := by decide +kernel
theorem dX12_most_33 : decode cX12_most 33 = .ok (.iload_n 1, 1) := by decide +kernel
theorem dX12_most_34 : decode cX12_most 34 = .ok (.iaload, 1) := by decide +kernel
theorem dX12_most_35 : decode cX12_most 35 = .ok (.iload_n 2, 1) := by decide +kernel
theorem dX12_most_36 : decode cX12_most 36 = .ok (.if_icmp .le 29, 3) := by decide +kernel
theorem dX12_most_39 : decode cX12_most 39 = .ok (.aload_n 0, 1) := by decide +kernel
theorem dX12_most_40 : decode cX12_most 40 = .ok (.iload_n 1, 1) := by decide +kernel
theorem dX12_most_41 : decode cX12_most 41 = .ok (.iload_n 2, 1) := by decide +kernel
theorem dX12_most_42 : decode cX12_most 42 = .ok (.iload_n 3, 1) := by decide +kernel
theorem dX12_most_43 : decode cX12_most 43 = .ok (.invokevirtual 359, 3) := by decide +kernel
theorem dX12_most_46 : decode cX12_most 46 = .ok (.aload_n 0, 1) := by decide +kernel
theorem dX12_most_47 : decode cX12_most 47 = .ok (.getfield 37, 3) := by decide +kernel
theorem dX12_most_50 : decode cX12_most 50 = .ok (.iconst 2, 1) := by decide +kernel
theorem dX12_most_51 : decode cX12_most 51 = .ok (.iload_n 1, 1) := by decide +kernel
theorem dX12_most_52 : decode cX12_most 52 = .ok (.imul, 1) := by decide +kernel
theorem dX12_most_53 : decode cX12_most 53 = .ok (.iaload, 1) := by decide +kernel
theorem dX12_most_54 : decode cX12_most 54 = .ok (.if_icmp .le 5, 3) := by decide +kernel
theorem dX12_most_57 : decode cX12_most 57 = .ok (.iload_n 3, 1) := by decide +kernel
theorem dX12_most_58 : decode cX12_most 58 = .ok (.ireturn, 1) := by decide +kernel
theorem dX12_most_59 : decode cX12_most 59 = .ok (.iinc 3 1, 3) := by decide +kernel
theorem dX12_most_62 : decode cX12_most 62 = .ok (.goto (-39), 3) := by decide +kernel
theorem dX12_most_65 : decode cX12_most 65 = .ok (.iconst (-1), 1) := by decide +kernel
theorem dX12_most_66 : decode cX12_most 66 = .ok (.ireturn, 1) := by decide +kernel
theorem dX12_over_0 : decode cX12_over 0 = .ok (.aload_n 0, 1) := by decide +kernel
theorem dX12_over_1 : decode cX12_over 1 = .ok (.iconst 0, 1) := by decide +kernel
theorem dX12_over_2 : decode cX12_over 2 = .ok (.putfield 116, 3) := by decide +kernel
theorem dX12_over_5 : decode cX12_over 5 = .ok (.aload_n 0, 1) := by decide +kernel
theorem dX12_over_6 : decode cX12_over 6 = .ok (.iload_n 1, 1) := by decide +kernel
theorem dX12_over_7 : decode cX12_over 7 = .ok (.i2l, 1) := by decide +kernel
theorem dX12_over_8 : decode cX12_over 8 = .ok (.invokevirtual 292, 3) := by decide +kernel
theorem dX12_over_11 : decode cX12_over 11 = .ok (.ifCond .ne 6, 3) := by decide +kernel
theorem dX12_over_14 : decode cX12_over 14 = .ok (.bipush (-2), 2) := by decide +kernel
theorem dX12_over_16 : decode cX12_over 16 = .ok (.ireturn, 1) := by decide +kernel
theorem dX12_over_17 : decode cX12_over 17 = .ok (.aload_n 0, 1) := by decide +kernel
theorem dX12_over_18 : decode cX12_over 18 = .ok (.invokevirtual 336, 3) := by decide +kernel
theorem dX12_over_21 : decode cX12_over 21 = .ok (.aload_n 0, 1) := by decide +kernel
theorem dX12_over_22 : decode cX12_over 22 = .ok (.iload_n 1, 1) := by decide +kernel
theorem dX12_over_23 : decode cX12_over 23 = .ok (.invokevirtual 347, 3) := by decide +kernel
theorem dX12_over_26 : decode cX12_over 26 = .ok (.ireturn, 1) := by decide +kernel
theorem dX12_pays_0 : decode cX12_pays 0 = .ok (.aload_n 0, 1) := by decide +kernel
theorem dX12_pays_1 : decode cX12_pays 1 = .ok (.iconst 0, 1) := by decide +kernel
theorem dX12_pays_2 : decode cX12_pays 2 = .ok (.putfield 116, 3) := by decide +kernel
theorem dX12_pays_5 : decode cX12_pays 5 = .ok (.aload_n 0, 1) := by decide +kernel
theorem dX12_pays_6 : decode cX12_pays 6 = .ok (.iload_n 1, 1) := by decide +kernel
theorem dX12_pays_7 : decode cX12_pays 7 = .ok (.i2l, 1) := by decide +kernel
theorem dX12_pays_8 : decode cX12_pays 8 = .ok (.invokevirtual 289, 3) := by decide +kernel
theorem dX12_pays_11 : decode cX12_pays 11 = .ok (.ifCond .ne 6, 3) := by decide +kernel
theorem dX12_pays_14 : decode cX12_pays 14 = .ok (.bipush (-2), 2) := by decide +kernel
theorem dX12_pays_16 : decode cX12_pays 16 = .ok (.ireturn, 1) := by decide +kernel
theorem dX12_pays_17 : decode cX12_pays 17 = .ok (.aload_n 0, 1) := by decide +kernel
theorem dX12_pays_18 : decode cX12_pays 18 = .ok (.invokevirtual 336, 3) := by decide +kernel
theorem dX12_pays_21 : decode cX12_pays 21 = .ok (.aload_n 0, 1) := by decide +kernel
theorem dX12_pays_22 : decode cX12_pays 22 = .ok (.iload_n 1, 1) := by decide +kernel
theorem dX12_pays_23 : decode cX12_pays 23 = .ok (.invokevirtual 356, 3) := by decide +kernel
theorem dX12_pays_26 : decode cX12_pays 26 = .ok (.ireturn, 1) := by decide +kernel
theorem dX12_sag_0 : decode cX12_sag 0 = .ok (.aload_n 0, 1) := by decide +kernel
theorem dX12_sag_1 : decode cX12_sag 1 = .ok (.iconst 0, 1) := by decide +kernel
theorem dX12_sag_2 : decode cX12_sag 2 = .ok (.putfield 116, 3) := by decide +kernel
theorem dX12_sag_5 : decode cX12_sag 5 = .ok (.aload_n 0, 1) := by decide +kernel
theorem dX12_sag_6 : decode cX12_sag 6 = .ok (.iload_n 1, 1) := by decide +kernel
theorem dX12_sag_7 : decode cX12_sag 7 = .ok (.iload_n 2, 1) := by decide +kernel
theorem dX12_sag_8 : decode cX12_sag 8 = .ok (.invokevirtual 353, 3) := by decide +kernel
theorem dX12_sag_11 : decode cX12_sag 11 = .ok (.ifCond .ne 6, 3) := by decide +kernel
theorem dX12_sag_14 : decode cX12_sag 14 = .ok (.bipush (-2), 2) := by decide +kernel
theorem dX12_sag_16 : decode cX12_sag 16 = .ok (.ireturn, 1) := by decide +kernel
theorem dX12_sag_17 : decode cX12_sag 17 = .ok (.aload_n 0, 1) := by decide +kernel
theorem dX12_sag_18 : decode cX12_sag 18 = .ok (.invokevirtual 336, 3) := by decide +kernel
theorem dX12_sag_21 : decode cX12_sag 21 = .ok (.aload_n 0, 1) := by decide +kernel
theorem dX12_sag_22 : decode cX12_sag 22 = .ok (.getfield 98, 3) := by decide +kernel
theorem dX12_sag_25 : decode cX12_sag 25 = .ok (.iconst 3, 1) := by decide +kernel
theorem dX12_sag_26 : decode cX12_sag 26 = .ok (.iload_n 2, 1) := by decide +kernel
theorem dX12_sag_27 : decode cX12_sag 27 = .ok (.imul, 1) := by decide +kernel
theorem dX12_sag_28 : decode cX12_sag 28 = .ok (.iload_n 1, 1) := by decide +kernel
theorem dX12_sag_29 : decode cX12_sag 29 = .ok (.iadd, 1) := by decide +kernel
theorem dX12_sag_30 : decode cX12_sag 30 = .ok (.iaload, 1) := by decide +kernel
theorem dX12_sag_31 : decode cX12_sag 31 = .ok (.ireturn, 1) := by decide +kernel
theorem dX12_spare_0 : decode cX12_spare 0 = .ok (.aload_n 0, 1) := by decide +kernel
theorem dX12_spare_1 : decode cX12_spare 1 = .ok (.iconst 0, 1) := by decide +kernel
theorem dX12_spare_2 : decode cX12_spare 2 = .ok (.putfield 116, 3) := by decide +kernel
theorem dX12_spare_5 : decode cX12_spare 5 = .ok (.aload_n 0, 1) := by decide +kernel
theorem dX12_spare_6 : decode cX12_spare 6 = .ok (.iload_n 1, 1) := by decide +kernel
theorem dX12_spare_7 : decode cX12_spare 7 = .ok (.i2l, 1) := by decide +kernel
theorem dX12_spare_8 : decode cX12_spare 8 = .ok (.invokevirtual 292, 3) := by decide +kernel
theorem dX12_spare_11 : decode cX12_spare 11 = .ok (.ifCond .ne 7, 3) := by decide +kernel
theorem dX12_spare_14 : decode cX12_spare 14 = .ok (.sipush (-1000), 3) := by decide +kernel
theorem dX12_spare_17 : decode cX12_spare 17 = .ok (.ireturn, 1) := by decide +kernel
theorem dX12_spare_18 : decode cX12_spare 18 = .ok (.aload_n 0, 1) := by decide +kernel
theorem dX12_spare_19 : decode cX12_spare 19 = .ok (.invokevirtual 336, 3) := by decide +kernel
theorem dX12_spare_22 : decode cX12_spare 22 = .ok (.aload_n 0, 1) := by decide +kernel
theorem dX12_spare_23 : decode cX12_spare 23 = .ok (.getfield 37, 3) := by decide +kernel
theorem dX12_spare_26 : decode cX12_spare 26 = .ok (.iconst 2, 1) := by decide +kernel
theorem dX12_spare_27 : decode cX12_spare 27 = .ok (.iload_n 1, 1) := by decide +kernel
theorem dX12_spare_28 : decode cX12_spare 28 = .ok (.imul, 1) := by decide +kernel
theorem dX12_spare_29 : decode cX12_spare 29 = .ok (.iaload, 1) := by decide +kernel
theorem dX12_spare_30 : decode cX12_spare 30 = .ok (.aload_n 0, 1) := by decide +kernel
theorem dX12_spare_31 : decode cX12_spare 31 = .ok (.iload_n 1, 1) := by decide +kernel
theorem dX12_spare_32 : decode cX12_spare 32 = .ok (.invokevirtual 317, 3) := by decide +kernel
theorem dX12_spare_35 : decode cX12_spare 35 = .ok (.isub, 1) := by decide +kernel
theorem dX12_spare_36 : decode cX12_spare 36 = .ok (.ireturn, 1) := by decide +kernel
theorem dX12_tolls_0 : decode cX12_tolls 0 = .ok (.aload_n 0, 1) := by decide +kernel
theorem dX12_tolls_1 : decode cX12_tolls 1 = .ok (.iconst 0, 1) := by decide +kernel
theorem dX12_tolls_2 : decode cX12_tolls 2 = .ok (.putfield 116, 3) := by decide +kernel
theorem dX12_tolls_5 : decode cX12_tolls 5 = .ok (.aload_n 0, 1) := by decide +kernel
theorem dX12_tolls_6 : decode cX12_tolls 6 = .ok (.invokevirtual 350, 3) := by decide +kernel
theorem dX12_tolls_9 : decode cX12_tolls 9 = .ok (.ifCond .ne 6, 3) := by decide +kernel
theorem dX12_tolls_12 : decode cX12_tolls 12 = .ok (.bipush (-2), 2) := by decide +kernel
theorem dX12_tolls_14 : decode cX12_tolls 14 = .ok (.ireturn, 1) := by decide +kernel
theorem dX12_tolls_15 : decode cX12_tolls 15 = .ok (.aload_n 0, 1) := by decide +kernel
theorem dX12_tolls_16 : decode cX12_tolls 16 = .ok (.invokevirtual 336, 3) := by decide +kernel
theorem dX12_tolls_19 : decode cX12_tolls 19 = .ok (.iconst 0, 1) := by decide +kernel
theorem dX12_tolls_20 : decode cX12_tolls 20 = .ok (.istore_n 1, 1) := by decide +kernel
theorem dX12_tolls_21 : decode cX12_tolls 21 = .ok (.iconst 0, 1) := by decide +kernel
theorem dX12_tolls_22 : decode cX12_tolls 22 = .ok (.istore_n 2, 1) := by decide +kernel
theorem dX12_tolls_23 : decode cX12_tolls 23 = .ok (.iload_n 2, 1) := by decide +kernel
theorem dX12_tolls_24 : decode cX12_tolls 24 = .ok (.aload_n 0, 1) := by decide +kernel
theorem dX12_tolls_25 : decode cX12_tolls 25 = .ok (.invokevirtual 286, 3) := by decide +kernel
theorem dX12_tolls_28 : decode cX12_tolls 28 = .ok (.if_icmp .ge 17, 3) := by decide +kernel
theorem dX12_tolls_31 : decode cX12_tolls 31 = .ok (.iload_n 1, 1) := by decide +kernel
theorem dX12_tolls_32 : decode cX12_tolls 32 = .ok (.aload_n 0, 1) := by decide +kernel
theorem dX12_tolls_33 : decode cX12_tolls 33 = .ok (.iload_n 2, 1) := by decide +kernel
theorem dX12_tolls_34 : decode cX12_tolls 34 = .ok (.invokevirtual 356, 3) := by decide +kernel
theorem dX12_tolls_37 : decode cX12_tolls 37 = .ok (.iadd, 1) := by decide +kernel
theorem dX12_tolls_38 : decode cX12_tolls 38 = .ok (.istore_n 1, 1) := by decide +kernel
theorem dX12_tolls_39 : decode cX12_tolls 39 = .ok (.iinc 2 1, 3) := by decide +kernel
theorem dX12_tolls_42 : decode cX12_tolls 42 = .ok (.goto (-19), 3) := by decide +kernel
theorem dX12_tolls_45 : decode cX12_tolls 45 = .ok (.iload_n 1, 1) := by decide +kernel
theorem dX12_tolls_46 : decode cX12_tolls 46 = .ok (.ireturn, 1) := by decide +kernel
theorem dX12_waits_0 : decode cX12_waits 0 = .ok (.aload_n 0, 1) := by decide +kernel
theorem dX12_waits_1 : decode cX12_waits 1 = .ok (.iconst 0, 1) := by decide +kernel
theorem dX12_waits_2 : decode cX12_waits 2 = .ok (.putfield 116, 3) := by decide +kernel
theorem dX12_waits_5 : decode cX12_waits 5 = .ok (.aload_n 0, 1) := by decide +kernel
theorem dX12_waits_6 : decode cX12_waits 6 = .ok (.invokevirtual 350, 3) := by decide +kernel
theorem dX12_waits_9 : decode cX12_waits 9 = .ok (.ifCond .ne 6, 3) := by decide +kernel
theorem dX12_waits_12 : decode cX12_waits 12 = .ok (.bipush (-2), 2) := by decide +kernel
theorem dX12_waits_14 : decode cX12_waits 14 = .ok (.ireturn, 1) := by decide +kernel
theorem dX12_waits_15 : decode cX12_waits 15 = .ok (.aload_n 0, 1) := by decide +kernel
theorem dX12_waits_16 : decode cX12_waits 16 = .ok (.invokevirtual 336, 3) := by decide +kernel
theorem dX12_waits_19 : decode cX12_waits 19 = .ok (.aload_n 0, 1) := by decide +kernel
theorem dX12_waits_20 : decode cX12_waits 20 = .ok (.iconst (-1), 1) := by decide +kernel
theorem dX12_waits_21 : decode cX12_waits 21 = .ok (.invokevirtual 347, 3) := by decide +kernel
theorem dX12_waits_24 : decode cX12_waits 24 = .ok (.ireturn, 1) := by decide +kernel
theorem dX12_ward_0 : decode cX12_ward 0 = .ok (.aload_n 0, 1) := by decide +kernel
theorem dX12_ward_1 : decode cX12_ward 1 = .ok (.iconst 0, 1) := by decide +kernel
theorem dX12_ward_2 : decode cX12_ward 2 = .ok (.putfield 116, 3) := by decide +kernel
theorem dX12_ward_5 : decode cX12_ward 5 = .ok (.iload_n 1, 1) := by decide +kernel
theorem dX12_ward_6 : decode cX12_ward 6 = .ok (.i2l, 1) := by decide +kernel
theorem dX12_ward_7 : decode cX12_ward 7 = .ok (.lconst 0, 1) := by decide +kernel
theorem dX12_ward_8 : decode cX12_ward 8 = .ok (.aload_n 0, 1) := by decide +kernel
theorem dX12_ward_9 : decode cX12_ward 9 = .ok (.getfield 34, 3) := by decide +kernel
theorem dX12_ward_12 : decode cX12_ward 12 = .ok (.iconst 5, 1) := by decide +kernel
theorem dX12_ward_13 : decode cX12_ward 13 = .ok (.iaload, 1) := by decide +kernel
theorem dX12_ward_14 : decode cX12_ward 14 = .ok (.i2l, 1) := by decide +kernel
theorem dX12_ward_15 : decode cX12_ward 15 = .ok (.lconst 1, 1) := by decide +kernel
theorem dX12_ward_16 : decode cX12_ward 16 = .ok (.lsub, 1) := by decide +kernel
theorem dX12_ward_17 : decode cX12_ward 17 = .ok (.invokestatic 121, 3) := by decide +kernel
theorem dX12_ward_20 : decode cX12_ward 20 = .ok (.ifCond .eq 28, 3) := by decide +kernel
theorem dX12_ward_23 : decode cX12_ward 23 = .ok (.iload_n 2, 1) := by decide +kernel
theorem dX12_ward_24 : decode cX12_ward 24 = .ok (.i2l, 1) := by decide +kernel
theorem dX12_ward_25 : decode cX12_ward 25 = .ok (.lconst 0, 1) := by decide +kernel
theorem dX12_ward_26 : decode cX12_ward 26 = .ok (.ldc2_w 345, 3) := by decide +kernel
theorem dX12_ward_29 : decode cX12_ward 29 = .ok (.invokestatic 121, 3) := by decide +kernel
theorem dX12_ward_32 : decode cX12_ward 32 = .ok (.ifCond .eq 16, 3) := by decide +kernel
theorem dX12_ward_35 : decode cX12_ward 35 = .ok (.aload_n 0, 1) := by decide +kernel
theorem dX12_ward_36 : decode cX12_ward 36 = .ok (.getfield 43, 3) := by decide +kernel
theorem dX12_ward_39 : decode cX12_ward 39 = .ok (.iconst 3, 1) := by decide +kernel
theorem dX12_ward_40 : decode cX12_ward 40 = .ok (.iload_n 1, 1) := by decide +kernel
theorem dX12_ward_41 : decode cX12_ward 41 = .ok (.imul, 1) := by decide +kernel
theorem dX12_ward_42 : decode cX12_ward 42 = .ok (.iload_n 2, 1) := by decide +kernel
theorem dX12_ward_43 : decode cX12_ward 43 = .ok (.iadd, 1) := by decide +kernel
theorem dX12_ward_44 : decode cX12_ward 44 = .ok (.iaload, 1) := by decide +kernel
theorem dX12_ward_45 : decode cX12_ward 45 = .ok (.goto 5, 3) := by decide +kernel
theorem dX12_ward_48 : decode cX12_ward 48 = .ok (.bipush (-2), 2) := by decide +kernel
theorem dX12_ward_50 : decode cX12_ward 50 = .ok (.ireturn, 1) := by decide +kernel
theorem dX12_wipes_0 : decode cX12_wipes 0 = .ok (.aload_n 0, 1) := by decide +kernel
theorem dX12_wipes_1 : decode cX12_wipes 1 = .ok (.iconst 0, 1) := by decide +kernel
theorem dX12_wipes_2 : decode cX12_wipes 2 = .ok (.putfield 116, 3) := by decide +kernel
theorem dX12_wipes_5 : decode cX12_wipes 5 = .ok (.aload_n 0, 1) := by decide +kernel
theorem dX12_wipes_6 : decode cX12_wipes 6 = .ok (.iload_n 1, 1) := by decide +kernel
theorem dX12_wipes_7 : decode cX12_wipes 7 = .ok (.i2l, 1) := by decide +kernel
theorem dX12_wipes_8 : decode cX12_wipes 8 = .ok (.invokevirtual 289, 3) := by decide +kernel
theorem dX12_wipes_11 : decode cX12_wipes 11 = .ok (.ifCond .ne 6, 3) := by decide +kernel
theorem dX12_wipes_14 : decode cX12_wipes 14 = .ok (.bipush (-2), 2) := by decide +kernel
theorem dX12_wipes_16 : decode cX12_wipes 16 = .ok (.ireturn, 1) := by decide +kernel
theorem dX12_wipes_17 : decode cX12_wipes 17 = .ok (.aload_n 0, 1) := by decide +kernel
theorem dX12_wipes_18 : decode cX12_wipes 18 = .ok (.invokevirtual 336, 3) := by decide +kernel
theorem dX12_wipes_21 : decode cX12_wipes 21 = .ok (.aload_n 0, 1) := by decide +kernel
theorem dX12_wipes_22 : decode cX12_wipes 22 = .ok (.getfield 92, 3) := by decide +kernel
theorem dX12_wipes_25 : decode cX12_wipes 25 = .ok (.iload_n 1, 1) := by decide +kernel
theorem dX12_wipes_26 : decode cX12_wipes 26 = .ok (.iaload, 1) := by decide +kernel
theorem dX12_wipes_27 : decode cX12_wipes 27 = .ok (.ireturn, 1) := by decide +kernel
