theorem dX11_all_0 : decode cX11_all 0 = .ok (.aload_n 0, 1) := by decide +kernel
theorem dX11_all_1 : decode cX11_all 1 = .ok (.getfield 19, 3) := by decide +kernel
theorem dX11_all_4 : decode cX11_all 4 = .ok (.iload_n 1, 1) := by decide +kernel
theorem dX11_all_5 : decode cX11_all 5 = .ok (.invokevirtual 141, 3) := by decide +kernel
theorem dX11_all_8 : decode cX11_all 8 = .ok (.ifCond .eq 17, 3) := by decide +kernel
theorem dX11_all_11 : decode cX11_all 11 = .ok (.aload_n 0, 1) := by decide +kernel
theorem dX11_all_12 : decode cX11_all 12 = .ok (.getfield 45, 3) := by decide +kernel
theorem dX11_all_15 : decode cX11_all 15 = .ok (.iload_n 1, 1) := by decide +kernel
theorem dX11_all_16 : decode cX11_all 16 = .ok (.invokevirtual 165, 3) := by decide +kernel
theorem dX11_all_19 : decode cX11_all 19 = .ok (.invokevirtual 209, 3) := by decide +kernel
theorem dX11_all_22 : decode cX11_all 22 = .ok (.goto 5, 3) := by decide +kernel
theorem dX11_all_25 : decode cX11_all 25 = .ok (.bipush (-2), 2) := by decide +kernel
theorem dX11_all_27 : decode cX11_all 27 = .ok (.ireturn, 1) := by decide +kernel
theorem dX11_breaks_0 : decode cX11_breaks 0 = .ok (.aload_n 0, 1) := by decide +kernel
theorem dX11_breaks_1 : decode cX11_breaks 1 = .ok (.getfield 19, 3) := by decide +kernel
theorem dX11_breaks_4 : decode cX11_breaks 4 = .ok (.iload_n 1, 1) := by decide +kernel
theorem dX11_breaks_5 : decode cX11_breaks 5 = .ok (.invokevirtual 131, 3) := by decide +kernel
theorem dX11_breaks_8 : decode cX11_breaks 8 = .ok (.ifCond .eq 13, 3) := by decide +kernel
theorem dX11_breaks_11 : decode cX11_breaks 11 = .ok (.aload_n 0, 1) := by decide +kernel
theorem dX11_breaks_12 : decode cX11_breaks 12 = .ok (.iconst 1, 1) := by decide +kernel
theorem dX11_breaks_13 : decode cX11_breaks 13 = .ok (.iload_n 1, 1) := by decide +kernel
theorem dX11_breaks_14 : decode cX11_breaks 14 = .ok (.ishl, 1) := by decide +kernel
theorem dX11_breaks_15 : decode cX11_breaks 15 = .ok (.invokevirtual 227, 3) := by decide +kernel
theorem dX11_breaks_18 : decode cX11_breaks 18 = .ok (.goto 5, 3) := by decide +kernel
theorem dX11_breaks_21 : decode cX11_breaks 21 = .ok (.bipush (-2), 2) := by decide +kernel
theorem dX11_breaks_23 : decode cX11_breaks 23 = .ok (.ireturn, 1) := by decide +kernel
theorem dX11_bridge_0 : decode cX11_bridge 0 = .ok (.aload_n 0, 1) := by decide +kernel
theorem dX11_bridge_1 : decode cX11_bridge 1 = .ok (.getfield 19, 3) := by decide +kernel
theorem dX11_bridge_4 : decode cX11_bridge 4 = .ok (.iload_n 1, 1) := by decide +kernel
theorem dX11_bridge_5 : decode cX11_bridge 5 = .ok (.invokevirtual 131, 3) := by decide +kernel
theorem dX11_bridge_8 : decode cX11_bridge 8 = .ok (.ifCond .eq 12, 3) := by decide +kernel
theorem dX11_bridge_11 : decode cX11_bridge 11 = .ok (.iload_n 2, 1) := by decide +kernel
theorem dX11_bridge_12 : decode cX11_bridge 12 = .ok (.ifCond .lt 8, 3) := by decide +kernel
theorem dX11_bridge_15 : decode cX11_bridge 15 = .ok (.iload_n 2, 1) := by decide +kernel
theorem dX11_bridge_16 : decode cX11_bridge 16 = .ok (.iconst 1, 1) := by decide +kernel
theorem dX11_bridge_17 : decode cX11_bridge 17 = .ok (.if_icmp .le 6, 3) := by decide +kernel
theorem dX11_bridge_20 : decode cX11_bridge 20 = .ok (.bipush (-2), 2) := by decide +kernel
theorem dX11_bridge_22 : decode cX11_bridge 22 = .ok (.ireturn, 1) := by decide +kernel
theorem dX11_bridge_23 : decode cX11_bridge 23 = .ok (.iload_n 2, 1) := by decide +kernel
theorem dX11_bridge_24 : decode cX11_bridge 24 = .ok (.ifCond .ne 15, 3) := by decide +kernel
theorem dX11_bridge_27 : decode cX11_bridge 27 = .ok (.aload_n 0, 1) := by decide +kernel
theorem dX11_bridge_28 : decode cX11_bridge 28 = .ok (.getfield 19, 3) := by decide +kernel
theorem dX11_bridge_31 : decode cX11_bridge 31 = .ok (.getfield 135, 3) := by decide +kernel
theorem dX11_bridge_34 : decode cX11_bridge 34 = .ok (.iload_n 1, 1) := by decide +kernel
theorem dX11_bridge_35 : decode cX11_bridge 35 = .ok (.iaload, 1) := by decide +kernel
theorem dX11_bridge_36 : decode cX11_bridge 36 = .ok (.goto 12, 3) := by decide +kernel
theorem dX11_bridge_39 : decode cX11_bridge 39 = .ok (.aload_n 0, 1) := by decide +kernel
theorem dX11_bridge_40 : decode cX11_bridge 40 = .ok (.getfield 19, 3) := by decide +kernel
theorem dX11_bridge_43 : decode cX11_bridge 43 = .ok (.getfield 138, 3) := by decide +kernel
theorem dX11_bridge_46 : decode cX11_bridge 46 = .ok (.iload_n 1, 1) := by decide +kernel
theorem dX11_bridge_47 : decode cX11_bridge 47 = .ok (.iaload, 1) := by decide +kernel
theorem dX11_bridge_48 : decode cX11_bridge 48 = .ok (.ireturn, 1) := by decide +kernel
theorem dX11_broken_0 : decode cX11_broken 0 = .ok (.aload_n 0, 1) := by decide +kernel
theorem dX11_broken_1 : decode cX11_broken 1 = .ok (.getfield 19, 3) := by decide +kernel
theorem dX11_broken_4 : decode cX11_broken 4 = .ok (.iload_n 1, 1) := by decide +kernel
theorem dX11_broken_5 : decode cX11_broken 5 = .ok (.invokevirtual 141, 3) := by decide +kernel
theorem dX11_broken_8 : decode cX11_broken 8 = .ok (.ifCond .eq 17, 3) := by decide +kernel
theorem dX11_broken_11 : decode cX11_broken 11 = .ok (.aload_n 0, 1) := by decide +kernel
theorem dX11_broken_12 : decode cX11_broken 12 = .ok (.getfield 45, 3) := by decide +kernel
theorem dX11_broken_15 : decode cX11_broken 15 = .ok (.iload_n 1, 1) := by decide +kernel
theorem dX11_broken_16 : decode cX11_broken 16 = .ok (.invokevirtual 165, 3) := by decide +kernel
theorem dX11_broken_19 : decode cX11_broken 19 = .ok (.getfield 233, 3) := by decide +kernel
theorem dX11_broken_22 : decode cX11_broken 22 = .ok (.goto 5, 3) := by decide +kernel
theorem dX11_broken_25 : decode cX11_broken 25 = .ok (.bipush (-2), 2) := by decide +kernel
theorem dX11_broken_27 : decode cX11_broken 27 = .ok (.ireturn, 1) := by decide +kernel
theorem dX11_cart_0 : decode cX11_cart 0 = .ok (.aload_n 0, 1) := by decide +kernel
theorem dX11_cart_1 : decode cX11_cart 1 = .ok (.getfield 19, 3) := by decide +kernel
theorem dX11_cart_4 : decode cX11_cart 4 = .ok (.iload_n 1, 1) := by decide +kernel
theorem dX11_cart_5 : decode cX11_cart 5 = .ok (.invokevirtual 141, 3) := by decide +kernel
theorem dX11_cart_8 : decode cX11_cart 8 = .ok (.ifCond .eq 12, 3) := by decide +kernel
theorem dX11_cart_11 : decode cX11_cart 11 = .ok (.iload_n 2, 1) := by decide +kernel
theorem dX11_cart_12 : decode cX11_cart 12 = .ok (.ifCond .lt 8, 3) := by decide +kernel
theorem dX11_cart_15 : decode cX11_cart 15 = .ok (.iload_n 2, 1) := by decide +kernel
theorem dX11_cart_16 : decode cX11_cart 16 = .ok (.iconst 1, 1) := by decide +kernel
theorem dX11_cart_17 : decode cX11_cart 17 = .ok (.if_icmp .le 6, 3) := by decide +kernel
theorem dX11_cart_20 : decode cX11_cart 20 = .ok (.bipush (-2), 2) := by decide +kernel
theorem dX11_cart_22 : decode cX11_cart 22 = .ok (.ireturn, 1) := by decide +kernel
theorem dX11_cart_23 : decode cX11_cart 23 = .ok (.iload_n 2, 1) := by decide +kernel
theorem dX11_cart_24 : decode cX11_cart 24 = .ok (.ifCond .ne 15, 3) := by decide +kernel
theorem dX11_cart_27 : decode cX11_cart 27 = .ok (.aload_n 0, 1) := by decide +kernel
theorem dX11_cart_28 : decode cX11_cart 28 = .ok (.getfield 19, 3) := by decide +kernel
theorem dX11_cart_31 : decode cX11_cart 31 = .ok (.getfield 144, 3) := by decide +kernel
theorem dX11_cart_34 : decode cX11_cart 34 = .ok (.iload_n 1, 1) := by decide +kernel
theorem dX11_cart_35 : decode cX11_cart 35 = .ok (.iaload, 1) := by decide +kernel
theorem dX11_cart_36 : decode cX11_cart 36 = .ok (.goto 12, 3) := by decide +kernel
theorem dX11_cart_39 : decode cX11_cart 39 = .ok (.aload_n 0, 1) := by decide +kernel
theorem dX11_cart_40 : decode cX11_cart 40 = .ok (.getfield 19, 3) := by decide +kernel
theorem dX11_cart_43 : decode cX11_cart 43 = .ok (.getfield 147, 3) := by decide +kernel
theorem dX11_cart_46 : decode cX11_cart 46 = .ok (.iload_n 1, 1) := by decide +kernel
theorem dX11_cart_47 : decode cX11_cart 47 = .ok (.iaload, 1) := by decide +kernel
theorem dX11_cart_48 : decode cX11_cart 48 = .ok (.ireturn, 1) := by decide +kernel
theorem dX11_cold_0 : decode cX11_cold 0 = .ok (.aload_n 0, 1) := by decide +kernel
theorem dX11_cold_1 : decode cX11_cold 1 = .ok (.getfield 19, 3) := by decide +kernel
theorem dX11_cold_4 : decode cX11_cold 4 = .ok (.iload_n 1, 1) := by decide +kernel
theorem dX11_cold_5 : decode cX11_cold 5 = .ok (.invokevirtual 141, 3) := by decide +kernel
theorem dX11_cold_8 : decode cX11_cold 8 = .ok (.ifCond .ne 6, 3) := by decide +kernel
theorem dX11_cold_11 : decode cX11_cold 11 = .ok (.bipush (-2), 2) := by decide +kernel
theorem dX11_cold_13 : decode cX11_cold 13 = .ok (.ireturn, 1) := by decide +kernel
theorem dX11_cold_14 : decode cX11_cold 14 = .ok (.aload_n 0, 1) := by decide +kernel
theorem dX11_cold_15 : decode cX11_cold 15 = .ok (.getfield 33, 3) := by decide +kernel
theorem dX11_cold_18 : decode cX11_cold 18 = .ok (.getfield 162, 3) := by decide +kernel
theorem dX11_cold_21 : decode cX11_cold 21 = .ok (.iload_n 1, 1) := by decide +kernel
theorem dX11_cold_22 : decode cX11_cold 22 = .ok (.ishr, 1) := by decide +kernel
theorem dX11_cold_23 : decode cX11_cold 23 = .ok (.iconst 1, 1) := by decide +kernel
theorem dX11_cold_24 : decode cX11_cold 24 = .ok (.iand, 1) := by decide +kernel
theorem dX11_cold_25 : decode cX11_cold 25 = .ok (.ireturn, 1) := by decide +kernel
theorem dX11_comes_0 : decode cX11_comes 0 = .ok (.aload_n 0, 1) := by decide +kernel
theorem dX11_comes_1 : decode cX11_comes 1 = .ok (.getfield 19, 3) := by decide +kernel
theorem dX11_comes_4 : decode cX11_comes 4 = .ok (.iload_n 1, 1) := by decide +kernel
theorem dX11_comes_5 : decode cX11_comes 5 = .ok (.invokevirtual 141, 3) := by decide +kernel
theorem dX11_comes_8 : decode cX11_comes 8 = .ok (.ifCond .eq 17, 3) := by decide +kernel
theorem dX11_comes_11 : decode cX11_comes 11 = .ok (.aload_n 0, 1) := by decide +kernel
theorem dX11_comes_12 : decode cX11_comes 12 = .ok (.getfield 45, 3) := by decide +kernel
theorem dX11_comes_15 : decode cX11_comes 15 = .ok (.iload_n 1, 1) := by decide +kernel
theorem dX11_comes_16 : decode cX11_comes 16 = .ok (.invokevirtual 165, 3) := by decide +kernel
theorem dX11_comes_19 : decode cX11_comes 19 = .ok (.getfield 174, 3) := by decide +kernel
theorem dX11_comes_22 : decode cX11_comes 22 = .ok (.goto 5, 3) := by decide +kernel
theorem dX11_comes_25 : decode cX11_comes 25 = .ok (.bipush (-2), 2) := by decide +kernel
theorem dX11_comes_27 : decode cX11_comes 27 = .ok (.ireturn, 1) := by decide +kernel
theorem dX11_creak_0 : decode cX11_creak 0 = .ok (.aload_n 0, 1) := by decide +kernel
theorem dX11_creak_1 : decode cX11_creak 1 = .ok (.getfield 19, 3) := by decide +kernel
theorem dX11_creak_4 : decode cX11_creak 4 = .ok (.iload_n 1, 1) := by decide +kernel
theorem dX11_creak_5 : decode cX11_creak 5 = .ok (.invokevirtual 141, 3) := by decide +kernel
theorem dX11_creak_8 : decode cX11_creak 8 = .ok (.ifCond .eq 17, 3) := by decide +kernel
theorem dX11_creak_11 : decode cX11_creak 11 = .ok (.aload_n 0, 1) := by decide +kernel
theorem dX11_creak_12 : decode cX11_creak 12 = .ok (.getfield 45, 3) := by decide +kernel
theorem dX11_creak_15 : decode cX11_creak 15 = .ok (.iload_n 1, 1) := by decide +kernel
theorem dX11_creak_16 : decode cX11_creak 16 = .ok (.invokevirtual 165, 3) := by decide +kernel
theorem dX11_creak_19 : decode cX11_creak 19 = .ok (.getfield 218, 3) := by decide +kernel
theorem dX11_creak_22 : decode cX11_creak 22 = .ok (.goto 5, 3) := by decide +kernel
theorem dX11_creak_25 : decode cX11_creak 25 = .ok (.bipush (-2), 2) := by decide +kernel
theorem dX11_creak_27 : decode cX11_creak 27 = .ok (.ireturn, 1) := by decide +kernel
theorem dX11_deep_0 : decode cX11_deep 0 = .ok (.aload_n 0, 1) := by decide +kernel
theorem dX11_deep_1 : decode cX11_deep 1 = .ok (.iload_n 1, 1) := by decide +kernel
theorem dX11_deep_2 : decode cX11_deep 2 = .ok (.iload_n 2, 1) := by decide +kernel
theorem dX11_deep_3 : decode cX11_deep 3 = .ok (.invokevirtual 190, 3) := by decide +kernel
theorem dX11_deep_6 : decode cX11_deep 6 = .ok (.ifCond .ne 6, 3) := by decide +kernel
theorem dX11_deep_9 : decode cX11_deep 9 = .ok (.bipush (-2), 2) := by decide +kernel
theorem dX11_deep_11 : decode cX11_deep 11 = .ok (.ireturn, 1) := by decide +kernel
theorem dX11_deep_12 : decode cX11_deep 12 = .ok (.aload_n 0, 1) := by decide +kernel
theorem dX11_deep_13 : decode cX11_deep 13 = .ok (.getfield 45, 3) := by decide +kernel
theorem dX11_deep_16 : decode cX11_deep 16 = .ok (.iload_n 2, 1) := by decide +kernel
theorem dX11_deep_17 : decode cX11_deep 17 = .ok (.invokevirtual 165, 3) := by decide +kernel
theorem dX11_deep_20 : decode cX11_deep 20 = .ok (.getfield 194, 3) := by decide +kernel
theorem dX11_deep_23 : decode cX11_deep 23 = .ok (.iload_n 1, 1) := by decide +kernel
theorem dX11_deep_24 : decode cX11_deep 24 = .ok (.aaload, 1) := by decide +kernel
theorem dX11_deep_25 : decode cX11_deep 25 = .ok (.getfield 198, 3) := by decide +kernel
theorem dX11_deep_28 : decode cX11_deep 28 = .ok (.ireturn, 1) := by decide +kernel
theorem dX11_deepest_0 : decode cX11_deepest 0 = .ok (.aload_n 0, 1) := by decide +kernel
theorem dX11_deepest_1 : decode cX11_deepest 1 = .ok (.getfield 19, 3) := by decide +kernel
theorem dX11_deepest_4 : decode cX11_deepest 4 = .ok (.iload_n 1, 1) := by decide +kernel
theorem dX11_deepest_5 : decode cX11_deepest 5 = .ok (.invokevirtual 141, 3) := by decide +kernel
theorem dX11_deepest_8 : decode cX11_deepest 8 = .ok (.ifCond .ne 6, 3) := by decide +kernel
theorem dX11_deepest_11 : decode cX11_deepest 11 = .ok (.bipush (-2), 2) := by decide +kernel
theorem dX11_deepest_13 : decode cX11_deepest 13 = .ok (.ireturn, 1) := by decide +kernel
theorem dX11_deepest_14 : decode cX11_deepest 14 = .ok (.aload_n 0, 1) := by decide +kernel
theorem dX11_deepest_15 : decode cX11_deepest 15 = .ok (.getfield 45, 3) := by decide +kernel
theorem dX11_deepest_18 : decode cX11_deepest 18 = .ok (.iload_n 1, 1) := by decide +kernel
theorem dX11_deepest_19 : decode cX11_deepest 19 = .ok (.invokevirtual 165, 3) := by decide +kernel
theorem dX11_deepest_22 : decode cX11_deepest 22 = .ok (.astore_n 2, 1) := by decide +kernel
theorem dX11_deepest_23 : decode cX11_deepest 23 = .ok (.iconst (-1), 1) := by decide +kernel
theorem dX11_deepest_24 : decode cX11_deepest 24 = .ok (.istore_n 3, 1) := by decide +kernel
theorem dX11_deepest_25 : decode cX11_deepest 25 = .ok (.iconst (-1), 1) := by decide +kernel
theorem dX11_deepest_26 : decode cX11_deepest 26 = .ok (.istore 4, 2) := by decide +kernel
theorem dX11_deepest_28 : decode cX11_deepest 28 = .ok (.iconst 0, 1) := by decide +kernel
theorem dX11_deepest_29 : decode cX11_deepest 29 = .ok (.istore 5, 2) := by decide +kernel
theorem dX11_deepest_31 : decode cX11_deepest 31 = .ok (.iload 5, 2) := by decide +kernel
theorem dX11_deepest_33 : decode cX11_deepest 33 = .ok (.aload_n 0, 1) := by decide +kernel
theorem dX11_deepest_34 : decode cX11_deepest 34 = .ok (.getfield 19, 3) := by decide +kernel
theorem dX11_deepest_37 : decode cX11_deepest 37 = .ok (.getfield 212, 3) := by decide +kernel
theorem dX11_deepest_40 : decode cX11_deepest 40 = .ok (.if_icmp .ge 35, 3) := by decide +kernel
theorem dX11_deepest_43 : decode cX11_deepest 43 = .ok (.aload_n 2, 1) := by decide +kernel
theorem dX11_deepest_44 : decode cX11_deepest 44 = .ok (.getfield 194, 3) := by decide +kernel
theorem dX11_deepest_47 : decode cX11_deepest 47 = .ok (.iload 5, 2) := by decide +kernel
theorem dX11_deepest_49 : decode cX11_deepest 49 = .ok (.aaload, 1) := by decide +kernel
theorem dX11_deepest_50 : decode cX11_deepest 50 = .ok (.invokevirtual 205, 3) := by decide +kernel
theorem dX11_deepest_53 : decode cX11_deepest 53 = .ok (.istore 6, 2) := by decide +kernel
theorem dX11_deepest_55 : decode cX11_deepest 55 = .ok (.iload 6, 2) := by decide +kernel
theorem dX11_deepest_57 : decode cX11_deepest 57 = .ok (.iload 4, 2) := by decide +kernel
theorem dX11_deepest_59 : decode cX11_deepest 59 = .ok (.if_icmp .le 10, 3) := by decide +kernel
theorem dX11_deepest_62 : decode cX11_deepest 62 = .ok (.iload 6, 2) := by decide +kernel
theorem dX11_deepest_64 : decode cX11_deepest 64 = .ok (.istore 4, 2) := by decide +kernel
theorem dX11_deepest_66 : decode cX11_deepest 66 = .ok (.iload 5, 2) := by decide +kernel
theorem dX11_deepest_68 : decode cX11_deepest 68 = .ok (.istore_n 3, 1) := by decide +kernel
theorem dX11_deepest_69 : decode cX11_deepest 69 = .ok (.iinc 5 1, 3) := by decide +kernel
theorem dX11_deepest_72 : decode cX11_deepest 72 = .ok (.goto (-41), 3) := by decide +kernel
theorem dX11_deepest_75 : decode cX11_deepest 75 = .ok (.iload_n 3, 1) := by decide +kernel
theorem dX11_deepest_76 : decode cX11_deepest 76 = .ok (.ireturn, 1) := by decide +kernel
theorem dX11_end_0 : decode cX11_end 0 = .ok (.iload_n 1, 1) := by decide +kernel
theorem dX11_end_1 : decode cX11_end 1 = .ok (.ifCond .lt 14, 3) := by decide +kernel
theorem dX11_end_4 : decode cX11_end 4 = .ok (.iload_n 1, 1) := by decide +kernel
theorem dX11_end_5 : decode cX11_end 5 = .ok (.aload_n 0, 1) := by decide +kernel
theorem dX11_end_6 : decode cX11_end 6 = .ok (.getfield 10, 3) := by decide +kernel
theorem dX11_end_9 : decode cX11_end 9 = .ok (.getfield 97, 3) := by decide +kernel
theorem dX11_end_12 : decode cX11_end 12 = .ok (.if_icmp .le 5, 3) := by decide +kernel
theorem dX11_end_15 : decode cX11_end 15 = .ok (.iconst (-1), 1) := by decide +kernel
theorem dX11_end_16 : decode cX11_end 16 = .ok (.ireturn, 1) := by decide +kernel
theorem dX11_end_17 : decode cX11_end 17 = .ok (.aload_n 0, 1) := by decide +kernel
theorem dX11_end_18 : decode cX11_end 18 = .ok (.getfield 10, 3) := by decide +kernel
theorem dX11_end_21 : decode cX11_end 21 = .ok (.iload_n 1, 1) := by decide +kernel
theorem dX11_end_22 : decode cX11_end 22 = .ok (.putfield 97, 3) := by decide +kernel
theorem dX11_end_25 : decode cX11_end 25 = .ok (.iload_n 1, 1) := by decide +kernel
theorem dX11_end_26 : decode cX11_end 26 = .ok (.ireturn, 1) := by decide +kernel
theorem dX11_fails_0 : decode cX11_fails 0 = .ok (.aload_n 0, 1) := by decide +kernel
theorem dX11_fails_1 : decode cX11_fails 1 = .ok (.invokevirtual 180, 3) := by decide +kernel
theorem dX11_fails_4 : decode cX11_fails 4 = .ok (.ifCond .eq 8, 3) := by decide +kernel
theorem dX11_fails_7 : decode cX11_fails 7 = .ok (.bipush (-2), 2) := by decide +kernel
theorem dX11_fails_9 : decode cX11_fails 9 = .ok (.goto 9, 3) := by decide +kernel
theorem dX11_fails_12 : decode cX11_fails 12 = .ok (.aload_n 0, 1) := by decide +kernel
theorem dX11_fails_13 : decode cX11_fails 13 = .ok (.bipush 7, 2) := by decide +kernel
theorem dX11_fails_15 : decode cX11_fails 15 = .ok (.invokevirtual 227, 3) := by decide +kernel
theorem dX11_fails_18 : decode cX11_fails 18 = .ok (.ireturn, 1) := by decide +kernel
theorem dX11_fault_0 : decode cX11_fault 0 = .ok (.iload_n 1, 1) := by decide +kernel
theorem dX11_fault_1 : decode cX11_fault 1 = .ok (.ifCond .ne 11, 3) := by decide +kernel
theorem dX11_fault_4 : decode cX11_fault 4 = .ok (.aload_n 0, 1) := by decide +kernel
theorem dX11_fault_5 : decode cX11_fault 5 = .ok (.getfield 10, 3) := by decide +kernel
theorem dX11_fault_8 : decode cX11_fault 8 = .ok (.getfield 125, 3) := by decide +kernel
theorem dX11_fault_11 : decode cX11_fault 11 = .ok (.ireturn, 1) := by decide +kernel
theorem dX11_fault_12 : decode cX11_fault 12 = .ok (.iload_n 1, 1) := by decide +kernel
theorem dX11_fault_13 : decode cX11_fault 13 = .ok (.iconst 1, 1) := by decide +kernel
theorem dX11_fault_14 : decode cX11_fault 14 = .ok (.if_icmp .ne 13, 3) := by decide +kernel
theorem dX11_fault_17 : decode cX11_fault 17 = .ok (.aload_n 0, 1) := by decide +kernel
theorem dX11_fault_18 : decode cX11_fault 18 = .ok (.getfield 10, 3) := by decide +kernel
theorem dX11_fault_21 : decode cX11_fault 21 = .ok (.getfield 128, 3) := by decide +kernel
theorem dX11_fault_24 : decode cX11_fault 24 = .ok (.goto 4, 3) := by decide +kernel
theorem dX11_fault_27 : decode cX11_fault 27 = .ok (.iconst (-1), 1) := by decide +kernel
theorem dX11_fault_28 : decode cX11_fault 28 = .ok (.ireturn, 1) := by decide +kernel
theorem dX11_feed_0 : decode cX11_feed 0 = .ok (.aload_n 0, 1) := by decide +kernel
theorem dX11_feed_1 : decode cX11_feed 1 = .ok (.getfield 10, 3) := by decide +kernel
theorem dX11_feed_4 : decode cX11_feed 4 = .ok (.getfield 97, 3) := by decide +kernel
theorem dX11_feed_7 : decode cX11_feed 7 = .ok (.bipush 20, 2) := by decide +kernel
theorem dX11_feed_9 : decode cX11_feed 9 = .ok (.iadd, 1) := by decide +kernel
theorem dX11_feed_10 : decode cX11_feed 10 = .ok (.sipush 700, 3) := by decide +kernel
theorem dX11_feed_13 : decode cX11_feed 13 = .ok (.if_icmp .le 5, 3) := by decide +kernel
theorem dX11_feed_16 : decode cX11_feed 16 = .ok (.iconst (-1), 1) := by decide +kernel
theorem dX11_feed_17 : decode cX11_feed 17 = .ok (.ireturn, 1) := by decide +kernel
theorem dX11_feed_18 : decode cX11_feed 18 = .ok (.aload_n 0, 1) := by decide +kernel
theorem dX11_feed_19 : decode cX11_feed 19 = .ok (.getfield 10, 3) := by decide +kernel
theorem dX11_feed_22 : decode cX11_feed 22 = .ok (.iload_n 1, 1) := by decide +kernel
theorem dX11_feed_23 : decode cX11_feed 23 = .ok (.invokevirtual 101, 3) := by decide +kernel
theorem dX11_feed_26 : decode cX11_feed 26 = .ok (.aload_n 0, 1) := by decide +kernel
theorem dX11_feed_27 : decode cX11_feed 27 = .ok (.getfield 10, 3) := by decide +kernel
theorem dX11_feed_30 : decode cX11_feed 30 = .ok (.iload_n 2, 1) := by decide +kernel
theorem dX11_feed_31 : decode cX11_feed 31 = .ok (.invokevirtual 101, 3) := by decide +kernel
theorem dX11_feed_34 : decode cX11_feed 34 = .ok (.aload_n 0, 1) := by decide +kernel
theorem dX11_feed_35 : decode cX11_feed 35 = .ok (.getfield 10, 3) := by decide +kernel
theorem dX11_feed_38 : decode cX11_feed 38 = .ok (.iload_n 3, 1) := by decide +kernel
theorem dX11_feed_39 : decode cX11_feed 39 = .ok (.invokevirtual 101, 3) := by decide +kernel
theorem dX11_feed_42 : decode cX11_feed 42 = .ok (.aload_n 0, 1) := by decide +kernel
theorem dX11_feed_43 : decode cX11_feed 43 = .ok (.getfield 10, 3) := by decide +kernel
theorem dX11_feed_46 : decode cX11_feed 46 = .ok (.iload 4, 2) := by decide +kernel
theorem dX11_feed_48 : decode cX11_feed 48 = .ok (.invokevirtual 101, 3) := by decide +kernel
theorem dX11_feed_51 : decode cX11_feed 51 = .ok (.aload_n 0, 1) := by decide +kernel
theorem dX11_feed_52 : decode cX11_feed 52 = .ok (.getfield 10, 3) := by decide +kernel
theorem dX11_feed_55 : decode cX11_feed 55 = .ok (.iload 5, 2) := by decide +kernel
theorem dX11_feed_57 : decode cX11_feed 57 = .ok (.invokevirtual 101, 3) := by decide +kernel
theorem dX11_feed_60 : decode cX11_feed 60 = .ok (.aload_n 0, 1) := by decide +kernel
theorem dX11_feed_61 : decode cX11_feed 61 = .ok (.getfield 10, 3) := by decide +kernel
theorem dX11_feed_64 : decode cX11_feed 64 = .ok (.getfield 97, 3) := by decide +kernel
theorem dX11_feed_67 : decode cX11_feed 67 = .ok (.ireturn, 1) := by decide +kernel
theorem dX11_free_0 : decode cX11_free 0 = .ok (.aload_n 0, 1) := by decide +kernel
theorem dX11_free_1 : decode cX11_free 1 = .ok (.iload_n 1, 1) := by decide +kernel
theorem dX11_free_2 : decode cX11_free 2 = .ok (.iload_n 2, 1) := by decide +kernel
theorem dX11_free_3 : decode cX11_free 3 = .ok (.invokevirtual 190, 3) := by decide +kernel
theorem dX11_free_6 : decode cX11_free 6 = .ok (.ifCond .ne 6, 3) := by decide +kernel
theorem dX11_free_9 : decode cX11_free 9 = .ok (.bipush (-2), 2) := by decide +kernel
theorem dX11_free_11 : decode cX11_free 11 = .ok (.ireturn, 1) := by decide +kernel
theorem dX11_free_12 : decode cX11_free 12 = .ok (.aload_n 0, 1) := by decide +kernel
theorem dX11_free_13 : decode cX11_free 13 = .ok (.getfield 45, 3) := by decide +kernel
theorem dX11_free_16 : decode cX11_free 16 = .ok (.iload_n 2, 1) := by decide +kernel
theorem dX11_free_17 : decode cX11_free 17 = .ok (.invokevirtual 165, 3) := by decide +kernel
theorem dX11_free_20 : decode cX11_free 20 = .ok (.getfield 194, 3) := by decide +kernel
theorem dX11_free_23 : decode cX11_free 23 = .ok (.iload_n 1, 1) := by decide +kernel
theorem dX11_free_24 : decode cX11_free 24 = .ok (.aaload, 1) := by decide +kernel
theorem dX11_free_25 : decode cX11_free 25 = .ok (.astore_n 3, 1) := by decide +kernel
theorem dX11_free_26 : decode cX11_free 26 = .ok (.aload_n 3, 1) := by decide +kernel
theorem dX11_free_27 : decode cX11_free 27 = .ok (.invokevirtual 205, 3) := by decide +kernel
theorem dX11_free_30 : decode cX11_free 30 = .ok (.istore 4, 2) := by decide +kernel
theorem dX11_free_32 : decode cX11_free 32 = .ok (.bipush 99, 2) := by decide +kernel
theorem dX11_free_34 : decode cX11_free 34 = .ok (.istore 5, 2) := by decide +kernel
theorem dX11_free_36 : decode cX11_free 36 = .ok (.iload 5, 2) := by decide +kernel
theorem dX11_free_38 : decode cX11_free 38 = .ok (.ifCond .le 24, 3) := by decide +kernel
theorem dX11_free_41 : decode cX11_free 41 = .ok (.aload_n 0, 1) := by decide +kernel
theorem dX11_free_42 : decode cX11_free 42 = .ok (.aload_n 3, 1) := by decide +kernel
theorem dX11_free_43 : decode cX11_free 43 = .ok (.iload 5, 2) := by decide +kernel
theorem dX11_free_45 : decode cX11_free 45 = .ok (.invokevirtual 236, 3) := by decide +kernel
theorem dX11_free_48 : decode cX11_free 48 = .ok (.iload 4, 2) := by decide +kernel
theorem dX11_free_50 : decode cX11_free 50 = .ok (.if_icmp .gt 6, 3) := by decide +kernel
theorem dX11_free_53 : decode cX11_free 53 = .ok (.iload 5, 2) := by decide +kernel
theorem dX11_free_55 : decode cX11_free 55 = .ok (.ireturn, 1) := by decide +kernel
theorem dX11_free_56 : decode cX11_free 56 = .ok (.iinc 5 (-1), 3) := by decide +kernel
theorem dX11_free_59 : decode cX11_free 59 = .ok (.goto (-23), 3) := by decide +kernel
theorem dX11_free_62 : decode cX11_free 62 = .ok (.iconst 0, 1) := by decide +kernel
theorem dX11_free_63 : decode cX11_free 63 = .ok (.ireturn, 1) := by decide +kernel
theorem dX11_gives_0 : decode cX11_gives 0 = .ok (.aload_n 0, 1) := by decide +kernel
theorem dX11_gives_1 : decode cX11_gives 1 = .ok (.getfield 19, 3) := by decide +kernel
theorem dX11_gives_4 : decode cX11_gives 4 = .ok (.iload_n 1, 1) := by decide +kernel
theorem dX11_gives_5 : decode cX11_gives 5 = .ok (.invokevirtual 141, 3) := by decide +kernel
theorem dX11_gives_8 : decode cX11_gives 8 = .ok (.ifCond .eq 17, 3) := by decide +kernel
theorem dX11_gives_11 : decode cX11_gives 11 = .ok (.aload_n 0, 1) := by decide +kernel
theorem dX11_gives_12 : decode cX11_gives 12 = .ok (.getfield 45, 3) := by decide +kernel
theorem dX11_gives_15 : decode cX11_gives 15 = .ok (.iload_n 1, 1) := by decide +kernel
theorem dX11_gives_16 : decode cX11_gives 16 = .ok (.invokevirtual 165, 3) := by decide +kernel
theorem dX11_gives_19 : decode cX11_gives 19 = .ok (.getfield 215, 3) := by decide +kernel
theorem dX11_gives_22 : decode cX11_gives 22 = .ok (.goto 6, 3) := by decide +kernel
theorem dX11_gives_25 : decode cX11_gives 25 = .ok (.sipush (-1000), 3) := by decide +kernel
theorem dX11_gives_28 : decode cX11_gives 28 = .ok (.ireturn, 1) := by decide +kernel
theorem dX11_goes_0 : decode cX11_goes 0 = .ok (.aload_n 0, 1) := by decide +kernel
theorem dX11_goes_1 : decode cX11_goes 1 = .ok (.getfield 19, 3) := by decide +kernel
theorem dX11_goes_4 : decode cX11_goes 4 = .ok (.iload_n 1, 1) := by decide +kernel
theorem dX11_goes_5 : decode cX11_goes 5 = .ok (.invokevirtual 141, 3) := by decide +kernel
theorem dX11_goes_8 : decode cX11_goes 8 = .ok (.ifCond .eq 17, 3) := by decide +kernel
theorem dX11_goes_11 : decode cX11_goes 11 = .ok (.aload_n 0, 1) := by decide +kernel
theorem dX11_goes_12 : decode cX11_goes 12 = .ok (.getfield 45, 3) := by decide +kernel
theorem dX11_goes_15 : decode cX11_goes 15 = .ok (.iload_n 1, 1) := by decide +kernel
theorem dX11_goes_16 : decode cX11_goes 16 = .ok (.invokevirtual 165, 3) := by decide +kernel
theorem dX11_goes_19 : decode cX11_goes 19 = .ok (.getfield 169, 3) := by decide +kernel
theorem dX11_goes_22 : decode cX11_goes 22 = .ok (.goto 5, 3) := by decide +kernel
theorem dX11_goes_25 : decode cX11_goes 25 = .ok (.bipush (-2), 2) := by decide +kernel
theorem dX11_goes_27 : decode cX11_goes 27 = .ok (.ireturn, 1) := by decide +kernel
theorem dX11_kept_0 : decode cX11_kept 0 = .ok (.aload_n 0, 1) := by decide +kernel
theorem dX11_kept_1 : decode cX11_kept 1 = .ok (.getfield 19, 3) := by decide +kernel
theorem dX11_kept_4 : decode cX11_kept 4 = .ok (.iload_n 1, 1) := by decide +kernel
theorem dX11_kept_5 : decode cX11_kept 5 = .ok (.invokevirtual 131, 3) := by decide +kernel
theorem dX11_kept_8 : decode cX11_kept 8 = .ok (.ifCond .eq 21, 3) := by decide +kernel
theorem dX11_kept_11 : decode cX11_kept 11 = .ok (.aload_n 0, 1) := by decide +kernel
theorem dX11_kept_12 : decode cX11_kept 12 = .ok (.getfield 45, 3) := by decide +kernel
theorem dX11_kept_15 : decode cX11_kept 15 = .ok (.invokevirtual 183, 3) := by decide +kernel
theorem dX11_kept_18 : decode cX11_kept 18 = .ok (.getfield 194, 3) := by decide +kernel
theorem dX11_kept_21 : decode cX11_kept 21 = .ok (.iload_n 1, 1) := by decide +kernel
theorem dX11_kept_22 : decode cX11_kept 22 = .ok (.aaload, 1) := by decide +kernel
theorem dX11_kept_23 : decode cX11_kept 23 = .ok (.invokevirtual 230, 3) := by decide +kernel
theorem dX11_kept_26 : decode cX11_kept 26 = .ok (.goto 5, 3) := by decide +kernel
theorem dX11_kept_29 : decode cX11_kept 29 = .ok (.bipush (-2), 2) := by decide +kernel
theorem dX11_kept_31 : decode cX11_kept 31 = .ok (.ireturn, 1) := by decide +kernel
theorem dX11_last_0 : decode cX11_last 0 = .ok (.aload_n 0, 1) := by decide +kernel
theorem dX11_last_1 : decode cX11_last 1 = .ok (.iload_n 1, 1) := by decide +kernel
theorem dX11_last_2 : decode cX11_last 2 = .ok (.iload_n 2, 1) := by decide +kernel
theorem dX11_last_3 : decode cX11_last 3 = .ok (.invokevirtual 190, 3) := by decide +kernel
theorem dX11_last_6 : decode cX11_last 6 = .ok (.ifCond .ne 6, 3) := by decide +kernel
theorem dX11_last_9 : decode cX11_last 9 = .ok (.bipush (-2), 2) := by decide +kernel
theorem dX11_last_11 : decode cX11_last 11 = .ok (.ireturn, 1) := by decide +kernel
theorem dX11_last_12 : decode cX11_last 12 = .ok (.aload_n 0, 1) := by decide +kernel
theorem dX11_last_13 : decode cX11_last 13 = .ok (.getfield 45, 3) := by decide +kernel
theorem dX11_last_16 : decode cX11_last 16 = .ok (.iload_n 2, 1) := by decide +kernel
theorem dX11_last_17 : decode cX11_last 17 = .ok (.invokevirtual 165, 3) := by decide +kernel
theorem dX11_last_20 : decode cX11_last 20 = .ok (.getfield 194, 3) := by decide +kernel
theorem dX11_last_23 : decode cX11_last 23 = .ok (.iload_n 1, 1) := by decide +kernel
theorem dX11_last_24 : decode cX11_last 24 = .ok (.aaload, 1) := by decide +kernel
theorem dX11_last_25 : decode cX11_last 25 = .ok (.astore_n 3, 1) := by decide +kernel
theorem dX11_last_26 : decode cX11_last 26 = .ok (.aload_n 3, 1) := by decide +kernel
theorem dX11_last_27 : decode cX11_last 27 = .ok (.aload_n 3, 1) := by decide +kernel
theorem dX11_last_28 : decode cX11_last 28 = .ok (.getfield 198, 3) := by decide +kernel
theorem dX11_last_31 : decode cX11_last 31 = .ok (.iconst 1, 1) := by decide +kernel
theorem dX11_last_32 : decode cX11_last 32 = .ok (.isub, 1) := by decide +kernel
theorem dX11_last_33 : decode cX11_last 33 = .ok (.invokevirtual 201, 3) := by decide +kernel
theorem dX11_last_36 : decode cX11_last 36 = .ok (.ireturn, 1) := by decide +kernel
theorem dX11_load_0 : decode cX11_load 0 = .ok (.aload_n 0, 1) := by decide +kernel
theorem dX11_load_1 : decode cX11_load 1 = .ok (.iload_n 1, 1) := by decide +kernel
theorem dX11_load_2 : decode cX11_load 2 = .ok (.iload_n 2, 1) := by decide +kernel
theorem dX11_load_3 : decode cX11_load 3 = .ok (.invokevirtual 190, 3) := by decide +kernel
theorem dX11_load_6 : decode cX11_load 6 = .ok (.ifCond .ne 6, 3) := by decide +kernel
theorem dX11_load_9 : decode cX11_load 9 = .ok (.bipush (-2), 2) := by decide +kernel
theorem dX11_load_11 : decode cX11_load 11 = .ok (.ireturn, 1) := by decide +kernel
theorem dX11_load_12 : decode cX11_load 12 = .ok (.aload_n 0, 1) := by decide +kernel
theorem dX11_load_13 : decode cX11_load 13 = .ok (.getfield 45, 3) := by decide +kernel
theorem dX11_load_16 : decode cX11_load 16 = .ok (.iload_n 2, 1) := by decide +kernel
theorem dX11_load_17 : decode cX11_load 17 = .ok (.invokevirtual 165, 3) := by decide +kernel
theorem dX11_load_20 : decode cX11_load 20 = .ok (.getfield 194, 3) := by decide +kernel
theorem dX11_load_23 : decode cX11_load 23 = .ok (.iload_n 1, 1) := by decide +kernel
theorem dX11_load_24 : decode cX11_load 24 = .ok (.aaload, 1) := by decide +kernel
theorem dX11_load_25 : decode cX11_load 25 = .ok (.iload_n 3, 1) := by decide +kernel
theorem dX11_load_26 : decode cX11_load 26 = .ok (.invokevirtual 201, 3) := by decide +kernel
theorem dX11_load_29 : decode cX11_load 29 = .ok (.ireturn, 1) := by decide +kernel
theorem dX11_loudest_0 : decode cX11_loudest 0 = .ok (.aload_n 0, 1) := by decide +kernel
theorem dX11_loudest_1 : decode cX11_loudest 1 = .ok (.invokevirtual 180, 3) := by decide +kernel
theorem dX11_loudest_4 : decode cX11_loudest 4 = .ok (.ifCond .eq 6, 3) := by decide +kernel
theorem dX11_loudest_7 : decode cX11_loudest 7 = .ok (.bipush (-2), 2) := by decide +kernel
theorem dX11_loudest_9 : decode cX11_loudest 9 = .ok (.ireturn, 1) := by decide +kernel
theorem dX11_loudest_10 : decode cX11_loudest 10 = .ok (.iconst (-1), 1) := by decide +kernel
theorem dX11_loudest_11 : decode cX11_loudest 11 = .ok (.istore_n 1, 1) := by decide +kernel
theorem dX11_loudest_12 : decode cX11_loudest 12 = .ok (.iconst 0, 1) := by decide +kernel
theorem dX11_loudest_13 : decode cX11_loudest 13 = .ok (.istore_n 2, 1) := by decide +kernel
theorem dX11_loudest_14 : decode cX11_loudest 14 = .ok (.iconst 0, 1) := by decide +kernel
theorem dX11_loudest_15 : decode cX11_loudest 15 = .ok (.istore_n 3, 1) := by decide +kernel
theorem dX11_loudest_16 : decode cX11_loudest 16 = .ok (.iload_n 3, 1) := by decide +kernel
theorem dX11_loudest_17 : decode cX11_loudest 17 = .ok (.aload_n 0, 1) := by decide +kernel
theorem dX11_loudest_18 : decode cX11_loudest 18 = .ok (.getfield 19, 3) := by decide +kernel
theorem dX11_loudest_21 : decode cX11_loudest 21 = .ok (.getfield 177, 3) := by decide +kernel
theorem dX11_loudest_24 : decode cX11_loudest 24 = .ok (.if_icmp .ge 33, 3) := by decide +kernel
theorem dX11_loudest_27 : decode cX11_loudest 27 = .ok (.aload_n 0, 1) := by decide +kernel
theorem dX11_loudest_28 : decode cX11_loudest 28 = .ok (.getfield 45, 3) := by decide +kernel
theorem dX11_loudest_31 : decode cX11_loudest 31 = .ok (.iload_n 3, 1) := by decide +kernel
theorem dX11_loudest_32 : decode cX11_loudest 32 = .ok (.invokevirtual 165, 3) := by decide +kernel
theorem dX11_loudest_35 : decode cX11_loudest 35 = .ok (.getfield 218, 3) := by decide +kernel
theorem dX11_loudest_38 : decode cX11_loudest 38 = .ok (.istore 4, 2) := by decide +kernel
theorem dX11_loudest_40 : decode cX11_loudest 40 = .ok (.iload 4, 2) := by decide +kernel
theorem dX11_loudest_42 : decode cX11_loudest 42 = .ok (.iload_n 2, 1) := by decide +kernel
theorem dX11_loudest_43 : decode cX11_loudest 43 = .ok (.if_icmp .le 8, 3) := by decide +kernel
theorem dX11_loudest_46 : decode cX11_loudest 46 = .ok (.iload 4, 2) := by decide +kernel
theorem dX11_loudest_48 : decode cX11_loudest 48 = .ok (.istore_n 2, 1) := by decide +kernel
theorem dX11_loudest_49 : decode cX11_loudest 49 = .ok (.iload_n 3, 1) := by decide +kernel
theorem dX11_loudest_50 : decode cX11_loudest 50 = .ok (.istore_n 1, 1) := by decide +kernel
theorem dX11_loudest_51 : decode cX11_loudest 51 = .ok (.iinc 3 1, 3) := by decide +kernel
theorem dX11_loudest_54 : decode cX11_loudest 54 = .ok (.goto (-38), 3) := by decide +kernel
theorem dX11_loudest_57 : decode cX11_loudest 57 = .ok (.iload_n 1, 1) := by decide +kernel
theorem dX11_loudest_58 : decode cX11_loudest 58 = .ok (.ireturn, 1) := by decide +kernel
theorem dX11_most_0 : decode cX11_most 0 = .ok (.aload_n 0, 1) := by decide +kernel
theorem dX11_most_1 : decode cX11_most 1 = .ok (.iload_n 1, 1) := by decide +kernel
theorem dX11_most_2 : decode cX11_most 2 = .ok (.iload_n 2, 1) := by decide +kernel
theorem dX11_most_3 : decode cX11_most 3 = .ok (.invokevirtual 190, 3) := by decide +kernel
theorem dX11_most_6 : decode cX11_most 6 = .ok (.ifCond .ne 6, 3) := by decide +kernel
theorem dX11_most_9 : decode cX11_most 9 = .ok (.bipush (-2), 2) := by decide +kernel
theorem dX11_most_11 : decode cX11_most 11 = .ok (.ireturn, 1) := by decide +kernel
theorem dX11_most_12 : decode cX11_most 12 = .ok (.aload_n 0, 1) := by decide +kernel
theorem dX11_most_13 : decode cX11_most 13 = .ok (.getfield 45, 3) := by decide +kernel
theorem dX11_most_16 : decode cX11_most 16 = .ok (.iload_n 2, 1) := by decide +kernel
theorem dX11_most_17 : decode cX11_most 17 = .ok (.invokevirtual 165, 3) := by decide +kernel
theorem dX11_most_20 : decode cX11_most 20 = .ok (.astore_n 3, 1) := by decide +kernel
theorem dX11_most_21 : decode cX11_most 21 = .ok (.aload_n 3, 1) := by decide +kernel
theorem dX11_most_22 : decode cX11_most 22 = .ok (.iload_n 1, 1) := by decide +kernel
theorem dX11_most_23 : decode cX11_most 23 = .ok (.invokevirtual 240, 3) := by decide +kernel
theorem dX11_most_26 : decode cX11_most 26 = .ok (.ifCond .eq 5, 3) := by decide +kernel
theorem dX11_most_29 : decode cX11_most 29 = .ok (.iconst (-1), 1) := by decide +kernel
theorem dX11_most_30 : decode cX11_most 30 = .ok (.ireturn, 1) := by decide +kernel
theorem dX11_most_31 : decode cX11_most 31 = .ok (.iconst 1, 1) := by decide +kernel
theorem dX11_most_32 : decode cX11_most 32 = .ok (.istore 4, 2) := by decide +kernel
theorem dX11_most_34 : decode cX11_most 34 = .ok (.iload 4, 2) := by decide +kernel
theorem dX11_most_36 : decode cX11_most 36 = .ok (.bipush 99, 2) := by decide +kernel
theorem dX11_most_38 : decode cX11_most 38 = .ok (.if_icmp .gt 36, 3) := by decide +kernel
theorem dX11_most_41 : decode cX11_most 41 = .ok (.aload_n 0, 1) := by decide +kernel
theorem dX11_most_42 : decode cX11_most 42 = .ok (.aload_n 3, 1) := by decide +kernel
theorem dX11_most_43 : decode cX11_most 43 = .ok (.getfield 194, 3) := by decide +kernel
theorem dX11_most_46 : decode cX11_most 46 = .ok (.iload_n 1, 1) := by decide +kernel
theorem dX11_most_47 : decode cX11_most 47 = .ok (.aaload, 1) := by decide +kernel
theorem dX11_most_48 : decode cX11_most 48 = .ok (.iload 4, 2) := by decide +kernel
theorem dX11_most_50 : decode cX11_most 50 = .ok (.invokevirtual 236, 3) := by decide +kernel
theorem dX11_most_53 : decode cX11_most 53 = .ok (.aload_n 0, 1) := by decide +kernel
theorem dX11_most_54 : decode cX11_most 54 = .ok (.getfield 19, 3) := by decide +kernel
theorem dX11_most_57 : decode cX11_most 57 = .ok (.getfield 135, 3) := by decide +kernel
theorem dX11_most_60 : decode cX11_most 60 = .ok (.iload_n 1, 1) := by decide +kernel
theorem dX11_most_61 : decode cX11_most 61 = .ok (.iaload, 1) := by decide +kernel
theorem dX11_most_62 : decode cX11_most 62 = .ok (.if_icmp .le 6, 3) := by decide +kernel
theorem dX11_most_65 : decode cX11_most 65 = .ok (.iload 4, 2) := by decide +kernel
theorem dX11_most_67 : decode cX11_most 67 = .ok (.ireturn, 1) := by decide +kernel
theorem dX11_most_68 : decode cX11_most 68 = .ok (.iinc 4 1, 3) := by decide +kernel
theorem dX11_most_71 : decode cX11_most 71 = .ok (.goto (-37), 3) := by decide +kernel
theorem dX11_most_74 : decode cX11_most 74 = .ok (.iconst (-1), 1) := by decide +kernel
theorem dX11_most_75 : decode cX11_most 75 = .ok (.ireturn, 1) := by decide +kernel
theorem dX11_over_0 : decode cX11_over 0 = .ok (.aload_n 0, 1) := by decide +kernel
theorem dX11_over_1 : decode cX11_over 1 = .ok (.getfield 19, 3) := by decide +kernel
theorem dX11_over_4 : decode cX11_over 4 = .ok (.iload_n 1, 1) := by decide +kernel
theorem dX11_over_5 : decode cX11_over 5 = .ok (.invokevirtual 131, 3) := by decide +kernel
theorem dX11_over_8 : decode cX11_over 8 = .ok (.ifCond .ne 6, 3) := by decide +kernel
theorem dX11_over_11 : decode cX11_over 11 = .ok (.bipush (-2), 2) := by decide +kernel
theorem dX11_over_13 : decode cX11_over 13 = .ok (.ireturn, 1) := by decide +kernel
theorem dX11_over_14 : decode cX11_over 14 = .ok (.iconst 0, 1) := by decide +kernel
theorem dX11_over_15 : decode cX11_over 15 = .ok (.istore_n 2, 1) := by decide +kernel
theorem dX11_over_16 : decode cX11_over 16 = .ok (.iconst 0, 1) := by decide +kernel
theorem dX11_over_17 : decode cX11_over 17 = .ok (.istore_n 3, 1) := by decide +kernel
theorem dX11_over_18 : decode cX11_over 18 = .ok (.iload_n 3, 1) := by decide +kernel
theorem dX11_over_19 : decode cX11_over 19 = .ok (.aload_n 0, 1) := by decide +kernel
theorem dX11_over_20 : decode cX11_over 20 = .ok (.getfield 19, 3) := by decide +kernel
theorem dX11_over_23 : decode cX11_over 23 = .ok (.getfield 177, 3) := by decide +kernel
theorem dX11_over_26 : decode cX11_over 26 = .ok (.if_icmp .ge 30, 3) := by decide +kernel
theorem dX11_over_29 : decode cX11_over 29 = .ok (.aload_n 0, 1) := by decide +kernel
theorem dX11_over_30 : decode cX11_over 30 = .ok (.getfield 45, 3) := by decide +kernel
theorem dX11_over_33 : decode cX11_over 33 = .ok (.iload_n 3, 1) := by decide +kernel
theorem dX11_over_34 : decode cX11_over 34 = .ok (.invokevirtual 165, 3) := by decide +kernel
theorem dX11_over_37 : decode cX11_over 37 = .ok (.getfield 169, 3) := by decide +kernel
theorem dX11_over_40 : decode cX11_over 40 = .ok (.iload_n 1, 1) := by decide +kernel
theorem dX11_over_41 : decode cX11_over 41 = .ok (.if_icmp .ne 9, 3) := by decide +kernel
theorem dX11_over_44 : decode cX11_over 44 = .ok (.iload_n 2, 1) := by decide +kernel
theorem dX11_over_45 : decode cX11_over 45 = .ok (.iconst 1, 1) := by decide +kernel
theorem dX11_over_46 : decode cX11_over 46 = .ok (.iload_n 3, 1) := by decide +kernel
theorem dX11_over_47 : decode cX11_over 47 = .ok (.ishl, 1) := by decide +kernel
theorem dX11_over_48 : decode cX11_over 48 = .ok (.ior, 1) := by decide +kernel
theorem dX11_over_49 : decode cX11_over 49 = .ok (.istore_n 2, 1) := by decide +kernel
theorem dX11_over_50 : decode cX11_over 50 = .ok (.iinc 3 1, 3) := by decide +kernel
theorem dX11_over_53 : decode cX11_over 53 = .ok (.goto (-35), 3) := by decide +kernel
theorem dX11_over_56 : decode cX11_over 56 = .ok (.iload_n 2, 1) := by decide +kernel
theorem dX11_over_57 : decode cX11_over 57 = .ok (.ireturn, 1) := by decide +kernel
theorem dX11_pays_0 : decode cX11_pays 0 = .ok (.aload_n 0, 1) := by decide +kernel
theorem dX11_pays_1 : decode cX11_pays 1 = .ok (.getfield 19, 3) := by decide +kernel
theorem dX11_pays_4 : decode cX11_pays 4 = .ok (.iload_n 1, 1) := by decide +kernel
theorem dX11_pays_5 : decode cX11_pays 5 = .ok (.invokevirtual 141, 3) := by decide +kernel
theorem dX11_pays_8 : decode cX11_pays 8 = .ok (.ifCond .eq 17, 3) := by decide +kernel
theorem dX11_pays_11 : decode cX11_pays 11 = .ok (.aload_n 0, 1) := by decide +kernel
theorem dX11_pays_12 : decode cX11_pays 12 = .ok (.getfield 45, 3) := by decide +kernel
theorem dX11_pays_15 : decode cX11_pays 15 = .ok (.iload_n 1, 1) := by decide +kernel
theorem dX11_pays_16 : decode cX11_pays 16 = .ok (.invokevirtual 165, 3) := by decide +kernel
theorem dX11_pays_19 : decode cX11_pays 19 = .ok (.getfield 221, 3) := by decide +kernel
theorem dX11_pays_22 : decode cX11_pays 22 = .ok (.goto 5, 3) := by decide +kernel
theorem dX11_pays_25 : decode cX11_pays 25 = .ok (.bipush (-2), 2) := by decide +kernel
theorem dX11_pays_27 : decode cX11_pays 27 = .ok (.ireturn, 1) := by decide +kernel
theorem dX11_sag_0 : decode cX11_sag 0 = .ok (.aload_n 0, 1) := by decide +kernel
theorem dX11_sag_1 : decode cX11_sag 1 = .ok (.iload_n 1, 1) := by decide +kernel
theorem dX11_sag_2 : decode cX11_sag 2 = .ok (.iload_n 2, 1) := by decide +kernel
theorem dX11_sag_3 : decode cX11_sag 3 = .ok (.invokevirtual 190, 3) := by decide +kernel
theorem dX11_sag_6 : decode cX11_sag 6 = .ok (.ifCond .ne 6, 3) := by decide +kernel
theorem dX11_sag_9 : decode cX11_sag 9 = .ok (.bipush (-2), 2) := by decide +kernel
theorem dX11_sag_11 : decode cX11_sag 11 = .ok (.ireturn, 1) := by decide +kernel
theorem dX11_sag_12 : decode cX11_sag 12 = .ok (.aload_n 0, 1) := by decide +kernel
theorem dX11_sag_13 : decode cX11_sag 13 = .ok (.getfield 45, 3) := by decide +kernel
theorem dX11_sag_16 : decode cX11_sag 16 = .ok (.iload_n 2, 1) := by decide +kernel
theorem dX11_sag_17 : decode cX11_sag 17 = .ok (.invokevirtual 165, 3) := by decide +kernel
theorem dX11_sag_20 : decode cX11_sag 20 = .ok (.getfield 194, 3) := by decide +kernel
theorem dX11_sag_23 : decode cX11_sag 23 = .ok (.iload_n 1, 1) := by decide +kernel
theorem dX11_sag_24 : decode cX11_sag 24 = .ok (.aaload, 1) := by decide +kernel
theorem dX11_sag_25 : decode cX11_sag 25 = .ok (.invokevirtual 205, 3) := by decide +kernel
theorem dX11_sag_28 : decode cX11_sag 28 = .ok (.ireturn, 1) := by decide +kernel
theorem dX11_spare_0 : decode cX11_spare 0 = .ok (.aload_n 0, 1) := by decide +kernel
theorem dX11_spare_1 : decode cX11_spare 1 = .ok (.getfield 19, 3) := by decide +kernel
theorem dX11_spare_4 : decode cX11_spare 4 = .ok (.iload_n 1, 1) := by decide +kernel
theorem dX11_spare_5 : decode cX11_spare 5 = .ok (.invokevirtual 131, 3) := by decide +kernel
theorem dX11_spare_8 : decode cX11_spare 8 = .ok (.ifCond .ne 7, 3) := by decide +kernel
theorem dX11_spare_11 : decode cX11_spare 11 = .ok (.sipush (-1000), 3) := by decide +kernel
theorem dX11_spare_14 : decode cX11_spare 14 = .ok (.ireturn, 1) := by decide +kernel
theorem dX11_spare_15 : decode cX11_spare 15 = .ok (.aload_n 0, 1) := by decide +kernel
theorem dX11_spare_16 : decode cX11_spare 16 = .ok (.getfield 19, 3) := by decide +kernel
theorem dX11_spare_19 : decode cX11_spare 19 = .ok (.getfield 135, 3) := by decide +kernel
theorem dX11_spare_22 : decode cX11_spare 22 = .ok (.iload_n 1, 1) := by decide +kernel
theorem dX11_spare_23 : decode cX11_spare 23 = .ok (.iaload, 1) := by decide +kernel
theorem dX11_spare_24 : decode cX11_spare 24 = .ok (.aload_n 0, 1) := by decide +kernel
theorem dX11_spare_25 : decode cX11_spare 25 = .ok (.getfield 45, 3) := by decide +kernel
theorem dX11_spare_28 : decode cX11_spare 28 = .ok (.invokevirtual 183, 3) := by decide +kernel
theorem dX11_spare_31 : decode cX11_spare 31 = .ok (.getfield 194, 3) := by decide +kernel
theorem dX11_spare_34 : decode cX11_spare 34 = .ok (.iload_n 1, 1) := by decide +kernel
theorem dX11_spare_35 : decode cX11_spare 35 = .ok (.aaload, 1) := by decide +kernel
theorem dX11_spare_36 : decode cX11_spare 36 = .ok (.invokevirtual 205, 3) := by decide +kernel
theorem dX11_spare_39 : decode cX11_spare 39 = .ok (.isub, 1) := by decide +kernel
theorem dX11_spare_40 : decode cX11_spare 40 = .ok (.ireturn, 1) := by decide +kernel
theorem dX11_tolls_0 : decode cX11_tolls 0 = .ok (.aload_n 0, 1) := by decide +kernel
theorem dX11_tolls_1 : decode cX11_tolls 1 = .ok (.invokevirtual 180, 3) := by decide +kernel
theorem dX11_tolls_4 : decode cX11_tolls 4 = .ok (.ifCond .eq 6, 3) := by decide +kernel
theorem dX11_tolls_7 : decode cX11_tolls 7 = .ok (.bipush (-2), 2) := by decide +kernel
theorem dX11_tolls_9 : decode cX11_tolls 9 = .ok (.ireturn, 1) := by decide +kernel
theorem dX11_tolls_10 : decode cX11_tolls 10 = .ok (.iconst 0, 1) := by decide +kernel
theorem dX11_tolls_11 : decode cX11_tolls 11 = .ok (.istore_n 1, 1) := by decide +kernel
theorem dX11_tolls_12 : decode cX11_tolls 12 = .ok (.iconst 0, 1) := by decide +kernel
theorem dX11_tolls_13 : decode cX11_tolls 13 = .ok (.istore_n 2, 1) := by decide +kernel
theorem dX11_tolls_14 : decode cX11_tolls 14 = .ok (.iload_n 2, 1) := by decide +kernel
theorem dX11_tolls_15 : decode cX11_tolls 15 = .ok (.aload_n 0, 1) := by decide +kernel
theorem dX11_tolls_16 : decode cX11_tolls 16 = .ok (.getfield 19, 3) := by decide +kernel
theorem dX11_tolls_19 : decode cX11_tolls 19 = .ok (.getfield 177, 3) := by decide +kernel
theorem dX11_tolls_22 : decode cX11_tolls 22 = .ok (.if_icmp .ge 23, 3) := by decide +kernel
theorem dX11_tolls_25 : decode cX11_tolls 25 = .ok (.iload_n 1, 1) := by decide +kernel
theorem dX11_tolls_26 : decode cX11_tolls 26 = .ok (.aload_n 0, 1) := by decide +kernel
theorem dX11_tolls_27 : decode cX11_tolls 27 = .ok (.getfield 45, 3) := by decide +kernel
theorem dX11_tolls_30 : decode cX11_tolls 30 = .ok (.iload_n 2, 1) := by decide +kernel
theorem dX11_tolls_31 : decode cX11_tolls 31 = .ok (.invokevirtual 165, 3) := by decide +kernel
theorem dX11_tolls_34 : decode cX11_tolls 34 = .ok (.getfield 221, 3) := by decide +kernel
theorem dX11_tolls_37 : decode cX11_tolls 37 = .ok (.iadd, 1) := by decide +kernel
theorem dX11_tolls_38 : decode cX11_tolls 38 = .ok (.istore_n 1, 1) := by decide +kernel
theorem dX11_tolls_39 : decode cX11_tolls 39 = .ok (.iinc 2 1, 3) := by decide +kernel
theorem dX11_tolls_42 : decode cX11_tolls 42 = .ok (.goto (-28), 3) := by decide +kernel
theorem dX11_tolls_45 : decode cX11_tolls 45 = .ok (.iload_n 1, 1) := by decide +kernel
theorem dX11_tolls_46 : decode cX11_tolls 46 = .ok (.ireturn, 1) := by decide +kernel
theorem dX11_waits_0 : decode cX11_waits 0 = .ok (.aload_n 0, 1) := by decide +kernel
theorem dX11_waits_1 : decode cX11_waits 1 = .ok (.invokevirtual 180, 3) := by decide +kernel
theorem dX11_waits_4 : decode cX11_waits 4 = .ok (.ifCond .eq 6, 3) := by decide +kernel
theorem dX11_waits_7 : decode cX11_waits 7 = .ok (.bipush (-2), 2) := by decide +kernel
theorem dX11_waits_9 : decode cX11_waits 9 = .ok (.ireturn, 1) := by decide +kernel
theorem dX11_waits_10 : decode cX11_waits 10 = .ok (.iconst 1, 1) := by decide +kernel
theorem dX11_waits_11 : decode cX11_waits 11 = .ok (.aload_n 0, 1) := by decide +kernel
theorem dX11_waits_12 : decode cX11_waits 12 = .ok (.getfield 19, 3) := by decide +kernel
theorem dX11_waits_15 : decode cX11_waits 15 = .ok (.getfield 177, 3) := by decide +kernel
theorem dX11_waits_18 : decode cX11_waits 18 = .ok (.ishl, 1) := by decide +kernel
theorem dX11_waits_19 : decode cX11_waits 19 = .ok (.iconst 1, 1) := by decide +kernel
theorem dX11_waits_20 : decode cX11_waits 20 = .ok (.isub, 1) := by decide +kernel
theorem dX11_waits_21 : decode cX11_waits 21 = .ok (.aload_n 0, 1) := by decide +kernel
theorem dX11_waits_22 : decode cX11_waits 22 = .ok (.getfield 45, 3) := by decide +kernel
theorem dX11_waits_25 : decode cX11_waits 25 = .ok (.invokevirtual 183, 3) := by decide +kernel
theorem dX11_waits_28 : decode cX11_waits 28 = .ok (.getfield 187, 3) := by decide +kernel
theorem dX11_waits_31 : decode cX11_waits 31 = .ok (.iconst (-1), 1) := by decide +kernel
theorem dX11_waits_32 : decode cX11_waits 32 = .ok (.ixor, 1) := by decide +kernel
theorem dX11_waits_33 : decode cX11_waits 33 = .ok (.iand, 1) := by decide +kernel
theorem dX11_waits_34 : decode cX11_waits 34 = .ok (.ireturn, 1) := by decide +kernel
theorem dX11_ward_0 : decode cX11_ward 0 = .ok (.iload_n 1, 1) := by decide +kernel
theorem dX11_ward_1 : decode cX11_ward 1 = .ok (.ifCond .lt 23, 3) := by decide +kernel
theorem dX11_ward_4 : decode cX11_ward 4 = .ok (.iload_n 1, 1) := by decide +kernel
theorem dX11_ward_5 : decode cX11_ward 5 = .ok (.aload_n 0, 1) := by decide +kernel
theorem dX11_ward_6 : decode cX11_ward 6 = .ok (.getfield 19, 3) := by decide +kernel
theorem dX11_ward_9 : decode cX11_ward 9 = .ok (.getfield 150, 3) := by decide +kernel
theorem dX11_ward_12 : decode cX11_ward 12 = .ok (.if_icmp .ge 12, 3) := by decide +kernel
theorem dX11_ward_15 : decode cX11_ward 15 = .ok (.iload_n 2, 1) := by decide +kernel
theorem dX11_ward_16 : decode cX11_ward 16 = .ok (.ifCond .lt 8, 3) := by decide +kernel
theorem dX11_ward_19 : decode cX11_ward 19 = .ok (.iload_n 2, 1) := by decide +kernel
theorem dX11_ward_20 : decode cX11_ward 20 = .ok (.iconst 2, 1) := by decide +kernel
theorem dX11_ward_21 : decode cX11_ward 21 = .ok (.if_icmp .le 6, 3) := by decide +kernel
theorem dX11_ward_24 : decode cX11_ward 24 = .ok (.bipush (-2), 2) := by decide +kernel
theorem dX11_ward_26 : decode cX11_ward 26 = .ok (.ireturn, 1) := by decide +kernel
theorem dX11_ward_27 : decode cX11_ward 27 = .ok (.iload_n 2, 1) := by decide +kernel
theorem dX11_ward_28 : decode cX11_ward 28 = .ok (.ifCond .ne 13, 3) := by decide +kernel
theorem dX11_ward_31 : decode cX11_ward 31 = .ok (.aload_n 0, 1) := by decide +kernel
theorem dX11_ward_32 : decode cX11_ward 32 = .ok (.getfield 19, 3) := by decide +kernel
theorem dX11_ward_35 : decode cX11_ward 35 = .ok (.getfield 153, 3) := by decide +kernel
theorem dX11_ward_38 : decode cX11_ward 38 = .ok (.iload_n 1, 1) := by decide +kernel
theorem dX11_ward_39 : decode cX11_ward 39 = .ok (.iaload, 1) := by decide +kernel
theorem dX11_ward_40 : decode cX11_ward 40 = .ok (.ireturn, 1) := by decide +kernel
theorem dX11_ward_41 : decode cX11_ward 41 = .ok (.iload_n 2, 1) := by decide +kernel
theorem dX11_ward_42 : decode cX11_ward 42 = .ok (.iconst 1, 1) := by decide +kernel
theorem dX11_ward_43 : decode cX11_ward 43 = .ok (.if_icmp .ne 15, 3) := by decide +kernel
theorem dX11_ward_46 : decode cX11_ward 46 = .ok (.aload_n 0, 1) := by decide +kernel
theorem dX11_ward_47 : decode cX11_ward 47 = .ok (.getfield 19, 3) := by decide +kernel
theorem dX11_ward_50 : decode cX11_ward 50 = .ok (.getfield 156, 3) := by decide +kernel
theorem dX11_ward_53 : decode cX11_ward 53 = .ok (.iload_n 1, 1) := by decide +kernel
theorem dX11_ward_54 : decode cX11_ward 54 = .ok (.iaload, 1) := by decide +kernel
theorem dX11_ward_55 : decode cX11_ward 55 = .ok (.goto 12, 3) := by decide +kernel
theorem dX11_ward_58 : decode cX11_ward 58 = .ok (.aload_n 0, 1) := by decide +kernel
theorem dX11_ward_59 : decode cX11_ward 59 = .ok (.getfield 19, 3) := by decide +kernel
theorem dX11_ward_62 : decode cX11_ward 62 = .ok (.getfield 159, 3) := by decide +kernel
theorem dX11_ward_65 : decode cX11_ward 65 = .ok (.iload_n 1, 1) := by decide +kernel
theorem dX11_ward_66 : decode cX11_ward 66 = .ok (.iaload, 1) := by decide +kernel
theorem dX11_ward_67 : decode cX11_ward 67 = .ok (.ireturn, 1) := by decide +kernel
theorem dX11_wipes_0 : decode cX11_wipes 0 = .ok (.aload_n 0, 1) := by decide +kernel
theorem dX11_wipes_1 : decode cX11_wipes 1 = .ok (.getfield 19, 3) := by decide +kernel
theorem dX11_wipes_4 : decode cX11_wipes 4 = .ok (.iload_n 1, 1) := by decide +kernel
theorem dX11_wipes_5 : decode cX11_wipes 5 = .ok (.invokevirtual 141, 3) := by decide +kernel
theorem dX11_wipes_8 : decode cX11_wipes 8 = .ok (.ifCond .eq 17, 3) := by decide +kernel
theorem dX11_wipes_11 : decode cX11_wipes 11 = .ok (.aload_n 0, 1) := by decide +kernel
theorem dX11_wipes_12 : decode cX11_wipes 12 = .ok (.getfield 45, 3) := by decide +kernel
theorem dX11_wipes_15 : decode cX11_wipes 15 = .ok (.iload_n 1, 1) := by decide +kernel
theorem dX11_wipes_16 : decode cX11_wipes 16 = .ok (.invokevirtual 165, 3) := by decide +kernel
theorem dX11_wipes_19 : decode cX11_wipes 19 = .ok (.getfield 224, 3) := by decide +kernel
theorem dX11_wipes_22 : decode cX11_wipes 22 = .ok (.goto 5, 3) := by decide +kernel
theorem dX11_wipes_25 : decode cX11_wipes 25 = .ok (.bipush (-2), 2) := by decide +kernel
theorem dX11_wipes_27 : decode cX11_wipes 27 = .ok (.ireturn, 1) := by decide +kernel
