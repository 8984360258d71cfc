theorem dX11_across_0 : decode cX11_across 0 = .ok (.aload_n 0, 1) := by decide +kernel
theorem dX11_across_1 : decode cX11_across 1 = .ok (.invokevirtual 180, 3) := by decide +kernel
theorem dX11_across_4 : decode cX11_across 4 = .ok (.ifCond .eq 6, 3) := by decide +kernel
theorem dX11_across_7 : decode cX11_across 7 = .ok (.bipush (-2), 2) := by decide +kernel
theorem dX11_across_9 : decode cX11_across 9 = .ok (.ireturn, 1) := by decide +kernel
theorem dX11_across_10 : decode cX11_across 10 = .ok (.aload_n 0, 1) := by decide +kernel
theorem dX11_across_11 : decode cX11_across 11 = .ok (.invokevirtual 243, 3) := by decide +kernel
theorem dX11_across_14 : decode cX11_across 14 = .ok (.aload_n 0, 1) := by decide +kernel
theorem dX11_across_15 : decode cX11_across 15 = .ok (.getfield 55, 3) := by decide +kernel
theorem dX11_across_18 : decode cX11_across 18 = .ok (.getfield 255, 3) := by decide +kernel
theorem dX11_across_21 : decode cX11_across 21 = .ok (.ireturn, 1) := by decide +kernel
theorem dX11_ask_0 : decode cX11_ask 0 = .ok (.aload_n 0, 1) := by decide +kernel
theorem dX11_ask_1 : decode cX11_ask 1 = .ok (.iload_n 1, 1) := by decide +kernel
theorem dX11_ask_2 : decode cX11_ask 2 = .ok (.iload_n 2, 1) := by decide +kernel
theorem dX11_ask_3 : decode cX11_ask 3 = .ok (.invokevirtual 267, 3) := by decide +kernel
theorem dX11_ask_6 : decode cX11_ask 6 = .ok (.istore_n 3, 1) := by decide +kernel
theorem dX11_ask_7 : decode cX11_ask 7 = .ok (.iload_n 3, 1) := by decide +kernel
theorem dX11_ask_8 : decode cX11_ask 8 = .ok (.ifCond .ge 7, 3) := by decide +kernel
theorem dX11_ask_11 : decode cX11_ask 11 = .ok (.iload_n 3, 1) := by decide +kernel
theorem dX11_ask_12 : decode cX11_ask 12 = .ok (.goto 10, 3) := by decide +kernel
theorem dX11_ask_15 : decode cX11_ask 15 = .ok (.aload_n 0, 1) := by decide +kernel
theorem dX11_ask_16 : decode cX11_ask 16 = .ok (.getfield 65, 3) := by decide +kernel
theorem dX11_ask_19 : decode cX11_ask 19 = .ok (.invokevirtual 284, 3) := by decide +kernel
theorem dX11_ask_22 : decode cX11_ask 22 = .ok (.ireturn, 1) := by decide +kernel
theorem dX11_fewest_0 : decode cX11_fewest 0 = .ok (.aload_n 0, 1) := by decide +kernel
theorem dX11_fewest_1 : decode cX11_fewest 1 = .ok (.iload_n 1, 1) := by decide +kernel
theorem dX11_fewest_2 : decode cX11_fewest 2 = .ok (.iload_n 2, 1) := by decide +kernel
theorem dX11_fewest_3 : decode cX11_fewest 3 = .ok (.invokevirtual 267, 3) := by decide +kernel
theorem dX11_fewest_6 : decode cX11_fewest 6 = .ok (.istore_n 3, 1) := by decide +kernel
theorem dX11_fewest_7 : decode cX11_fewest 7 = .ok (.iload_n 3, 1) := by decide +kernel
theorem dX11_fewest_8 : decode cX11_fewest 8 = .ok (.ifCond .ge 7, 3) := by decide +kernel
theorem dX11_fewest_11 : decode cX11_fewest 11 = .ok (.iload_n 3, 1) := by decide +kernel
theorem dX11_fewest_12 : decode cX11_fewest 12 = .ok (.goto 10, 3) := by decide +kernel
theorem dX11_fewest_15 : decode cX11_fewest 15 = .ok (.aload_n 0, 1) := by decide +kernel
theorem dX11_fewest_16 : decode cX11_fewest 16 = .ok (.getfield 65, 3) := by decide +kernel
theorem dX11_fewest_19 : decode cX11_fewest 19 = .ok (.getfield 281, 3) := by decide +kernel
theorem dX11_fewest_22 : decode cX11_fewest 22 = .ok (.ireturn, 1) := by decide +kernel
theorem dX11_forget_0 : decode cX11_forget 0 = .ok (.aload_n 0, 1) := by decide +kernel
theorem dX11_forget_1 : decode cX11_forget 1 = .ok (.invokevirtual 180, 3) := by decide +kernel
theorem dX11_forget_4 : decode cX11_forget 4 = .ok (.ifCond .eq 6, 3) := by decide +kernel
theorem dX11_forget_7 : decode cX11_forget 7 = .ok (.bipush (-2), 2) := by decide +kernel
theorem dX11_forget_9 : decode cX11_forget 9 = .ok (.ireturn, 1) := by decide +kernel
theorem dX11_forget_10 : decode cX11_forget 10 = .ok (.iconst (-1), 1) := by decide +kernel
theorem dX11_forget_11 : decode cX11_forget 11 = .ok (.istore_n 1, 1) := by decide +kernel
theorem dX11_forget_12 : decode cX11_forget 12 = .ok (.aload_n 0, 1) := by decide +kernel
theorem dX11_forget_13 : decode cX11_forget 13 = .ok (.getfield 45, 3) := by decide +kernel
theorem dX11_forget_16 : decode cX11_forget 16 = .ok (.invokevirtual 183, 3) := by decide +kernel
theorem dX11_forget_19 : decode cX11_forget 19 = .ok (.invokevirtual 209, 3) := by decide +kernel
theorem dX11_forget_22 : decode cX11_forget 22 = .ok (.istore_n 2, 1) := by decide +kernel
theorem dX11_forget_23 : decode cX11_forget 23 = .ok (.iconst 0, 1) := by decide +kernel
theorem dX11_forget_24 : decode cX11_forget 24 = .ok (.istore_n 3, 1) := by decide +kernel
theorem dX11_forget_25 : decode cX11_forget 25 = .ok (.iload_n 3, 1) := by decide +kernel
theorem dX11_forget_26 : decode cX11_forget 26 = .ok (.aload_n 0, 1) := by decide +kernel
theorem dX11_forget_27 : decode cX11_forget 27 = .ok (.getfield 19, 3) := by decide +kernel
theorem dX11_forget_30 : decode cX11_forget 30 = .ok (.getfield 177, 3) := by decide +kernel
theorem dX11_forget_33 : decode cX11_forget 33 = .ok (.if_icmp .ge 37, 3) := by decide +kernel
theorem dX11_forget_36 : decode cX11_forget 36 = .ok (.aload_n 0, 1) := by decide +kernel
theorem dX11_forget_37 : decode cX11_forget 37 = .ok (.aload_n 0, 1) := by decide +kernel
theorem dX11_forget_38 : decode cX11_forget 38 = .ok (.getfield 33, 3) := by decide +kernel
theorem dX11_forget_41 : decode cX11_forget 41 = .ok (.getfield 162, 3) := by decide +kernel
theorem dX11_forget_44 : decode cX11_forget 44 = .ok (.iconst 1, 1) := by decide +kernel
theorem dX11_forget_45 : decode cX11_forget 45 = .ok (.iload_n 3, 1) := by decide +kernel
theorem dX11_forget_46 : decode cX11_forget 46 = .ok (.ishl, 1) := by decide +kernel
theorem dX11_forget_47 : decode cX11_forget 47 = .ok (.ior, 1) := by decide +kernel
theorem dX11_forget_48 : decode cX11_forget 48 = .ok (.invokevirtual 264, 3) := by decide +kernel
theorem dX11_forget_51 : decode cX11_forget 51 = .ok (.istore 4, 2) := by decide +kernel
theorem dX11_forget_53 : decode cX11_forget 53 = .ok (.iload 4, 2) := by decide +kernel
theorem dX11_forget_55 : decode cX11_forget 55 = .ok (.iload_n 2, 1) := by decide +kernel
theorem dX11_forget_56 : decode cX11_forget 56 = .ok (.if_icmp .ge 8, 3) := by decide +kernel
theorem dX11_forget_59 : decode cX11_forget 59 = .ok (.iload 4, 2) := by decide +kernel
theorem dX11_forget_61 : decode cX11_forget 61 = .ok (.istore_n 2, 1) := by decide +kernel
theorem dX11_forget_62 : decode cX11_forget 62 = .ok (.iload_n 3, 1) := by decide +kernel
theorem dX11_forget_63 : decode cX11_forget 63 = .ok (.istore_n 1, 1) := by decide +kernel
theorem dX11_forget_64 : decode cX11_forget 64 = .ok (.iinc 3 1, 3) := by decide +kernel
theorem dX11_forget_67 : decode cX11_forget 67 = .ok (.goto (-42), 3) := by decide +kernel
theorem dX11_forget_70 : decode cX11_forget 70 = .ok (.iload_n 1, 1) := by decide +kernel
theorem dX11_forget_71 : decode cX11_forget 71 = .ok (.ireturn, 1) := by decide +kernel
theorem dX11_least_0 : decode cX11_least 0 = .ok (.aload_n 0, 1) := by decide +kernel
theorem dX11_least_1 : decode cX11_least 1 = .ok (.invokevirtual 180, 3) := by decide +kernel
theorem dX11_least_4 : decode cX11_least 4 = .ok (.ifCond .eq 6, 3) := by decide +kernel
theorem dX11_least_7 : decode cX11_least 7 = .ok (.bipush (-2), 2) := by decide +kernel
theorem dX11_least_9 : decode cX11_least 9 = .ok (.ireturn, 1) := by decide +kernel
theorem dX11_least_10 : decode cX11_least 10 = .ok (.aload_n 0, 1) := by decide +kernel
theorem dX11_least_11 : decode cX11_least 11 = .ok (.invokevirtual 243, 3) := by decide +kernel
theorem dX11_least_14 : decode cX11_least 14 = .ok (.aload_n 0, 1) := by decide +kernel
theorem dX11_least_15 : decode cX11_least 15 = .ok (.getfield 55, 3) := by decide +kernel
theorem dX11_least_18 : decode cX11_least 18 = .ok (.getfield 246, 3) := by decide +kernel
theorem dX11_least_21 : decode cX11_least 21 = .ok (.ireturn, 1) := by decide +kernel
theorem dX11_leaves_0 : decode cX11_leaves 0 = .ok (.aload_n 0, 1) := by decide +kernel
theorem dX11_leaves_1 : decode cX11_leaves 1 = .ok (.iload_n 1, 1) := by decide +kernel
theorem dX11_leaves_2 : decode cX11_leaves 2 = .ok (.iload_n 2, 1) := by decide +kernel
theorem dX11_leaves_3 : decode cX11_leaves 3 = .ok (.invokevirtual 267, 3) := by decide +kernel
theorem dX11_leaves_6 : decode cX11_leaves 6 = .ok (.istore_n 3, 1) := by decide +kernel
theorem dX11_leaves_7 : decode cX11_leaves 7 = .ok (.iload_n 3, 1) := by decide +kernel
theorem dX11_leaves_8 : decode cX11_leaves 8 = .ok (.ifCond .ge 7, 3) := by decide +kernel
theorem dX11_leaves_11 : decode cX11_leaves 11 = .ok (.iload_n 3, 1) := by decide +kernel
theorem dX11_leaves_12 : decode cX11_leaves 12 = .ok (.goto 17, 3) := by decide +kernel
theorem dX11_leaves_15 : decode cX11_leaves 15 = .ok (.aload_n 0, 1) := by decide +kernel
theorem dX11_leaves_16 : decode cX11_leaves 16 = .ok (.getfield 65, 3) := by decide +kernel
theorem dX11_leaves_19 : decode cX11_leaves 19 = .ok (.aload_n 0, 1) := by decide +kernel
theorem dX11_leaves_20 : decode cX11_leaves 20 = .ok (.getfield 65, 3) := by decide +kernel
theorem dX11_leaves_23 : decode cX11_leaves 23 = .ok (.invokevirtual 284, 3) := by decide +kernel
theorem dX11_leaves_26 : decode cX11_leaves 26 = .ok (.invokevirtual 287, 3) := by decide +kernel
theorem dX11_leaves_29 : decode cX11_leaves 29 = .ok (.ireturn, 1) := by decide +kernel
theorem dX11_never_0 : decode cX11_never 0 = .ok (.aload_n 0, 1) := by decide +kernel
theorem dX11_never_1 : decode cX11_never 1 = .ok (.iload_n 1, 1) := by decide +kernel
theorem dX11_never_2 : decode cX11_never 2 = .ok (.iload_n 2, 1) := by decide +kernel
theorem dX11_never_3 : decode cX11_never 3 = .ok (.invokevirtual 267, 3) := by decide +kernel
theorem dX11_never_6 : decode cX11_never 6 = .ok (.istore_n 3, 1) := by decide +kernel
theorem dX11_never_7 : decode cX11_never 7 = .ok (.iload_n 3, 1) := by decide +kernel
theorem dX11_never_8 : decode cX11_never 8 = .ok (.ifCond .ge 5, 3) := by decide +kernel
theorem dX11_never_11 : decode cX11_never 11 = .ok (.iload_n 3, 1) := by decide +kernel
theorem dX11_never_12 : decode cX11_never 12 = .ok (.ireturn, 1) := by decide +kernel
theorem dX11_never_13 : decode cX11_never 13 = .ok (.aload_n 0, 1) := by decide +kernel
theorem dX11_never_14 : decode cX11_never 14 = .ok (.getfield 65, 3) := by decide +kernel
theorem dX11_never_17 : decode cX11_never 17 = .ok (.getfield 271, 3) := by decide +kernel
theorem dX11_never_20 : decode cX11_never 20 = .ok (.ifCond .ne 7, 3) := by decide +kernel
theorem dX11_never_23 : decode cX11_never 23 = .ok (.iconst (-1), 1) := by decide +kernel
theorem dX11_never_24 : decode cX11_never 24 = .ok (.goto 21, 3) := by decide +kernel
theorem dX11_never_27 : decode cX11_never 27 = .ok (.aload_n 0, 1) := by decide +kernel
theorem dX11_never_28 : decode cX11_never 28 = .ok (.getfield 19, 3) := by decide +kernel
theorem dX11_never_31 : decode cX11_never 31 = .ok (.iload_n 2, 1) := by decide +kernel
theorem dX11_never_32 : decode cX11_never 32 = .ok (.invokevirtual 275, 3) := by decide +kernel
theorem dX11_never_35 : decode cX11_never 35 = .ok (.aload_n 0, 1) := by decide +kernel
theorem dX11_never_36 : decode cX11_never 36 = .ok (.getfield 65, 3) := by decide +kernel
theorem dX11_never_39 : decode cX11_never 39 = .ok (.getfield 278, 3) := by decide +kernel
theorem dX11_never_42 : decode cX11_never 42 = .ok (.iconst (-1), 1) := by decide +kernel
theorem dX11_never_43 : decode cX11_never 43 = .ok (.ixor, 1) := by decide +kernel
theorem dX11_never_44 : decode cX11_never 44 = .ok (.iand, 1) := by decide +kernel
theorem dX11_never_45 : decode cX11_never 45 = .ok (.ireturn, 1) := by decide +kernel
theorem dX11_order_0 : decode cX11_order 0 = .ok (.aload_n 0, 1) := by decide +kernel
theorem dX11_order_1 : decode cX11_order 1 = .ok (.getfield 19, 3) := by decide +kernel
theorem dX11_order_4 : decode cX11_order 4 = .ok (.iload_n 1, 1) := by decide +kernel
theorem dX11_order_5 : decode cX11_order 5 = .ok (.invokevirtual 141, 3) := by decide +kernel
theorem dX11_order_8 : decode cX11_order 8 = .ok (.ifCond .ne 6, 3) := by decide +kernel
theorem dX11_order_11 : decode cX11_order 11 = .ok (.bipush (-2), 2) := by decide +kernel
theorem dX11_order_13 : decode cX11_order 13 = .ok (.ireturn, 1) := by decide +kernel
theorem dX11_order_14 : decode cX11_order 14 = .ok (.aload_n 0, 1) := by decide +kernel
theorem dX11_order_15 : decode cX11_order 15 = .ok (.invokevirtual 243, 3) := by decide +kernel
theorem dX11_order_18 : decode cX11_order 18 = .ok (.aload_n 0, 1) := by decide +kernel
theorem dX11_order_19 : decode cX11_order 19 = .ok (.getfield 55, 3) := by decide +kernel
theorem dX11_order_22 : decode cX11_order 22 = .ok (.getfield 249, 3) := by decide +kernel
theorem dX11_order_25 : decode cX11_order 25 = .ok (.iload_n 1, 1) := by decide +kernel
theorem dX11_order_26 : decode cX11_order 26 = .ok (.iaload, 1) := by decide +kernel
theorem dX11_order_27 : decode cX11_order 27 = .ok (.ireturn, 1) := by decide +kernel
theorem dX11_orders_0 : decode cX11_orders 0 = .ok (.aload_n 0, 1) := by decide +kernel
theorem dX11_orders_1 : decode cX11_orders 1 = .ok (.invokevirtual 180, 3) := by decide +kernel
theorem dX11_orders_4 : decode cX11_orders 4 = .ok (.ifCond .eq 6, 3) := by decide +kernel
theorem dX11_orders_7 : decode cX11_orders 7 = .ok (.bipush (-2), 2) := by decide +kernel
theorem dX11_orders_9 : decode cX11_orders 9 = .ok (.ireturn, 1) := by decide +kernel
theorem dX11_orders_10 : decode cX11_orders 10 = .ok (.aload_n 0, 1) := by decide +kernel
theorem dX11_orders_11 : decode cX11_orders 11 = .ok (.invokevirtual 243, 3) := by decide +kernel
theorem dX11_orders_14 : decode cX11_orders 14 = .ok (.aload_n 0, 1) := by decide +kernel
theorem dX11_orders_15 : decode cX11_orders 15 = .ok (.getfield 55, 3) := by decide +kernel
theorem dX11_orders_18 : decode cX11_orders 18 = .ok (.getfield 252, 3) := by decide +kernel
theorem dX11_orders_21 : decode cX11_orders 21 = .ok (.ireturn, 1) := by decide +kernel
theorem dX11_route_0 : decode cX11_route 0 = .ok (.aload_n 0, 1) := by decide +kernel
theorem dX11_route_1 : decode cX11_route 1 = .ok (.getfield 19, 3) := by decide +kernel
theorem dX11_route_4 : decode cX11_route 4 = .ok (.iload_n 1, 1) := by decide +kernel
theorem dX11_route_5 : decode cX11_route 5 = .ok (.invokevirtual 141, 3) := by decide +kernel
theorem dX11_route_8 : decode cX11_route 8 = .ok (.ifCond .ne 6, 3) := by decide +kernel
theorem dX11_route_11 : decode cX11_route 11 = .ok (.bipush (-2), 2) := by decide +kernel
theorem dX11_route_13 : decode cX11_route 13 = .ok (.ireturn, 1) := by decide +kernel
theorem dX11_route_14 : decode cX11_route 14 = .ok (.aload_n 0, 1) := by decide +kernel
theorem dX11_route_15 : decode cX11_route 15 = .ok (.invokevirtual 258, 3) := by decide +kernel
theorem dX11_route_18 : decode cX11_route 18 = .ok (.aload_n 0, 1) := by decide +kernel
theorem dX11_route_19 : decode cX11_route 19 = .ok (.getfield 59, 3) := by decide +kernel
theorem dX11_route_22 : decode cX11_route 22 = .ok (.getfield 249, 3) := by decide +kernel
theorem dX11_route_25 : decode cX11_route 25 = .ok (.iload_n 1, 1) := by decide +kernel
theorem dX11_route_26 : decode cX11_route 26 = .ok (.iaload, 1) := by decide +kernel
theorem dX11_route_27 : decode cX11_route 27 = .ok (.ireturn, 1) := by decide +kernel
theorem dX11_routes_0 : decode cX11_routes 0 = .ok (.aload_n 0, 1) := by decide +kernel
theorem dX11_routes_1 : decode cX11_routes 1 = .ok (.invokevirtual 180, 3) := by decide +kernel
theorem dX11_routes_4 : decode cX11_routes 4 = .ok (.ifCond .eq 6, 3) := by decide +kernel
theorem dX11_routes_7 : decode cX11_routes 7 = .ok (.bipush (-2), 2) := by decide +kernel
theorem dX11_routes_9 : decode cX11_routes 9 = .ok (.ireturn, 1) := by decide +kernel
theorem dX11_routes_10 : decode cX11_routes 10 = .ok (.aload_n 0, 1) := by decide +kernel
theorem dX11_routes_11 : decode cX11_routes 11 = .ok (.invokevirtual 258, 3) := by decide +kernel
theorem dX11_routes_14 : decode cX11_routes 14 = .ok (.aload_n 0, 1) := by decide +kernel
theorem dX11_routes_15 : decode cX11_routes 15 = .ok (.getfield 59, 3) := by decide +kernel
theorem dX11_routes_18 : decode cX11_routes 18 = .ok (.getfield 246, 3) := by decide +kernel
theorem dX11_routes_21 : decode cX11_routes 21 = .ok (.ireturn, 1) := by decide +kernel
theorem dX11_safe_0 : decode cX11_safe 0 = .ok (.aload_n 0, 1) := by decide +kernel
theorem dX11_safe_1 : decode cX11_safe 1 = .ok (.invokevirtual 180, 3) := by decide +kernel
theorem dX11_safe_4 : decode cX11_safe 4 = .ok (.ifCond .eq 6, 3) := by decide +kernel
theorem dX11_safe_7 : decode cX11_safe 7 = .ok (.bipush (-2), 2) := by decide +kernel
theorem dX11_safe_9 : decode cX11_safe 9 = .ok (.ireturn, 1) := by decide +kernel
theorem dX11_safe_10 : decode cX11_safe 10 = .ok (.aload_n 0, 1) := by decide +kernel
theorem dX11_safe_11 : decode cX11_safe 11 = .ok (.invokevirtual 258, 3) := by decide +kernel
theorem dX11_safe_14 : decode cX11_safe 14 = .ok (.aload_n 0, 1) := by decide +kernel
theorem dX11_safe_15 : decode cX11_safe 15 = .ok (.getfield 59, 3) := by decide +kernel
theorem dX11_safe_18 : decode cX11_safe 18 = .ok (.getfield 255, 3) := by decide +kernel
theorem dX11_safe_21 : decode cX11_safe 21 = .ok (.ireturn, 1) := by decide +kernel
theorem dX11_sets_0 : decode cX11_sets 0 = .ok (.aload_n 0, 1) := by decide +kernel
theorem dX11_sets_1 : decode cX11_sets 1 = .ok (.iload_n 1, 1) := by decide +kernel
theorem dX11_sets_2 : decode cX11_sets 2 = .ok (.iload_n 2, 1) := by decide +kernel
theorem dX11_sets_3 : decode cX11_sets 3 = .ok (.invokevirtual 267, 3) := by decide +kernel
theorem dX11_sets_6 : decode cX11_sets 6 = .ok (.istore_n 3, 1) := by decide +kernel
theorem dX11_sets_7 : decode cX11_sets 7 = .ok (.iload_n 3, 1) := by decide +kernel
theorem dX11_sets_8 : decode cX11_sets 8 = .ok (.ifCond .ge 7, 3) := by decide +kernel
theorem dX11_sets_11 : decode cX11_sets 11 = .ok (.iload_n 3, 1) := by decide +kernel
theorem dX11_sets_12 : decode cX11_sets 12 = .ok (.goto 10, 3) := by decide +kernel
theorem dX11_sets_15 : decode cX11_sets 15 = .ok (.aload_n 0, 1) := by decide +kernel
theorem dX11_sets_16 : decode cX11_sets 16 = .ok (.getfield 65, 3) := by decide +kernel
theorem dX11_sets_19 : decode cX11_sets 19 = .ok (.getfield 271, 3) := by decide +kernel
theorem dX11_sets_22 : decode cX11_sets 22 = .ok (.ireturn, 1) := by decide +kernel
theorem dX11_spared_0 : decode cX11_spared 0 = .ok (.aload_n 0, 1) := by decide +kernel
theorem dX11_spared_1 : decode cX11_spared 1 = .ok (.getfield 19, 3) := by decide +kernel
theorem dX11_spared_4 : decode cX11_spared 4 = .ok (.iload_n 1, 1) := by decide +kernel
theorem dX11_spared_5 : decode cX11_spared 5 = .ok (.invokevirtual 141, 3) := by decide +kernel
theorem dX11_spared_8 : decode cX11_spared 8 = .ok (.ifCond .ne 7, 3) := by decide +kernel
theorem dX11_spared_11 : decode cX11_spared 11 = .ok (.sipush (-1000), 3) := by decide +kernel
theorem dX11_spared_14 : decode cX11_spared 14 = .ok (.ireturn, 1) := by decide +kernel
theorem dX11_spared_15 : decode cX11_spared 15 = .ok (.aload_n 0, 1) := by decide +kernel
theorem dX11_spared_16 : decode cX11_spared 16 = .ok (.getfield 45, 3) := by decide +kernel
theorem dX11_spared_19 : decode cX11_spared 19 = .ok (.invokevirtual 183, 3) := by decide +kernel
theorem dX11_spared_22 : decode cX11_spared 22 = .ok (.invokevirtual 209, 3) := by decide +kernel
theorem dX11_spared_25 : decode cX11_spared 25 = .ok (.aload_n 0, 1) := by decide +kernel
theorem dX11_spared_26 : decode cX11_spared 26 = .ok (.iload_n 1, 1) := by decide +kernel
theorem dX11_spared_27 : decode cX11_spared 27 = .ok (.invokevirtual 261, 3) := by decide +kernel
theorem dX11_spared_30 : decode cX11_spared 30 = .ok (.isub, 1) := by decide +kernel
theorem dX11_spared_31 : decode cX11_spared 31 = .ok (.ireturn, 1) := by decide +kernel
theorem dX11_surely_0 : decode cX11_surely 0 = .ok (.aload_n 0, 1) := by decide +kernel
theorem dX11_surely_1 : decode cX11_surely 1 = .ok (.iload_n 1, 1) := by decide +kernel
theorem dX11_surely_2 : decode cX11_surely 2 = .ok (.iload_n 2, 1) := by decide +kernel
theorem dX11_surely_3 : decode cX11_surely 3 = .ok (.invokevirtual 267, 3) := by decide +kernel
theorem dX11_surely_6 : decode cX11_surely 6 = .ok (.istore_n 3, 1) := by decide +kernel
theorem dX11_surely_7 : decode cX11_surely 7 = .ok (.iload_n 3, 1) := by decide +kernel
theorem dX11_surely_8 : decode cX11_surely 8 = .ok (.ifCond .ge 5, 3) := by decide +kernel
theorem dX11_surely_11 : decode cX11_surely 11 = .ok (.iload_n 3, 1) := by decide +kernel
theorem dX11_surely_12 : decode cX11_surely 12 = .ok (.ireturn, 1) := by decide +kernel
theorem dX11_surely_13 : decode cX11_surely 13 = .ok (.aload_n 0, 1) := by decide +kernel
theorem dX11_surely_14 : decode cX11_surely 14 = .ok (.getfield 65, 3) := by decide +kernel
theorem dX11_surely_17 : decode cX11_surely 17 = .ok (.getfield 271, 3) := by decide +kernel
theorem dX11_surely_20 : decode cX11_surely 20 = .ok (.ifCond .ne 7, 3) := by decide +kernel
theorem dX11_surely_23 : decode cX11_surely 23 = .ok (.iconst (-1), 1) := by decide +kernel
theorem dX11_surely_24 : decode cX11_surely 24 = .ok (.goto 10, 3) := by decide +kernel
theorem dX11_surely_27 : decode cX11_surely 27 = .ok (.aload_n 0, 1) := by decide +kernel
theorem dX11_surely_28 : decode cX11_surely 28 = .ok (.getfield 65, 3) := by decide +kernel
theorem dX11_surely_31 : decode cX11_surely 31 = .ok (.getfield 272, 3) := by decide +kernel
theorem dX11_surely_34 : decode cX11_surely 34 = .ok (.ireturn, 1) := by decide +kernel
theorem dX11_worst_0 : decode cX11_worst 0 = .ok (.aload_n 0, 1) := by decide +kernel
theorem dX11_worst_1 : decode cX11_worst 1 = .ok (.invokevirtual 180, 3) := by decide +kernel
theorem dX11_worst_4 : decode cX11_worst 4 = .ok (.ifCond .eq 6, 3) := by decide +kernel
theorem dX11_worst_7 : decode cX11_worst 7 = .ok (.bipush (-2), 2) := by decide +kernel
theorem dX11_worst_9 : decode cX11_worst 9 = .ok (.ireturn, 1) := by decide +kernel
theorem dX11_worst_10 : decode cX11_worst 10 = .ok (.iconst (-1), 1) := by decide +kernel
theorem dX11_worst_11 : decode cX11_worst 11 = .ok (.istore_n 1, 1) := by decide +kernel
theorem dX11_worst_12 : decode cX11_worst 12 = .ok (.aload_n 0, 1) := by decide +kernel
theorem dX11_worst_13 : decode cX11_worst 13 = .ok (.getfield 45, 3) := by decide +kernel
theorem dX11_worst_16 : decode cX11_worst 16 = .ok (.invokevirtual 183, 3) := by decide +kernel
theorem dX11_worst_19 : decode cX11_worst 19 = .ok (.invokevirtual 209, 3) := by decide +kernel
theorem dX11_worst_22 : decode cX11_worst 22 = .ok (.istore_n 2, 1) := by decide +kernel
theorem dX11_worst_23 : decode cX11_worst 23 = .ok (.iconst 0, 1) := by decide +kernel
theorem dX11_worst_24 : decode cX11_worst 24 = .ok (.istore_n 3, 1) := by decide +kernel
theorem dX11_worst_25 : decode cX11_worst 25 = .ok (.iload_n 3, 1) := by decide +kernel
theorem dX11_worst_26 : decode cX11_worst 26 = .ok (.aload_n 0, 1) := by decide +kernel
theorem dX11_worst_27 : decode cX11_worst 27 = .ok (.getfield 19, 3) := by decide +kernel
theorem dX11_worst_30 : decode cX11_worst 30 = .ok (.getfield 177, 3) := by decide +kernel
theorem dX11_worst_33 : decode cX11_worst 33 = .ok (.if_icmp .ge 27, 3) := by decide +kernel
theorem dX11_worst_36 : decode cX11_worst 36 = .ok (.aload_n 0, 1) := by decide +kernel
theorem dX11_worst_37 : decode cX11_worst 37 = .ok (.iload_n 3, 1) := by decide +kernel
theorem dX11_worst_38 : decode cX11_worst 38 = .ok (.invokevirtual 261, 3) := by decide +kernel
theorem dX11_worst_41 : decode cX11_worst 41 = .ok (.istore 4, 2) := by decide +kernel
theorem dX11_worst_43 : decode cX11_worst 43 = .ok (.iload 4, 2) := by decide +kernel
theorem dX11_worst_45 : decode cX11_worst 45 = .ok (.iload_n 2, 1) := by decide +kernel
theorem dX11_worst_46 : decode cX11_worst 46 = .ok (.if_icmp .ge 8, 3) := by decide +kernel
theorem dX11_worst_49 : decode cX11_worst 49 = .ok (.iload 4, 2) := by decide +kernel
theorem dX11_worst_51 : decode cX11_worst 51 = .ok (.istore_n 2, 1) := by decide +kernel
theorem dX11_worst_52 : decode cX11_worst 52 = .ok (.iload_n 3, 1) := by decide +kernel
theorem dX11_worst_53 : decode cX11_worst 53 = .ok (.istore_n 1, 1) := by decide +kernel
theorem dX11_worst_54 : decode cX11_worst 54 = .ok (.iinc 3 1, 3) := by decide +kernel
theorem dX11_worst_57 : decode cX11_worst 57 = .ok (.goto (-32), 3) := by decide +kernel
theorem dX11_worst_60 : decode cX11_worst 60 = .ok (.iload_n 1, 1) := by decide +kernel
theorem dX11_worst_61 : decode cX11_worst 61 = .ok (.ireturn, 1) := by decide +kernel
