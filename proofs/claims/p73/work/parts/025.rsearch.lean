theorem dX4_begin_0 : decode cX4_begin 0 = .ok (.aload_n 0, 1) := by decide +kernel
theorem dX4_begin_1 : decode cX4_begin 1 = .ok (.iconst 1, 1) := by decide +kernel
theorem dX4_begin_2 : decode cX4_begin 2 = .ok (.putfield 65, 3) := by decide +kernel
theorem dX4_begin_5 : decode cX4_begin 5 = .ok (.aload_n 0, 1) := by decide +kernel
theorem dX4_begin_6 : decode cX4_begin 6 = .ok (.iconst 0, 1) := by decide +kernel
theorem dX4_begin_7 : decode cX4_begin 7 = .ok (.putfield 69, 3) := by decide +kernel
theorem dX4_begin_10 : decode cX4_begin 10 = .ok (.aload_n 0, 1) := by decide +kernel
theorem dX4_begin_11 : decode cX4_begin 11 = .ok (.iconst 0, 1) := by decide +kernel
theorem dX4_begin_12 : decode cX4_begin 12 = .ok (.putfield 72, 3) := by decide +kernel
theorem dX4_begin_15 : decode cX4_begin 15 = .ok (.aload_n 0, 1) := by decide +kernel
theorem dX4_begin_16 : decode cX4_begin 16 = .ok (.iconst 0, 1) := by decide +kernel
theorem dX4_begin_17 : decode cX4_begin 17 = .ok (.putfield 75, 3) := by decide +kernel
theorem dX4_begin_20 : decode cX4_begin 20 = .ok (.return_, 1) := by decide +kernel
theorem dX4_nextOrder_0 : decode cX4_nextOrder 0 = .ok (.iload_n 1, 1) := by decide +kernel
theorem dX4_nextOrder_1 : decode cX4_nextOrder 1 = .ok (.iconst 2, 1) := by decide +kernel
theorem dX4_nextOrder_2 : decode cX4_nextOrder 2 = .ok (.isub, 1) := by decide +kernel
theorem dX4_nextOrder_3 : decode cX4_nextOrder 3 = .ok (.istore_n 2, 1) := by decide +kernel
theorem dX4_nextOrder_4 : decode cX4_nextOrder 4 = .ok (.iload_n 2, 1) := by decide +kernel
theorem dX4_nextOrder_5 : decode cX4_nextOrder 5 = .ok (.ifCond .lt 26, 3) := by decide +kernel
theorem dX4_nextOrder_8 : decode cX4_nextOrder 8 = .ok (.aload_n 0, 1) := by decide +kernel
theorem dX4_nextOrder_9 : decode cX4_nextOrder 9 = .ok (.getfield 9, 3) := by decide +kernel
theorem dX4_nextOrder_12 : decode cX4_nextOrder 12 = .ok (.iload_n 2, 1) := by decide +kernel
theorem dX4_nextOrder_13 : decode cX4_nextOrder 13 = .ok (.iaload, 1) := by decide +kernel
theorem dX4_nextOrder_14 : decode cX4_nextOrder 14 = .ok (.aload_n 0, 1) := by decide +kernel
theorem dX4_nextOrder_15 : decode cX4_nextOrder 15 = .ok (.getfield 9, 3) := by decide +kernel
theorem dX4_nextOrder_18 : decode cX4_nextOrder 18 = .ok (.iload_n 2, 1) := by decide +kernel
theorem dX4_nextOrder_19 : decode cX4_nextOrder 19 = .ok (.iconst 1, 1) := by decide +kernel
theorem dX4_nextOrder_20 : decode cX4_nextOrder 20 = .ok (.iadd, 1) := by decide +kernel
theorem dX4_nextOrder_21 : decode cX4_nextOrder 21 = .ok (.iaload, 1) := by decide +kernel
theorem dX4_nextOrder_22 : decode cX4_nextOrder 22 = .ok (.if_icmp .le 9, 3) := by decide +kernel
theorem dX4_nextOrder_25 : decode cX4_nextOrder 25 = .ok (.iinc 2 (-1), 3) := by decide +kernel
theorem dX4_nextOrder_28 : decode cX4_nextOrder 28 = .ok (.goto (-24), 3) := by decide +kernel
theorem dX4_nextOrder_31 : decode cX4_nextOrder 31 = .ok (.iload_n 2, 1) := by decide +kernel
theorem dX4_nextOrder_32 : decode cX4_nextOrder 32 = .ok (.ifCond .ge 5, 3) := by decide +kernel
theorem dX4_nextOrder_35 : decode cX4_nextOrder 35 = .ok (.iconst (-1), 1) := by decide +kernel
theorem dX4_nextOrder_36 : decode cX4_nextOrder 36 = .ok (.ireturn, 1) := by decide +kernel
theorem dX4_nextOrder_37 : decode cX4_nextOrder 37 = .ok (.iload_n 1, 1) := by decide +kernel
theorem dX4_nextOrder_38 : decode cX4_nextOrder 38 = .ok (.iconst 1, 1) := by decide +kernel
theorem dX4_nextOrder_39 : decode cX4_nextOrder 39 = .ok (.isub, 1) := by decide +kernel
theorem dX4_nextOrder_40 : decode cX4_nextOrder 40 = .ok (.istore_n 3, 1) := by decide +kernel
theorem dX4_nextOrder_41 : decode cX4_nextOrder 41 = .ok (.iload_n 3, 1) := by decide +kernel
theorem dX4_nextOrder_42 : decode cX4_nextOrder 42 = .ok (.iload_n 2, 1) := by decide +kernel
theorem dX4_nextOrder_43 : decode cX4_nextOrder 43 = .ok (.if_icmp .le 24, 3) := by decide +kernel
theorem dX4_nextOrder_46 : decode cX4_nextOrder 46 = .ok (.aload_n 0, 1) := by decide +kernel
theorem dX4_nextOrder_47 : decode cX4_nextOrder 47 = .ok (.getfield 9, 3) := by decide +kernel
theorem dX4_nextOrder_50 : decode cX4_nextOrder 50 = .ok (.iload_n 3, 1) := by decide +kernel
theorem dX4_nextOrder_51 : decode cX4_nextOrder 51 = .ok (.iaload, 1) := by decide +kernel
theorem dX4_nextOrder_52 : decode cX4_nextOrder 52 = .ok (.aload_n 0, 1) := by decide +kernel
theorem dX4_nextOrder_53 : decode cX4_nextOrder 53 = .ok (.getfield 9, 3) := by decide +kernel
theorem dX4_nextOrder_56 : decode cX4_nextOrder 56 = .ok (.iload_n 2, 1) := by decide +kernel
theorem dX4_nextOrder_57 : decode cX4_nextOrder 57 = .ok (.iaload, 1) := by decide +kernel
theorem dX4_nextOrder_58 : decode cX4_nextOrder 58 = .ok (.if_icmp .ge 9, 3) := by decide +kernel
theorem dX4_nextOrder_61 : decode cX4_nextOrder 61 = .ok (.iinc 3 (-1), 3) := by decide +kernel
theorem dX4_nextOrder_64 : decode cX4_nextOrder 64 = .ok (.goto (-23), 3) := by decide +kernel
theorem dX4_nextOrder_67 : decode cX4_nextOrder 67 = .ok (.aload_n 0, 1) := by decide +kernel
theorem dX4_nextOrder_68 : decode cX4_nextOrder 68 = .ok (.iload_n 2, 1) := by decide +kernel
theorem dX4_nextOrder_69 : decode cX4_nextOrder 69 = .ok (.iload_n 3, 1) := by decide +kernel
theorem dX4_nextOrder_70 : decode cX4_nextOrder 70 = .ok (.invokevirtual 103, 3) := by decide +kernel
theorem dX4_nextOrder_73 : decode cX4_nextOrder 73 = .ok (.iload_n 2, 1) := by decide +kernel
theorem dX4_nextOrder_74 : decode cX4_nextOrder 74 = .ok (.iconst 1, 1) := by decide +kernel
theorem dX4_nextOrder_75 : decode cX4_nextOrder 75 = .ok (.iadd, 1) := by decide +kernel
theorem dX4_nextOrder_76 : decode cX4_nextOrder 76 = .ok (.istore 4, 2) := by decide +kernel
theorem dX4_nextOrder_78 : decode cX4_nextOrder 78 = .ok (.iload_n 1, 1) := by decide +kernel
theorem dX4_nextOrder_79 : decode cX4_nextOrder 79 = .ok (.iconst 1, 1) := by decide +kernel
theorem dX4_nextOrder_80 : decode cX4_nextOrder 80 = .ok (.isub, 1) := by decide +kernel
theorem dX4_nextOrder_81 : decode cX4_nextOrder 81 = .ok (.istore 5, 2) := by decide +kernel
theorem dX4_nextOrder_83 : decode cX4_nextOrder 83 = .ok (.iload 4, 2) := by decide +kernel
theorem dX4_nextOrder_85 : decode cX4_nextOrder 85 = .ok (.iload 5, 2) := by decide +kernel
theorem dX4_nextOrder_87 : decode cX4_nextOrder 87 = .ok (.if_icmp .ge 20, 3) := by decide +kernel
theorem dX4_nextOrder_90 : decode cX4_nextOrder 90 = .ok (.aload_n 0, 1) := by decide +kernel
theorem dX4_nextOrder_91 : decode cX4_nextOrder 91 = .ok (.iload 4, 2) := by decide +kernel
theorem dX4_nextOrder_93 : decode cX4_nextOrder 93 = .ok (.iload 5, 2) := by decide +kernel
theorem dX4_nextOrder_95 : decode cX4_nextOrder 95 = .ok (.invokevirtual 103, 3) := by decide +kernel
theorem dX4_nextOrder_98 : decode cX4_nextOrder 98 = .ok (.iinc 4 1, 3) := by decide +kernel
theorem dX4_nextOrder_101 : decode cX4_nextOrder 101 = .ok (.iinc 5 (-1), 3) := by decide +kernel
theorem dX4_nextOrder_104 : decode cX4_nextOrder 104 = .ok (.goto (-21), 3) := by decide +kernel
theorem dX4_nextOrder_107 : decode cX4_nextOrder 107 = .ok (.iload_n 2, 1) := by decide +kernel
theorem dX4_nextOrder_108 : decode cX4_nextOrder 108 = .ok (.ireturn, 1) := by decide +kernel
theorem dX4_nextRoute_0 : decode cX4_nextRoute 0 = .ok (.iload_n 1, 1) := by decide +kernel
theorem dX4_nextRoute_1 : decode cX4_nextRoute 1 = .ok (.iconst 1, 1) := by decide +kernel
theorem dX4_nextRoute_2 : decode cX4_nextRoute 2 = .ok (.isub, 1) := by decide +kernel
theorem dX4_nextRoute_3 : decode cX4_nextRoute 3 = .ok (.istore_n 3, 1) := by decide +kernel
theorem dX4_nextRoute_4 : decode cX4_nextRoute 4 = .ok (.iload_n 3, 1) := by decide +kernel
theorem dX4_nextRoute_5 : decode cX4_nextRoute 5 = .ok (.ifCond .lt 28, 3) := by decide +kernel
theorem dX4_nextRoute_8 : decode cX4_nextRoute 8 = .ok (.aload_n 0, 1) := by decide +kernel
theorem dX4_nextRoute_9 : decode cX4_nextRoute 9 = .ok (.getfield 9, 3) := by decide +kernel
theorem dX4_nextRoute_12 : decode cX4_nextRoute 12 = .ok (.iload_n 3, 1) := by decide +kernel
theorem dX4_nextRoute_13 : decode cX4_nextRoute 13 = .ok (.iaload, 1) := by decide +kernel
theorem dX4_nextRoute_14 : decode cX4_nextRoute 14 = .ok (.iconst 1, 1) := by decide +kernel
theorem dX4_nextRoute_15 : decode cX4_nextRoute 15 = .ok (.iadd, 1) := by decide +kernel
theorem dX4_nextRoute_16 : decode cX4_nextRoute 16 = .ok (.iload_n 2, 1) := by decide +kernel
theorem dX4_nextRoute_17 : decode cX4_nextRoute 17 = .ok (.if_icmp .lt 16, 3) := by decide +kernel
theorem dX4_nextRoute_20 : decode cX4_nextRoute 20 = .ok (.aload_n 0, 1) := by decide +kernel
theorem dX4_nextRoute_21 : decode cX4_nextRoute 21 = .ok (.getfield 9, 3) := by decide +kernel
theorem dX4_nextRoute_24 : decode cX4_nextRoute 24 = .ok (.iload_n 3, 1) := by decide +kernel
theorem dX4_nextRoute_25 : decode cX4_nextRoute 25 = .ok (.iconst 0, 1) := by decide +kernel
theorem dX4_nextRoute_26 : decode cX4_nextRoute 26 = .ok (.iastore, 1) := by decide +kernel
theorem dX4_nextRoute_27 : decode cX4_nextRoute 27 = .ok (.iinc 3 (-1), 3) := by decide +kernel
theorem dX4_nextRoute_30 : decode cX4_nextRoute 30 = .ok (.goto (-26), 3) := by decide +kernel
theorem dX4_nextRoute_33 : decode cX4_nextRoute 33 = .ok (.iload_n 3, 1) := by decide +kernel
theorem dX4_nextRoute_34 : decode cX4_nextRoute 34 = .ok (.ifCond .ge 5, 3) := by decide +kernel
theorem dX4_nextRoute_37 : decode cX4_nextRoute 37 = .ok (.iconst (-1), 1) := by decide +kernel
theorem dX4_nextRoute_38 : decode cX4_nextRoute 38 = .ok (.ireturn, 1) := by decide +kernel
theorem dX4_nextRoute_39 : decode cX4_nextRoute 39 = .ok (.aload_n 0, 1) := by decide +kernel
theorem dX4_nextRoute_40 : decode cX4_nextRoute 40 = .ok (.getfield 9, 3) := by decide +kernel
theorem dX4_nextRoute_43 : decode cX4_nextRoute 43 = .ok (.iload_n 3, 1) := by decide +kernel
theorem dX4_nextRoute_44 : decode cX4_nextRoute 44 = .ok (.dup2, 1) := by decide +kernel
theorem dX4_nextRoute_45 : decode cX4_nextRoute 45 = .ok (.iaload, 1) := by decide +kernel
theorem dX4_nextRoute_46 : decode cX4_nextRoute 46 = .ok (.iconst 1, 1) := by decide +kernel
theorem dX4_nextRoute_47 : decode cX4_nextRoute 47 = .ok (.iadd, 1) := by decide +kernel
theorem dX4_nextRoute_48 : decode cX4_nextRoute 48 = .ok (.iastore, 1) := by decide +kernel
theorem dX4_nextRoute_49 : decode cX4_nextRoute 49 = .ok (.iload_n 3, 1) := by decide +kernel
theorem dX4_nextRoute_50 : decode cX4_nextRoute 50 = .ok (.ireturn, 1) := by decide +kernel
theorem dX4_swap_0 : decode cX4_swap 0 = .ok (.aload_n 0, 1) := by decide +kernel
theorem dX4_swap_1 : decode cX4_swap 1 = .ok (.getfield 9, 3) := by decide +kernel
theorem dX4_swap_4 : decode cX4_swap 4 = .ok (.iload_n 1, 1) := by decide +kernel
theorem dX4_swap_5 : decode cX4_swap 5 = .ok (.iaload, 1) := by decide +kernel
theorem dX4_swap_6 : decode cX4_swap 6 = .ok (.istore_n 3, 1) := by decide +kernel
theorem dX4_swap_7 : decode cX4_swap 7 = .ok (.aload_n 0, 1) := by decide +kernel
theorem dX4_swap_8 : decode cX4_swap 8 = .ok (.getfield 9, 3) := by decide +kernel
theorem dX4_swap_11 : decode cX4_swap 11 = .ok (.iload_n 1, 1) := by decide +kernel
theorem dX4_swap_12 : decode cX4_swap 12 = .ok (.aload_n 0, 1) := by decide +kernel
theorem dX4_swap_13 : decode cX4_swap 13 = .ok (.getfield 9, 3) := by decide +kernel
theorem dX4_swap_16 : decode cX4_swap 16 = .ok (.iload_n 2, 1) := by decide +kernel
theorem dX4_swap_17 : decode cX4_swap 17 = .ok (.iaload, 1) := by decide +kernel
theorem dX4_swap_18 : decode cX4_swap 18 = .ok (.iastore, 1) := by decide +kernel
theorem dX4_swap_19 : decode cX4_swap 19 = .ok (.aload_n 0, 1) := by decide +kernel
theorem dX4_swap_20 : decode cX4_swap 20 = .ok (.getfield 9, 3) := by decide +kernel
theorem dX4_swap_23 : decode cX4_swap 23 = .ok (.iload_n 2, 1) := by decide +kernel
theorem dX4_swap_24 : decode cX4_swap 24 = .ok (.iload_n 3, 1) := by decide +kernel
theorem dX4_swap_25 : decode cX4_swap 25 = .ok (.iastore, 1) := by decide +kernel
theorem dX4_swap_26 : decode cX4_swap 26 = .ok (.return_, 1) := by decide +kernel
theorem dX4_tryOrders_0 : decode cX4_tryOrders 0 = .ok (.aload_n 1, 1) := by decide +kernel
theorem dX4_tryOrders_1 : decode cX4_tryOrders 1 = .ok (.getfield 18, 3) := by decide +kernel
theorem dX4_tryOrders_4 : decode cX4_tryOrders 4 = .ok (.getfield 24, 3) := by decide +kernel
theorem dX4_tryOrders_7 : decode cX4_tryOrders 7 = .ok (.istore_n 2, 1) := by decide +kernel
theorem dX4_tryOrders_8 : decode cX4_tryOrders 8 = .ok (.aload_n 0, 1) := by decide +kernel
theorem dX4_tryOrders_9 : decode cX4_tryOrders 9 = .ok (.invokevirtual 30, 3) := by decide +kernel
theorem dX4_tryOrders_12 : decode cX4_tryOrders 12 = .ok (.iconst 0, 1) := by decide +kernel
theorem dX4_tryOrders_13 : decode cX4_tryOrders 13 = .ok (.istore_n 3, 1) := by decide +kernel
theorem dX4_tryOrders_14 : decode cX4_tryOrders 14 = .ok (.iload_n 3, 1) := by decide +kernel
theorem dX4_tryOrders_15 : decode cX4_tryOrders 15 = .ok (.iload_n 2, 1) := by decide +kernel
theorem dX4_tryOrders_16 : decode cX4_tryOrders 16 = .ok (.if_icmp .ge 16, 3) := by decide +kernel
theorem dX4_tryOrders_19 : decode cX4_tryOrders 19 = .ok (.aload_n 0, 1) := by decide +kernel
theorem dX4_tryOrders_20 : decode cX4_tryOrders 20 = .ok (.getfield 9, 3) := by decide +kernel
theorem dX4_tryOrders_23 : decode cX4_tryOrders 23 = .ok (.iload_n 3, 1) := by decide +kernel
theorem dX4_tryOrders_24 : decode cX4_tryOrders 24 = .ok (.iload_n 3, 1) := by decide +kernel
theorem dX4_tryOrders_25 : decode cX4_tryOrders 25 = .ok (.iastore, 1) := by decide +kernel
theorem dX4_tryOrders_26 : decode cX4_tryOrders 26 = .ok (.iinc 3 1, 3) := by decide +kernel
theorem dX4_tryOrders_29 : decode cX4_tryOrders 29 = .ok (.goto (-15), 3) := by decide +kernel
theorem dX4_tryOrders_32 : decode cX4_tryOrders 32 = .ok (.iconst 0, 1) := by decide +kernel
theorem dX4_tryOrders_33 : decode cX4_tryOrders 33 = .ok (.istore_n 3, 1) := by decide +kernel
theorem dX4_tryOrders_34 : decode cX4_tryOrders 34 = .ok (.iconst 0, 1) := by decide +kernel
theorem dX4_tryOrders_35 : decode cX4_tryOrders 35 = .ok (.istore 4, 2) := by decide +kernel
theorem dX4_tryOrders_37 : decode cX4_tryOrders 37 = .ok (.iload 4, 2) := by decide +kernel
theorem dX4_tryOrders_39 : decode cX4_tryOrders 39 = .ok (.sipush 5040, 3) := by decide +kernel
theorem dX4_tryOrders_42 : decode cX4_tryOrders 42 = .ok (.if_icmp .ge 55, 3) := by decide +kernel
theorem dX4_tryOrders_45 : decode cX4_tryOrders 45 = .ok (.iload_n 3, 1) := by decide +kernel
theorem dX4_tryOrders_46 : decode cX4_tryOrders 46 = .ok (.ifCond .lt 51, 3) := by decide +kernel
theorem dX4_tryOrders_49 : decode cX4_tryOrders 49 = .ok (.iload_n 3, 1) := by decide +kernel
theorem dX4_tryOrders_50 : decode cX4_tryOrders 50 = .ok (.istore 5, 2) := by decide +kernel
theorem dX4_tryOrders_52 : decode cX4_tryOrders 52 = .ok (.iload 5, 2) := by decide +kernel
theorem dX4_tryOrders_54 : decode cX4_tryOrders 54 = .ok (.iload_n 2, 1) := by decide +kernel
theorem dX4_tryOrders_55 : decode cX4_tryOrders 55 = .ok (.if_icmp .ge 22, 3) := by decide +kernel
theorem dX4_tryOrders_58 : decode cX4_tryOrders 58 = .ok (.aload_n 1, 1) := by decide +kernel
theorem dX4_tryOrders_59 : decode cX4_tryOrders 59 = .ok (.iload 5, 2) := by decide +kernel
theorem dX4_tryOrders_61 : decode cX4_tryOrders 61 = .ok (.aload_n 0, 1) := by decide +kernel
theorem dX4_tryOrders_62 : decode cX4_tryOrders 62 = .ok (.getfield 9, 3) := by decide +kernel
theorem dX4_tryOrders_65 : decode cX4_tryOrders 65 = .ok (.iload 5, 2) := by decide +kernel
theorem dX4_tryOrders_67 : decode cX4_tryOrders 67 = .ok (.iaload, 1) := by decide +kernel
theorem dX4_tryOrders_68 : decode cX4_tryOrders 68 = .ok (.invokevirtual 33, 3) := by decide +kernel
theorem dX4_tryOrders_71 : decode cX4_tryOrders 71 = .ok (.iinc 5 1, 3) := by decide +kernel
theorem dX4_tryOrders_74 : decode cX4_tryOrders 74 = .ok (.goto (-22), 3) := by decide +kernel
theorem dX4_tryOrders_77 : decode cX4_tryOrders 77 = .ok (.aload_n 0, 1) := by decide +kernel
theorem dX4_tryOrders_78 : decode cX4_tryOrders 78 = .ok (.aload_n 1, 1) := by decide +kernel
theorem dX4_tryOrders_79 : decode cX4_tryOrders 79 = .ok (.invokevirtual 37, 3) := by decide +kernel
theorem dX4_tryOrders_82 : decode cX4_tryOrders 82 = .ok (.invokevirtual 41, 3) := by decide +kernel
theorem dX4_tryOrders_85 : decode cX4_tryOrders 85 = .ok (.aload_n 0, 1) := by decide +kernel
theorem dX4_tryOrders_86 : decode cX4_tryOrders 86 = .ok (.iload_n 2, 1) := by decide +kernel
theorem dX4_tryOrders_87 : decode cX4_tryOrders 87 = .ok (.invokevirtual 45, 3) := by decide +kernel
theorem dX4_tryOrders_90 : decode cX4_tryOrders 90 = .ok (.istore_n 3, 1) := by decide +kernel
theorem dX4_tryOrders_91 : decode cX4_tryOrders 91 = .ok (.iinc 4 1, 3) := by decide +kernel
theorem dX4_tryOrders_94 : decode cX4_tryOrders 94 = .ok (.goto (-57), 3) := by decide +kernel
theorem dX4_tryOrders_97 : decode cX4_tryOrders 97 = .ok (.return_, 1) := by decide +kernel
theorem dX4_tryRoutes_0 : decode cX4_tryRoutes 0 = .ok (.aload_n 1, 1) := by decide +kernel
theorem dX4_tryRoutes_1 : decode cX4_tryRoutes 1 = .ok (.getfield 18, 3) := by decide +kernel
theorem dX4_tryRoutes_4 : decode cX4_tryRoutes 4 = .ok (.getfield 24, 3) := by decide +kernel
theorem dX4_tryRoutes_7 : decode cX4_tryRoutes 7 = .ok (.istore_n 2, 1) := by decide +kernel
theorem dX4_tryRoutes_8 : decode cX4_tryRoutes 8 = .ok (.aload_n 0, 1) := by decide +kernel
theorem dX4_tryRoutes_9 : decode cX4_tryRoutes 9 = .ok (.invokevirtual 30, 3) := by decide +kernel
theorem dX4_tryRoutes_12 : decode cX4_tryRoutes 12 = .ok (.iconst 0, 1) := by decide +kernel
theorem dX4_tryRoutes_13 : decode cX4_tryRoutes 13 = .ok (.istore_n 3, 1) := by decide +kernel
theorem dX4_tryRoutes_14 : decode cX4_tryRoutes 14 = .ok (.iload_n 3, 1) := by decide +kernel
theorem dX4_tryRoutes_15 : decode cX4_tryRoutes 15 = .ok (.iload_n 2, 1) := by decide +kernel
theorem dX4_tryRoutes_16 : decode cX4_tryRoutes 16 = .ok (.if_icmp .ge 16, 3) := by decide +kernel
theorem dX4_tryRoutes_19 : decode cX4_tryRoutes 19 = .ok (.aload_n 0, 1) := by decide +kernel
theorem dX4_tryRoutes_20 : decode cX4_tryRoutes 20 = .ok (.getfield 9, 3) := by decide +kernel
theorem dX4_tryRoutes_23 : decode cX4_tryRoutes 23 = .ok (.iload_n 3, 1) := by decide +kernel
theorem dX4_tryRoutes_24 : decode cX4_tryRoutes 24 = .ok (.iconst 0, 1) := by decide +kernel
theorem dX4_tryRoutes_25 : decode cX4_tryRoutes 25 = .ok (.iastore, 1) := by decide +kernel
theorem dX4_tryRoutes_26 : decode cX4_tryRoutes 26 = .ok (.iinc 3 1, 3) := by decide +kernel
theorem dX4_tryRoutes_29 : decode cX4_tryRoutes 29 = .ok (.goto (-15), 3) := by decide +kernel
theorem dX4_tryRoutes_32 : decode cX4_tryRoutes 32 = .ok (.iconst 0, 1) := by decide +kernel
theorem dX4_tryRoutes_33 : decode cX4_tryRoutes 33 = .ok (.istore_n 3, 1) := by decide +kernel
theorem dX4_tryRoutes_34 : decode cX4_tryRoutes 34 = .ok (.iconst 0, 1) := by decide +kernel
theorem dX4_tryRoutes_35 : decode cX4_tryRoutes 35 = .ok (.istore 4, 2) := by decide +kernel
theorem dX4_tryRoutes_37 : decode cX4_tryRoutes 37 = .ok (.iload 4, 2) := by decide +kernel
theorem dX4_tryRoutes_39 : decode cX4_tryRoutes 39 = .ok (.sipush 5040, 3) := by decide +kernel
theorem dX4_tryRoutes_42 : decode cX4_tryRoutes 42 = .ok (.if_icmp .ge 74, 3) := by decide +kernel
theorem dX4_tryRoutes_45 : decode cX4_tryRoutes 45 = .ok (.iload_n 3, 1) := by decide +kernel
theorem dX4_tryRoutes_46 : decode cX4_tryRoutes 46 = .ok (.ifCond .lt 70, 3) := by decide +kernel
theorem dX4_tryRoutes_49 : decode cX4_tryRoutes 49 = .ok (.iload_n 3, 1) := by decide +kernel
theorem dX4_tryRoutes_50 : decode cX4_tryRoutes 50 = .ok (.istore 5, 2) := by decide +kernel
theorem dX4_tryRoutes_52 : decode cX4_tryRoutes 52 = .ok (.iload 5, 2) := by decide +kernel
theorem dX4_tryRoutes_54 : decode cX4_tryRoutes 54 = .ok (.iload_n 2, 1) := by decide +kernel
theorem dX4_tryRoutes_55 : decode cX4_tryRoutes 55 = .ok (.if_icmp .ge 34, 3) := by decide +kernel
theorem dX4_tryRoutes_58 : decode cX4_tryRoutes 58 = .ok (.aload_n 1, 1) := by decide +kernel
theorem dX4_tryRoutes_59 : decode cX4_tryRoutes 59 = .ok (.getfield 49, 3) := by decide +kernel
theorem dX4_tryRoutes_62 : decode cX4_tryRoutes 62 = .ok (.getfield 53, 3) := by decide +kernel
theorem dX4_tryRoutes_65 : decode cX4_tryRoutes 65 = .ok (.iload 5, 2) := by decide +kernel
theorem dX4_tryRoutes_67 : decode cX4_tryRoutes 67 = .ok (.aload_n 0, 1) := by decide +kernel
theorem dX4_tryRoutes_68 : decode cX4_tryRoutes 68 = .ok (.getfield 9, 3) := by decide +kernel
theorem dX4_tryRoutes_71 : decode cX4_tryRoutes 71 = .ok (.iload 5, 2) := by decide +kernel
theorem dX4_tryRoutes_73 : decode cX4_tryRoutes 73 = .ok (.iaload, 1) := by decide +kernel
theorem dX4_tryRoutes_74 : decode cX4_tryRoutes 74 = .ok (.iastore, 1) := by decide +kernel
theorem dX4_tryRoutes_75 : decode cX4_tryRoutes 75 = .ok (.aload_n 1, 1) := by decide +kernel
theorem dX4_tryRoutes_76 : decode cX4_tryRoutes 76 = .ok (.iload 5, 2) := by decide +kernel
theorem dX4_tryRoutes_78 : decode cX4_tryRoutes 78 = .ok (.iload 5, 2) := by decide +kernel
theorem dX4_tryRoutes_80 : decode cX4_tryRoutes 80 = .ok (.invokevirtual 33, 3) := by decide +kernel
theorem dX4_tryRoutes_83 : decode cX4_tryRoutes 83 = .ok (.iinc 5 1, 3) := by decide +kernel
theorem dX4_tryRoutes_86 : decode cX4_tryRoutes 86 = .ok (.goto (-34), 3) := by decide +kernel
theorem dX4_tryRoutes_89 : decode cX4_tryRoutes 89 = .ok (.aload_n 0, 1) := by decide +kernel
theorem dX4_tryRoutes_90 : decode cX4_tryRoutes 90 = .ok (.aload_n 1, 1) := by decide +kernel
theorem dX4_tryRoutes_91 : decode cX4_tryRoutes 91 = .ok (.invokevirtual 37, 3) := by decide +kernel
theorem dX4_tryRoutes_94 : decode cX4_tryRoutes 94 = .ok (.invokevirtual 41, 3) := by decide +kernel
theorem dX4_tryRoutes_97 : decode cX4_tryRoutes 97 = .ok (.aload_n 0, 1) := by decide +kernel
theorem dX4_tryRoutes_98 : decode cX4_tryRoutes 98 = .ok (.iload_n 2, 1) := by decide +kernel
theorem dX4_tryRoutes_99 : decode cX4_tryRoutes 99 = .ok (.aload_n 1, 1) := by decide +kernel
theorem dX4_tryRoutes_100 : decode cX4_tryRoutes 100 = .ok (.getfield 18, 3) := by decide +kernel
theorem dX4_tryRoutes_103 : decode cX4_tryRoutes 103 = .ok (.getfield 58, 3) := by decide +kernel
theorem dX4_tryRoutes_106 : decode cX4_tryRoutes 106 = .ok (.invokevirtual 61, 3) := by decide +kernel
theorem dX4_tryRoutes_109 : decode cX4_tryRoutes 109 = .ok (.istore_n 3, 1) := by decide +kernel
theorem dX4_tryRoutes_110 : decode cX4_tryRoutes 110 = .ok (.iinc 4 1, 3) := by decide +kernel
theorem dX4_tryRoutes_113 : decode cX4_tryRoutes 113 = .ok (.goto (-76), 3) := by decide +kernel
theorem dX4_tryRoutes_116 : decode cX4_tryRoutes 116 = .ok (.return_, 1) := by decide +kernel
theorem dX4_weigh_0 : decode cX4_weigh 0 = .ok (.aload_n 1, 1) := by decide +kernel
theorem dX4_weigh_1 : decode cX4_weigh 1 = .ok (.invokevirtual 78, 3) := by decide +kernel
theorem dX4_weigh_4 : decode cX4_weigh 4 = .ok (.istore_n 2, 1) := by decide +kernel
theorem dX4_weigh_5 : decode cX4_weigh 5 = .ok (.aload_n 0, 1) := by decide +kernel
theorem dX4_weigh_6 : decode cX4_weigh 6 = .ok (.getfield 69, 3) := by decide +kernel
theorem dX4_weigh_9 : decode cX4_weigh 9 = .ok (.ifCond .eq 11, 3) := by decide +kernel
theorem dX4_weigh_12 : decode cX4_weigh 12 = .ok (.iload_n 2, 1) := by decide +kernel
theorem dX4_weigh_13 : decode cX4_weigh 13 = .ok (.aload_n 0, 1) := by decide +kernel
theorem dX4_weigh_14 : decode cX4_weigh 14 = .ok (.getfield 72, 3) := by decide +kernel
theorem dX4_weigh_17 : decode cX4_weigh 17 = .ok (.if_icmp .ge 28, 3) := by decide +kernel
theorem dX4_weigh_20 : decode cX4_weigh 20 = .ok (.aload_n 0, 1) := by decide +kernel
theorem dX4_weigh_21 : decode cX4_weigh 21 = .ok (.iload_n 2, 1) := by decide +kernel
theorem dX4_weigh_22 : decode cX4_weigh 22 = .ok (.putfield 72, 3) := by decide +kernel
theorem dX4_weigh_25 : decode cX4_weigh 25 = .ok (.aload_n 0, 1) := by decide +kernel
theorem dX4_weigh_26 : decode cX4_weigh 26 = .ok (.iconst 0, 1) := by decide +kernel
theorem dX4_weigh_27 : decode cX4_weigh 27 = .ok (.putfield 69, 3) := by decide +kernel
theorem dX4_weigh_30 : decode cX4_weigh 30 = .ok (.aload_n 0, 1) := by decide +kernel
theorem dX4_weigh_31 : decode cX4_weigh 31 = .ok (.getfield 9, 3) := by decide +kernel
theorem dX4_weigh_34 : decode cX4_weigh 34 = .ok (.iconst 0, 1) := by decide +kernel
theorem dX4_weigh_35 : decode cX4_weigh 35 = .ok (.aload_n 0, 1) := by decide +kernel
theorem dX4_weigh_36 : decode cX4_weigh 36 = .ok (.getfield 15, 3) := by decide +kernel
theorem dX4_weigh_39 : decode cX4_weigh 39 = .ok (.iconst 0, 1) := by decide +kernel
theorem dX4_weigh_40 : decode cX4_weigh 40 = .ok (.bipush 7, 2) := by decide +kernel
theorem dX4_weigh_42 : decode cX4_weigh 42 = .ok (.invokestatic 84, 3) := by decide +kernel
theorem dX4_weigh_45 : decode cX4_weigh 45 = .ok (.iload_n 2, 1) := by decide +kernel
theorem dX4_weigh_46 : decode cX4_weigh 46 = .ok (.aload_n 0, 1) := by decide +kernel
theorem dX4_weigh_47 : decode cX4_weigh 47 = .ok (.getfield 72, 3) := by decide +kernel
theorem dX4_weigh_50 : decode cX4_weigh 50 = .ok (.if_icmp .ne 13, 3) := by decide +kernel
theorem dX4_weigh_53 : decode cX4_weigh 53 = .ok (.aload_n 0, 1) := by decide +kernel
theorem dX4_weigh_54 : decode cX4_weigh 54 = .ok (.dup, 1) := by decide +kernel
theorem dX4_weigh_55 : decode cX4_weigh 55 = .ok (.getfield 69, 3) := by decide +kernel
theorem dX4_weigh_58 : decode cX4_weigh 58 = .ok (.iconst 1, 1) := by decide +kernel
theorem dX4_weigh_59 : decode cX4_weigh 59 = .ok (.iadd, 1) := by decide +kernel
theorem dX4_weigh_60 : decode cX4_weigh 60 = .ok (.putfield 69, 3) := by decide +kernel
theorem dX4_weigh_63 : decode cX4_weigh 63 = .ok (.aload_n 0, 1) := by decide +kernel
theorem dX4_weigh_64 : decode cX4_weigh 64 = .ok (.aload_n 0, 1) := by decide +kernel
theorem dX4_weigh_65 : decode cX4_weigh 65 = .ok (.getfield 75, 3) := by decide +kernel
theorem dX4_weigh_68 : decode cX4_weigh 68 = .ok (.aload_n 1, 1) := by decide +kernel
theorem dX4_weigh_69 : decode cX4_weigh 69 = .ok (.getfield 90, 3) := by decide +kernel
theorem dX4_weigh_72 : decode cX4_weigh 72 = .ok (.invokestatic 93, 3) := by decide +kernel
theorem dX4_weigh_75 : decode cX4_weigh 75 = .ok (.invokestatic 98, 3) := by decide +kernel
theorem dX4_weigh_78 : decode cX4_weigh 78 = .ok (.putfield 75, 3) := by decide +kernel
theorem dX4_weigh_81 : decode cX4_weigh 81 = .ok (.return_, 1) := by decide +kernel
