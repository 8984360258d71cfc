theorem dX12_across_0 : decode cX12_across 0 = .ok (.aload_n 0, 1) := by decide +kernel
theorem dX12_across_1 : decode cX12_across 1 = .ok (.iconst 0, 1) := by decide +kernel
theorem dX12_across_2 : decode cX12_across 2 = .ok (.putfield 116, 3) := by decide +kernel
theorem dX12_across_5 : decode cX12_across 5 = .ok (.aload_n 0, 1) := by decide +kernel
theorem dX12_across_6 : decode cX12_across 6 = .ok (.invokevirtual 350, 3) := by decide +kernel
theorem dX12_across_9 : decode cX12_across 9 = .ok (.ifCond .ne 6, 3) := by decide +kernel
theorem dX12_across_12 : decode cX12_across 12 = .ok (.bipush (-2), 2) := by decide +kernel
theorem dX12_across_14 : decode cX12_across 14 = .ok (.ireturn, 1) := by decide +kernel
theorem dX12_across_15 : decode cX12_across 15 = .ok (.aload_n 0, 1) := by decide +kernel
theorem dX12_across_16 : decode cX12_across 16 = .ok (.invokevirtual 377, 3) := by decide +kernel
theorem dX12_across_19 : decode cX12_across 19 = .ok (.aload_n 0, 1) := by decide +kernel
theorem dX12_across_20 : decode cX12_across 20 = .ok (.getfield 371, 3) := by decide +kernel
theorem dX12_across_23 : decode cX12_across 23 = .ok (.ireturn, 1) := by decide +kernel
theorem dX12_laysOrders_0 : decode cX12_laysOrders 0 = .ok (.aload_n 0, 1) := by decide +kernel
theorem dX12_laysOrders_1 : decode cX12_laysOrders 1 = .ok (.invokevirtual 330, 3) := by decide +kernel
theorem dX12_laysOrders_4 : decode cX12_laysOrders 4 = .ok (.aload_n 0, 1) := by decide +kernel
theorem dX12_laysOrders_5 : decode cX12_laysOrders 5 = .ok (.ldc 166, 2) := by decide +kernel
theorem dX12_laysOrders_7 : decode cX12_laysOrders 7 = .ok (.putfield 362, 3) := by decide +kernel
theorem dX12_laysOrders_10 : decode cX12_laysOrders 10 = .ok (.aload_n 0, 1) := by decide +kernel
theorem dX12_laysOrders_11 : decode cX12_laysOrders 11 = .ok (.iconst 0, 1) := by decide +kernel
theorem dX12_laysOrders_12 : decode cX12_laysOrders 12 = .ok (.putfield 371, 3) := by decide +kernel
theorem dX12_laysOrders_15 : decode cX12_laysOrders 15 = .ok (.aload_n 0, 1) := by decide +kernel
theorem dX12_laysOrders_16 : decode cX12_laysOrders 16 = .ok (.iconst 0, 1) := by decide +kernel
theorem dX12_laysOrders_17 : decode cX12_laysOrders 17 = .ok (.iconst 0, 1) := by decide +kernel
theorem dX12_laysOrders_18 : decode cX12_laysOrders 18 = .ok (.invokevirtual 374, 3) := by decide +kernel
theorem dX12_laysOrders_21 : decode cX12_laysOrders 21 = .ok (.return_, 1) := by decide +kernel
theorem dX12_laysRoutes_0 : decode cX12_laysRoutes 0 = .ok (.aload_n 0, 1) := by decide +kernel
theorem dX12_laysRoutes_1 : decode cX12_laysRoutes 1 = .ok (.invokevirtual 330, 3) := by decide +kernel
theorem dX12_laysRoutes_4 : decode cX12_laysRoutes 4 = .ok (.aload_n 0, 1) := by decide +kernel
theorem dX12_laysRoutes_5 : decode cX12_laysRoutes 5 = .ok (.ldc 166, 2) := by decide +kernel
theorem dX12_laysRoutes_7 : decode cX12_laysRoutes 7 = .ok (.putfield 362, 3) := by decide +kernel
theorem dX12_laysRoutes_10 : decode cX12_laysRoutes 10 = .ok (.aload_n 0, 1) := by decide +kernel
theorem dX12_laysRoutes_11 : decode cX12_laysRoutes 11 = .ok (.iconst 0, 1) := by decide +kernel
theorem dX12_laysRoutes_12 : decode cX12_laysRoutes 12 = .ok (.putfield 371, 3) := by decide +kernel
theorem dX12_laysRoutes_15 : decode cX12_laysRoutes 15 = .ok (.aload_n 0, 1) := by decide +kernel
theorem dX12_laysRoutes_16 : decode cX12_laysRoutes 16 = .ok (.iconst 0, 1) := by decide +kernel
theorem dX12_laysRoutes_17 : decode cX12_laysRoutes 17 = .ok (.invokevirtual 380, 3) := by decide +kernel
theorem dX12_laysRoutes_20 : decode cX12_laysRoutes 20 = .ok (.return_, 1) := by decide +kernel
theorem dX12_least_0 : decode cX12_least 0 = .ok (.aload_n 0, 1) := by decide +kernel
theorem dX12_least_1 : decode cX12_least 1 = .ok (.iconst 0, 1) := by decide +kernel
theorem dX12_least_2 : decode cX12_least 2 = .ok (.putfield 116, 3) := by decide +kernel
theorem dX12_least_5 : decode cX12_least 5 = .ok (.aload_n 0, 1) := by decide +kernel
theorem dX12_least_6 : decode cX12_least 6 = .ok (.invokevirtual 350, 3) := by decide +kernel
theorem dX12_least_9 : decode cX12_least 9 = .ok (.ifCond .ne 6, 3) := by decide +kernel
theorem dX12_least_12 : decode cX12_least 12 = .ok (.bipush (-2), 2) := by decide +kernel
theorem dX12_least_14 : decode cX12_least 14 = .ok (.ireturn, 1) := by decide +kernel
theorem dX12_least_15 : decode cX12_least 15 = .ok (.aload_n 0, 1) := by decide +kernel
theorem dX12_least_16 : decode cX12_least 16 = .ok (.invokevirtual 377, 3) := by decide +kernel
theorem dX12_least_19 : decode cX12_least 19 = .ok (.aload_n 0, 1) := by decide +kernel
theorem dX12_least_20 : decode cX12_least 20 = .ok (.getfield 362, 3) := by decide +kernel
theorem dX12_least_23 : decode cX12_least 23 = .ok (.ireturn, 1) := by decide +kernel
theorem dX12_order_0 : decode cX12_order 0 = .ok (.aload_n 0, 1) := by decide +kernel
theorem dX12_order_1 : decode cX12_order 1 = .ok (.iconst 0, 1) := by decide +kernel
theorem dX12_order_2 : decode cX12_order 2 = .ok (.putfield 116, 3) := by decide +kernel
theorem dX12_order_5 : decode cX12_order 5 = .ok (.aload_n 0, 1) := by decide +kernel
theorem dX12_order_6 : decode cX12_order 6 = .ok (.iload_n 1, 1) := by decide +kernel
theorem dX12_order_7 : decode cX12_order 7 = .ok (.i2l, 1) := by decide +kernel
theorem dX12_order_8 : decode cX12_order 8 = .ok (.invokevirtual 289, 3) := by decide +kernel
theorem dX12_order_11 : decode cX12_order 11 = .ok (.ifCond .ne 6, 3) := by decide +kernel
theorem dX12_order_14 : decode cX12_order 14 = .ok (.bipush (-2), 2) := by decide +kernel
theorem dX12_order_16 : decode cX12_order 16 = .ok (.ireturn, 1) := by decide +kernel
theorem dX12_order_17 : decode cX12_order 17 = .ok (.aload_n 0, 1) := by decide +kernel
theorem dX12_order_18 : decode cX12_order 18 = .ok (.invokevirtual 377, 3) := by decide +kernel
theorem dX12_order_21 : decode cX12_order 21 = .ok (.aload_n 0, 1) := by decide +kernel
theorem dX12_order_22 : decode cX12_order 22 = .ok (.getfield 104, 3) := by decide +kernel
theorem dX12_order_25 : decode cX12_order 25 = .ok (.iload_n 1, 1) := by decide +kernel
theorem dX12_order_26 : decode cX12_order 26 = .ok (.iaload, 1) := by decide +kernel
theorem dX12_order_27 : decode cX12_order 27 = .ok (.ireturn, 1) := by decide +kernel
theorem dX12_orders_0 : decode cX12_orders 0 = .ok (.aload_n 0, 1) := by decide +kernel
theorem dX12_orders_1 : decode cX12_orders 1 = .ok (.iconst 0, 1) := by decide +kernel
theorem dX12_orders_2 : decode cX12_orders 2 = .ok (.putfield 116, 3) := by decide +kernel
theorem dX12_orders_5 : decode cX12_orders 5 = .ok (.aload_n 0, 1) := by decide +kernel
theorem dX12_orders_6 : decode cX12_orders 6 = .ok (.invokevirtual 350, 3) := by decide +kernel
theorem dX12_orders_9 : decode cX12_orders 9 = .ok (.ifCond .ne 6, 3) := by decide +kernel
theorem dX12_orders_12 : decode cX12_orders 12 = .ok (.bipush (-2), 2) := by decide +kernel
theorem dX12_orders_14 : decode cX12_orders 14 = .ok (.ireturn, 1) := by decide +kernel
theorem dX12_orders_15 : decode cX12_orders 15 = .ok (.aload_n 0, 1) := by decide +kernel
theorem dX12_orders_16 : decode cX12_orders 16 = .ok (.invokevirtual 377, 3) := by decide +kernel
theorem dX12_orders_19 : decode cX12_orders 19 = .ok (.aload_n 0, 1) := by decide +kernel
theorem dX12_orders_20 : decode cX12_orders 20 = .ok (.getfield 365, 3) := by decide +kernel
theorem dX12_orders_23 : decode cX12_orders 23 = .ok (.ireturn, 1) := by decide +kernel
theorem dX12_ordersFrom_0 : decode cX12_ordersFrom 0 = .ok (.iload_n 1, 1) := by decide +kernel
theorem dX12_ordersFrom_1 : decode cX12_ordersFrom 1 = .ok (.aload_n 0, 1) := by decide +kernel
theorem dX12_ordersFrom_2 : decode cX12_ordersFrom 2 = .ok (.invokevirtual 286, 3) := by decide +kernel
theorem dX12_ordersFrom_5 : decode cX12_ordersFrom 5 = .ok (.if_icmp .ne 108, 3) := by decide +kernel
theorem dX12_ordersFrom_8 : decode cX12_ordersFrom 8 = .ok (.aload_n 0, 1) := by decide +kernel
theorem dX12_ordersFrom_9 : decode cX12_ordersFrom 9 = .ok (.invokevirtual 333, 3) := by decide +kernel
theorem dX12_ordersFrom_12 : decode cX12_ordersFrom 12 = .ok (.aload_n 0, 1) := by decide +kernel
theorem dX12_ordersFrom_13 : decode cX12_ordersFrom 13 = .ok (.invokevirtual 339, 3) := by decide +kernel
theorem dX12_ordersFrom_16 : decode cX12_ordersFrom 16 = .ok (.istore_n 3, 1) := by decide +kernel
theorem dX12_ordersFrom_17 : decode cX12_ordersFrom 17 = .ok (.iload_n 3, 1) := by decide +kernel
theorem dX12_ordersFrom_18 : decode cX12_ordersFrom 18 = .ok (.aload_n 0, 1) := by decide +kernel
theorem dX12_ordersFrom_19 : decode cX12_ordersFrom 19 = .ok (.getfield 362, 3) := by decide +kernel
theorem dX12_ordersFrom_22 : decode cX12_ordersFrom 22 = .ok (.if_icmp .ge 42, 3) := by decide +kernel
theorem dX12_ordersFrom_25 : decode cX12_ordersFrom 25 = .ok (.aload_n 0, 1) := by decide +kernel
theorem dX12_ordersFrom_26 : decode cX12_ordersFrom 26 = .ok (.iload_n 3, 1) := by decide +kernel
theorem dX12_ordersFrom_27 : decode cX12_ordersFrom 27 = .ok (.putfield 362, 3) := by decide +kernel
theorem dX12_ordersFrom_30 : decode cX12_ordersFrom 30 = .ok (.aload_n 0, 1) := by decide +kernel
theorem dX12_ordersFrom_31 : decode cX12_ordersFrom 31 = .ok (.iconst 0, 1) := by decide +kernel
theorem dX12_ordersFrom_32 : decode cX12_ordersFrom 32 = .ok (.putfield 365, 3) := by decide +kernel
theorem dX12_ordersFrom_35 : decode cX12_ordersFrom 35 = .ok (.iconst 0, 1) := by decide +kernel
theorem dX12_ordersFrom_36 : decode cX12_ordersFrom 36 = .ok (.istore 4, 2) := by decide +kernel
theorem dX12_ordersFrom_38 : decode cX12_ordersFrom 38 = .ok (.iload 4, 2) := by decide +kernel
theorem dX12_ordersFrom_40 : decode cX12_ordersFrom 40 = .ok (.iload_n 1, 1) := by decide +kernel
theorem dX12_ordersFrom_41 : decode cX12_ordersFrom 41 = .ok (.if_icmp .ge 23, 3) := by decide +kernel
theorem dX12_ordersFrom_44 : decode cX12_ordersFrom 44 = .ok (.aload_n 0, 1) := by decide +kernel
theorem dX12_ordersFrom_45 : decode cX12_ordersFrom 45 = .ok (.getfield 104, 3) := by decide +kernel
theorem dX12_ordersFrom_48 : decode cX12_ordersFrom 48 = .ok (.iload 4, 2) := by decide +kernel
theorem dX12_ordersFrom_50 : decode cX12_ordersFrom 50 = .ok (.aload_n 0, 1) := by decide +kernel
theorem dX12_ordersFrom_51 : decode cX12_ordersFrom 51 = .ok (.getfield 62, 3) := by decide +kernel
theorem dX12_ordersFrom_54 : decode cX12_ordersFrom 54 = .ok (.iload 4, 2) := by decide +kernel
theorem dX12_ordersFrom_56 : decode cX12_ordersFrom 56 = .ok (.iaload, 1) := by decide +kernel
theorem dX12_ordersFrom_57 : decode cX12_ordersFrom 57 = .ok (.iastore, 1) := by decide +kernel
theorem dX12_ordersFrom_58 : decode cX12_ordersFrom 58 = .ok (.iinc 4 1, 3) := by decide +kernel
theorem dX12_ordersFrom_61 : decode cX12_ordersFrom 61 = .ok (.goto (-23), 3) := by decide +kernel
theorem dX12_ordersFrom_64 : decode cX12_ordersFrom 64 = .ok (.aload_n 0, 1) := by decide +kernel
theorem dX12_ordersFrom_65 : decode cX12_ordersFrom 65 = .ok (.dup, 1) := by decide +kernel
theorem dX12_ordersFrom_66 : decode cX12_ordersFrom 66 = .ok (.getfield 365, 3) := by decide +kernel
theorem dX12_ordersFrom_69 : decode cX12_ordersFrom 69 = .ok (.iload_n 3, 1) := by decide +kernel
theorem dX12_ordersFrom_70 : decode cX12_ordersFrom 70 = .ok (.aload_n 0, 1) := by decide +kernel
theorem dX12_ordersFrom_71 : decode cX12_ordersFrom 71 = .ok (.getfield 362, 3) := by decide +kernel
theorem dX12_ordersFrom_74 : decode cX12_ordersFrom 74 = .ok (.if_icmp .ne 7, 3) := by decide +kernel
theorem dX12_ordersFrom_77 : decode cX12_ordersFrom 77 = .ok (.iconst 1, 1) := by decide +kernel
theorem dX12_ordersFrom_78 : decode cX12_ordersFrom 78 = .ok (.goto 4, 3) := by decide +kernel
theorem dX12_ordersFrom_81 : decode cX12_ordersFrom 81 = .ok (.iconst 0, 1) := by decide +kernel
theorem dX12_ordersFrom_82 : decode cX12_ordersFrom 82 = .ok (.iadd, 1) := by decide +kernel
theorem dX12_ordersFrom_83 : decode cX12_ordersFrom 83 = .ok (.putfield 365, 3) := by decide +kernel
theorem dX12_ordersFrom_86 : decode cX12_ordersFrom 86 = .ok (.aload_n 0, 1) := by decide +kernel
theorem dX12_ordersFrom_87 : decode cX12_ordersFrom 87 = .ok (.aload_n 0, 1) := by decide +kernel
theorem dX12_ordersFrom_88 : decode cX12_ordersFrom 88 = .ok (.invokevirtual 368, 3) := by decide +kernel
theorem dX12_ordersFrom_91 : decode cX12_ordersFrom 91 = .ok (.aload_n 0, 1) := by decide +kernel
theorem dX12_ordersFrom_92 : decode cX12_ordersFrom 92 = .ok (.getfield 371, 3) := by decide +kernel
theorem dX12_ordersFrom_95 : decode cX12_ordersFrom 95 = .ok (.if_icmp .le 10, 3) := by decide +kernel
theorem dX12_ordersFrom_98 : decode cX12_ordersFrom 98 = .ok (.aload_n 0, 1) := by decide +kernel
theorem dX12_ordersFrom_99 : decode cX12_ordersFrom 99 = .ok (.invokevirtual 368, 3) := by decide +kernel
theorem dX12_ordersFrom_102 : decode cX12_ordersFrom 102 = .ok (.goto 7, 3) := by decide +kernel
theorem dX12_ordersFrom_105 : decode cX12_ordersFrom 105 = .ok (.aload_n 0, 1) := by decide +kernel
theorem dX12_ordersFrom_106 : decode cX12_ordersFrom 106 = .ok (.getfield 371, 3) := by decide +kernel
theorem dX12_ordersFrom_109 : decode cX12_ordersFrom 109 = .ok (.putfield 371, 3) := by decide +kernel
theorem dX12_ordersFrom_112 : decode cX12_ordersFrom 112 = .ok (.return_, 1) := by decide +kernel
theorem dX12_ordersFrom_113 : decode cX12_ordersFrom 113 = .ok (.iconst 0, 1) := by decide +kernel
theorem dX12_ordersFrom_114 : decode cX12_ordersFrom 114 = .ok (.istore_n 3, 1) := by decide +kernel
theorem dX12_ordersFrom_115 : decode cX12_ordersFrom 115 = .ok (.iload_n 3, 1) := by decide +kernel
theorem dX12_ordersFrom_116 : decode cX12_ordersFrom 116 = .ok (.aload_n 0, 1) := by decide +kernel
theorem dX12_ordersFrom_117 : decode cX12_ordersFrom 117 = .ok (.invokevirtual 286, 3) := by decide +kernel
theorem dX12_ordersFrom_120 : decode cX12_ordersFrom 120 = .ok (.if_icmp .ge 39, 3) := by decide +kernel
theorem dX12_ordersFrom_123 : decode cX12_ordersFrom 123 = .ok (.iload_n 2, 1) := by decide +kernel
theorem dX12_ordersFrom_124 : decode cX12_ordersFrom 124 = .ok (.iload_n 3, 1) := by decide +kernel
theorem dX12_ordersFrom_125 : decode cX12_ordersFrom 125 = .ok (.invokestatic 307, 3) := by decide +kernel
theorem dX12_ordersFrom_128 : decode cX12_ordersFrom 128 = .ok (.ifCond .eq 6, 3) := by decide +kernel
theorem dX12_ordersFrom_131 : decode cX12_ordersFrom 131 = .ok (.goto 22, 3) := by decide +kernel
theorem dX12_ordersFrom_134 : decode cX12_ordersFrom 134 = .ok (.aload_n 0, 1) := by decide +kernel
theorem dX12_ordersFrom_135 : decode cX12_ordersFrom 135 = .ok (.getfield 62, 3) := by decide +kernel
theorem dX12_ordersFrom_138 : decode cX12_ordersFrom 138 = .ok (.iload_n 1, 1) := by decide +kernel
theorem dX12_ordersFrom_139 : decode cX12_ordersFrom 139 = .ok (.iload_n 3, 1) := by decide +kernel
theorem dX12_ordersFrom_140 : decode cX12_ordersFrom 140 = .ok (.iastore, 1) := by decide +kernel
theorem dX12_ordersFrom_141 : decode cX12_ordersFrom 141 = .ok (.aload_n 0, 1) := by decide +kernel
theorem dX12_ordersFrom_142 : decode cX12_ordersFrom 142 = .ok (.iload_n 1, 1) := by decide +kernel
theorem dX12_ordersFrom_143 : decode cX12_ordersFrom 143 = .ok (.iconst 1, 1) := by decide +kernel
theorem dX12_ordersFrom_144 : decode cX12_ordersFrom 144 = .ok (.iadd, 1) := by decide +kernel
theorem dX12_ordersFrom_145 : decode cX12_ordersFrom 145 = .ok (.iload_n 2, 1) := by decide +kernel
theorem dX12_ordersFrom_146 : decode cX12_ordersFrom 146 = .ok (.iconst 1, 1) := by decide +kernel
theorem dX12_ordersFrom_147 : decode cX12_ordersFrom 147 = .ok (.iload_n 3, 1) := by decide +kernel
theorem dX12_ordersFrom_148 : decode cX12_ordersFrom 148 = .ok (.ishl, 1) := by decide +kernel
theorem dX12_ordersFrom_149 : decode cX12_ordersFrom 149 = .ok (.ior, 1) := by decide +kernel
theorem dX12_ordersFrom_150 : decode cX12_ordersFrom 150 = .ok (.invokevirtual 374, 3) := by decide +kernel
theorem dX12_ordersFrom_153 : decode cX12_ordersFrom 153 = .ok (.iinc 3 1, 3) := by decide +kernel
theorem dX12_ordersFrom_156 : decode cX12_ordersFrom 156 = .ok (.goto (-41), 3) := by decide +kernel
theorem dX12_ordersFrom_159 : decode cX12_ordersFrom 159 = .ok (.return_, 1) := by decide +kernel
theorem dX12_route_0 : decode cX12_route 0 = .ok (.aload_n 0, 1) := by decide +kernel
theorem dX12_route_1 : decode cX12_route 1 = .ok (.iconst 0, 1) := by decide +kernel
theorem dX12_route_2 : decode cX12_route 2 = .ok (.putfield 116, 3) := by decide +kernel
theorem dX12_route_5 : decode cX12_route 5 = .ok (.aload_n 0, 1) := by decide +kernel
theorem dX12_route_6 : decode cX12_route 6 = .ok (.iload_n 1, 1) := by decide +kernel
theorem dX12_route_7 : decode cX12_route 7 = .ok (.i2l, 1) := by decide +kernel
theorem dX12_route_8 : decode cX12_route 8 = .ok (.invokevirtual 289, 3) := by decide +kernel
theorem dX12_route_11 : decode cX12_route 11 = .ok (.ifCond .ne 6, 3) := by decide +kernel
theorem dX12_route_14 : decode cX12_route 14 = .ok (.bipush (-2), 2) := by decide +kernel
theorem dX12_route_16 : decode cX12_route 16 = .ok (.ireturn, 1) := by decide +kernel
theorem dX12_route_17 : decode cX12_route 17 = .ok (.aload_n 0, 1) := by decide +kernel
theorem dX12_route_18 : decode cX12_route 18 = .ok (.invokevirtual 383, 3) := by decide +kernel
theorem dX12_route_21 : decode cX12_route 21 = .ok (.aload_n 0, 1) := by decide +kernel
theorem dX12_route_22 : decode cX12_route 22 = .ok (.getfield 104, 3) := by decide +kernel
theorem dX12_route_25 : decode cX12_route 25 = .ok (.iload_n 1, 1) := by decide +kernel
theorem dX12_route_26 : decode cX12_route 26 = .ok (.iaload, 1) := by decide +kernel
theorem dX12_route_27 : decode cX12_route 27 = .ok (.ireturn, 1) := by decide +kernel
theorem dX12_routes_0 : decode cX12_routes 0 = .ok (.aload_n 0, 1) := by decide +kernel
theorem dX12_routes_1 : decode cX12_routes 1 = .ok (.iconst 0, 1) := by decide +kernel
theorem dX12_routes_2 : decode cX12_routes 2 = .ok (.putfield 116, 3) := by decide +kernel
theorem dX12_routes_5 : decode cX12_routes 5 = .ok (.aload_n 0, 1) := by decide +kernel
theorem dX12_routes_6 : decode cX12_routes 6 = .ok (.invokevirtual 350, 3) := by decide +kernel
theorem dX12_routes_9 : decode cX12_routes 9 = .ok (.ifCond .ne 6, 3) := by decide +kernel
theorem dX12_routes_12 : decode cX12_routes 12 = .ok (.bipush (-2), 2) := by decide +kernel
theorem dX12_routes_14 : decode cX12_routes 14 = .ok (.ireturn, 1) := by decide +kernel
theorem dX12_routes_15 : decode cX12_routes 15 = .ok (.aload_n 0, 1) := by decide +kernel
theorem dX12_routes_16 : decode cX12_routes 16 = .ok (.invokevirtual 383, 3) := by decide +kernel
theorem dX12_routes_19 : decode cX12_routes 19 = .ok (.aload_n 0, 1) := by decide +kernel
theorem dX12_routes_20 : decode cX12_routes 20 = .ok (.getfield 362, 3) := by decide +kernel
theorem dX12_routes_23 : decode cX12_routes 23 = .ok (.ireturn, 1) := by decide +kernel
theorem dX12_routesFrom_0 : decode cX12_routesFrom 0 = .ok (.iload_n 1, 1) := by decide +kernel
theorem dX12_routesFrom_1 : decode cX12_routesFrom 1 = .ok (.aload_n 0, 1) := by decide +kernel
theorem dX12_routesFrom_2 : decode cX12_routesFrom 2 = .ok (.invokevirtual 286, 3) := by decide +kernel
theorem dX12_routesFrom_5 : decode cX12_routesFrom 5 = .ok (.if_icmp .ne 78, 3) := by decide +kernel
theorem dX12_routesFrom_8 : decode cX12_routesFrom 8 = .ok (.aload_n 0, 1) := by decide +kernel
theorem dX12_routesFrom_9 : decode cX12_routesFrom 9 = .ok (.invokevirtual 333, 3) := by decide +kernel
theorem dX12_routesFrom_12 : decode cX12_routesFrom 12 = .ok (.aload_n 0, 1) := by decide +kernel
theorem dX12_routesFrom_13 : decode cX12_routesFrom 13 = .ok (.invokevirtual 339, 3) := by decide +kernel
theorem dX12_routesFrom_16 : decode cX12_routesFrom 16 = .ok (.aload_n 0, 1) := by decide +kernel
theorem dX12_routesFrom_17 : decode cX12_routesFrom 17 = .ok (.getfield 362, 3) := by decide +kernel
theorem dX12_routesFrom_20 : decode cX12_routesFrom 20 = .ok (.if_icmp .ge 36, 3) := by decide +kernel
theorem dX12_routesFrom_23 : decode cX12_routesFrom 23 = .ok (.aload_n 0, 1) := by decide +kernel
theorem dX12_routesFrom_24 : decode cX12_routesFrom 24 = .ok (.aload_n 0, 1) := by decide +kernel
theorem dX12_routesFrom_25 : decode cX12_routesFrom 25 = .ok (.invokevirtual 339, 3) := by decide +kernel
theorem dX12_routesFrom_28 : decode cX12_routesFrom 28 = .ok (.putfield 362, 3) := by decide +kernel
theorem dX12_routesFrom_31 : decode cX12_routesFrom 31 = .ok (.iconst 0, 1) := by decide +kernel
theorem dX12_routesFrom_32 : decode cX12_routesFrom 32 = .ok (.istore_n 2, 1) := by decide +kernel
theorem dX12_routesFrom_33 : decode cX12_routesFrom 33 = .ok (.iload_n 2, 1) := by decide +kernel
theorem dX12_routesFrom_34 : decode cX12_routesFrom 34 = .ok (.iload_n 1, 1) := by decide +kernel
theorem dX12_routesFrom_35 : decode cX12_routesFrom 35 = .ok (.if_icmp .ge 21, 3) := by decide +kernel
theorem dX12_routesFrom_38 : decode cX12_routesFrom 38 = .ok (.aload_n 0, 1) := by decide +kernel
theorem dX12_routesFrom_39 : decode cX12_routesFrom 39 = .ok (.getfield 104, 3) := by decide +kernel
theorem dX12_routesFrom_42 : decode cX12_routesFrom 42 = .ok (.iload_n 2, 1) := by decide +kernel
theorem dX12_routesFrom_43 : decode cX12_routesFrom 43 = .ok (.aload_n 0, 1) := by decide +kernel
theorem dX12_routesFrom_44 : decode cX12_routesFrom 44 = .ok (.getfield 59, 3) := by decide +kernel
theorem dX12_routesFrom_47 : decode cX12_routesFrom 47 = .ok (.iload_n 2, 1) := by decide +kernel
theorem dX12_routesFrom_48 : decode cX12_routesFrom 48 = .ok (.iaload, 1) := by decide +kernel
theorem dX12_routesFrom_49 : decode cX12_routesFrom 49 = .ok (.iastore, 1) := by decide +kernel
theorem dX12_routesFrom_50 : decode cX12_routesFrom 50 = .ok (.iinc 2 1, 3) := by decide +kernel
theorem dX12_routesFrom_53 : decode cX12_routesFrom 53 = .ok (.goto (-20), 3) := by decide +kernel
theorem dX12_routesFrom_56 : decode cX12_routesFrom 56 = .ok (.aload_n 0, 1) := by decide +kernel
theorem dX12_routesFrom_57 : decode cX12_routesFrom 57 = .ok (.aload_n 0, 1) := by decide +kernel
theorem dX12_routesFrom_58 : decode cX12_routesFrom 58 = .ok (.invokevirtual 368, 3) := by decide +kernel
theorem dX12_routesFrom_61 : decode cX12_routesFrom 61 = .ok (.aload_n 0, 1) := by decide +kernel
theorem dX12_routesFrom_62 : decode cX12_routesFrom 62 = .ok (.getfield 371, 3) := by decide +kernel
theorem dX12_routesFrom_65 : decode cX12_routesFrom 65 = .ok (.if_icmp .le 10, 3) := by decide +kernel
theorem dX12_routesFrom_68 : decode cX12_routesFrom 68 = .ok (.aload_n 0, 1) := by decide +kernel
theorem dX12_routesFrom_69 : decode cX12_routesFrom 69 = .ok (.invokevirtual 368, 3) := by decide +kernel
theorem dX12_routesFrom_72 : decode cX12_routesFrom 72 = .ok (.goto 7, 3) := by decide +kernel
theorem dX12_routesFrom_75 : decode cX12_routesFrom 75 = .ok (.aload_n 0, 1) := by decide +kernel
theorem dX12_routesFrom_76 : decode cX12_routesFrom 76 = .ok (.getfield 371, 3) := by decide +kernel
theorem dX12_routesFrom_79 : decode cX12_routesFrom 79 = .ok (.putfield 371, 3) := by decide +kernel
theorem dX12_routesFrom_82 : decode cX12_routesFrom 82 = .ok (.return_, 1) := by decide +kernel
theorem dX12_routesFrom_83 : decode cX12_routesFrom 83 = .ok (.iconst 0, 1) := by decide +kernel
theorem dX12_routesFrom_84 : decode cX12_routesFrom 84 = .ok (.istore_n 2, 1) := by decide +kernel
theorem dX12_routesFrom_85 : decode cX12_routesFrom 85 = .ok (.iload_n 2, 1) := by decide +kernel
theorem dX12_routesFrom_86 : decode cX12_routesFrom 86 = .ok (.aload_n 0, 1) := by decide +kernel
theorem dX12_routesFrom_87 : decode cX12_routesFrom 87 = .ok (.invokevirtual 283, 3) := by decide +kernel
theorem dX12_routesFrom_90 : decode cX12_routesFrom 90 = .ok (.if_icmp .ge 23, 3) := by decide +kernel
theorem dX12_routesFrom_93 : decode cX12_routesFrom 93 = .ok (.aload_n 0, 1) := by decide +kernel
theorem dX12_routesFrom_94 : decode cX12_routesFrom 94 = .ok (.getfield 59, 3) := by decide +kernel
theorem dX12_routesFrom_97 : decode cX12_routesFrom 97 = .ok (.iload_n 1, 1) := by decide +kernel
theorem dX12_routesFrom_98 : decode cX12_routesFrom 98 = .ok (.iload_n 2, 1) := by decide +kernel
theorem dX12_routesFrom_99 : decode cX12_routesFrom 99 = .ok (.iastore, 1) := by decide +kernel
theorem dX12_routesFrom_100 : decode cX12_routesFrom 100 = .ok (.aload_n 0, 1) := by decide +kernel
theorem dX12_routesFrom_101 : decode cX12_routesFrom 101 = .ok (.iload_n 1, 1) := by decide +kernel
theorem dX12_routesFrom_102 : decode cX12_routesFrom 102 = .ok (.iconst 1, 1) := by decide +kernel
theorem dX12_routesFrom_103 : decode cX12_routesFrom 103 = .ok (.iadd, 1) := by decide +kernel
theorem dX12_routesFrom_104 : decode cX12_routesFrom 104 = .ok (.invokevirtual 380, 3) := by decide +kernel
theorem dX12_routesFrom_107 : decode cX12_routesFrom 107 = .ok (.iinc 2 1, 3) := by decide +kernel
theorem dX12_routesFrom_110 : decode cX12_routesFrom 110 = .ok (.goto (-25), 3) := by decide +kernel
theorem dX12_routesFrom_113 : decode cX12_routesFrom 113 = .ok (.return_, 1) := by decide +kernel
theorem dX12_safe_0 : decode cX12_safe 0 = .ok (.aload_n 0, 1) := by decide +kernel
theorem dX12_safe_1 : decode cX12_safe 1 = .ok (.iconst 0, 1) := by decide +kernel
theorem dX12_safe_2 : decode cX12_safe 2 = .ok (.putfield 116, 3) := by decide +kernel
theorem dX12_safe_5 : decode cX12_safe 5 = .ok (.aload_n 0, 1) := by decide +kernel
theorem dX12_safe_6 : decode cX12_safe 6 = .ok (.invokevirtual 350, 3) := by decide +kernel
theorem dX12_safe_9 : decode cX12_safe 9 = .ok (.ifCond .ne 6, 3) := by decide +kernel
theorem dX12_safe_12 : decode cX12_safe 12 = .ok (.bipush (-2), 2) := by decide +kernel
theorem dX12_safe_14 : decode cX12_safe 14 = .ok (.ireturn, 1) := by decide +kernel
theorem dX12_safe_15 : decode cX12_safe 15 = .ok (.aload_n 0, 1) := by decide +kernel
theorem dX12_safe_16 : decode cX12_safe 16 = .ok (.invokevirtual 383, 3) := by decide +kernel
theorem dX12_safe_19 : decode cX12_safe 19 = .ok (.aload_n 0, 1) := by decide +kernel
theorem dX12_safe_20 : decode cX12_safe 20 = .ok (.getfield 371, 3) := by decide +kernel
theorem dX12_safe_23 : decode cX12_safe 23 = .ok (.ireturn, 1) := by decide +kernel
