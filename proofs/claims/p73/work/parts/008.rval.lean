theorem dX10_cartsBy_0 : decode cX10_cartsBy 0 = .ok (.iconst 0, 1) := by decide +kernel
theorem dX10_cartsBy_1 : decode cX10_cartsBy 1 = .ok (.istore_n 2, 1) := by decide +kernel
theorem dX10_cartsBy_2 : decode cX10_cartsBy 2 = .ok (.iconst 0, 1) := by decide +kernel
theorem dX10_cartsBy_3 : decode cX10_cartsBy 3 = .ok (.istore_n 3, 1) := by decide +kernel
theorem dX10_cartsBy_4 : decode cX10_cartsBy 4 = .ok (.iload_n 3, 1) := by decide +kernel
theorem dX10_cartsBy_5 : decode cX10_cartsBy 5 = .ok (.aload_n 0, 1) := by decide +kernel
theorem dX10_cartsBy_6 : decode cX10_cartsBy 6 = .ok (.getfield 49, 3) := by decide +kernel
theorem dX10_cartsBy_9 : decode cX10_cartsBy 9 = .ok (.if_icmp .ge 25, 3) := by decide +kernel
theorem dX10_cartsBy_12 : decode cX10_cartsBy 12 = .ok (.aload_n 0, 1) := by decide +kernel
theorem dX10_cartsBy_13 : decode cX10_cartsBy 13 = .ok (.getfield 21, 3) := by decide +kernel
theorem dX10_cartsBy_16 : decode cX10_cartsBy 16 = .ok (.iload_n 3, 1) := by decide +kernel
theorem dX10_cartsBy_17 : decode cX10_cartsBy 17 = .ok (.iaload, 1) := by decide +kernel
theorem dX10_cartsBy_18 : decode cX10_cartsBy 18 = .ok (.iload_n 1, 1) := by decide +kernel
theorem dX10_cartsBy_19 : decode cX10_cartsBy 19 = .ok (.if_icmp .ne 9, 3) := by decide +kernel
theorem dX10_cartsBy_22 : decode cX10_cartsBy 22 = .ok (.iload_n 2, 1) := by decide +kernel
theorem dX10_cartsBy_23 : decode cX10_cartsBy 23 = .ok (.iconst 1, 1) := by decide +kernel
theorem dX10_cartsBy_24 : decode cX10_cartsBy 24 = .ok (.iload_n 3, 1) := by decide +kernel
theorem dX10_cartsBy_25 : decode cX10_cartsBy 25 = .ok (.ishl, 1) := by decide +kernel
theorem dX10_cartsBy_26 : decode cX10_cartsBy 26 = .ok (.ior, 1) := by decide +kernel
theorem dX10_cartsBy_27 : decode cX10_cartsBy 27 = .ok (.istore_n 2, 1) := by decide +kernel
theorem dX10_cartsBy_28 : decode cX10_cartsBy 28 = .ok (.iinc 3 1, 3) := by decide +kernel
theorem dX10_cartsBy_31 : decode cX10_cartsBy 31 = .ok (.goto (-27), 3) := by decide +kernel
theorem dX10_cartsBy_34 : decode cX10_cartsBy 34 = .ok (.iload_n 2, 1) := by decide +kernel
theorem dX10_cartsBy_35 : decode cX10_cartsBy 35 = .ok (.ireturn, 1) := by decide +kernel
theorem dX10_clear_0 : decode cX10_clear 0 = .ok (.aload_n 0, 1) := by decide +kernel
theorem dX10_clear_1 : decode cX10_clear 1 = .ok (.iconst 0, 1) := by decide +kernel
theorem dX10_clear_2 : decode cX10_clear 2 = .ok (.putfield 33, 3) := by decide +kernel
theorem dX10_clear_5 : decode cX10_clear 5 = .ok (.aload_n 0, 1) := by decide +kernel
theorem dX10_clear_6 : decode cX10_clear 6 = .ok (.iconst 0, 1) := by decide +kernel
theorem dX10_clear_7 : decode cX10_clear 7 = .ok (.putfield 37, 3) := by decide +kernel
theorem dX10_clear_10 : decode cX10_clear 10 = .ok (.aload_n 0, 1) := by decide +kernel
theorem dX10_clear_11 : decode cX10_clear 11 = .ok (.iconst 0, 1) := by decide +kernel
theorem dX10_clear_12 : decode cX10_clear 12 = .ok (.putfield 40, 3) := by decide +kernel
theorem dX10_clear_15 : decode cX10_clear 15 = .ok (.aload_n 0, 1) := by decide +kernel
theorem dX10_clear_16 : decode cX10_clear 16 = .ok (.iconst 0, 1) := by decide +kernel
theorem dX10_clear_17 : decode cX10_clear 17 = .ok (.putfield 43, 3) := by decide +kernel
theorem dX10_clear_20 : decode cX10_clear 20 = .ok (.aload_n 0, 1) := by decide +kernel
theorem dX10_clear_21 : decode cX10_clear 21 = .ok (.iconst 0, 1) := by decide +kernel
theorem dX10_clear_22 : decode cX10_clear 22 = .ok (.putfield 46, 3) := by decide +kernel
theorem dX10_clear_25 : decode cX10_clear 25 = .ok (.aload_n 0, 1) := by decide +kernel
theorem dX10_clear_26 : decode cX10_clear 26 = .ok (.iconst 0, 1) := by decide +kernel
theorem dX10_clear_27 : decode cX10_clear 27 = .ok (.putfield 49, 3) := by decide +kernel
theorem dX10_clear_30 : decode cX10_clear 30 = .ok (.aload_n 0, 1) := by decide +kernel
theorem dX10_clear_31 : decode cX10_clear 31 = .ok (.iconst 0, 1) := by decide +kernel
theorem dX10_clear_32 : decode cX10_clear 32 = .ok (.putfield 52, 3) := by decide +kernel
theorem dX10_clear_35 : decode cX10_clear 35 = .ok (.aload_n 0, 1) := by decide +kernel
theorem dX10_clear_36 : decode cX10_clear 36 = .ok (.iconst 0, 1) := by decide +kernel
theorem dX10_clear_37 : decode cX10_clear 37 = .ok (.putfield 55, 3) := by decide +kernel
theorem dX10_clear_40 : decode cX10_clear 40 = .ok (.aload_n 0, 1) := by decide +kernel
theorem dX10_clear_41 : decode cX10_clear 41 = .ok (.iconst 0, 1) := by decide +kernel
theorem dX10_clear_42 : decode cX10_clear 42 = .ok (.putfield 58, 3) := by decide +kernel
theorem dX10_clear_45 : decode cX10_clear 45 = .ok (.return_, 1) := by decide +kernel
theorem dX10_hasBridge_0 : decode cX10_hasBridge 0 = .ok (.iload_n 1, 1) := by decide +kernel
theorem dX10_hasBridge_1 : decode cX10_hasBridge 1 = .ok (.ifCond .lt 15, 3) := by decide +kernel
theorem dX10_hasBridge_4 : decode cX10_hasBridge 4 = .ok (.iload_n 1, 1) := by decide +kernel
theorem dX10_hasBridge_5 : decode cX10_hasBridge 5 = .ok (.aload_n 0, 1) := by decide +kernel
theorem dX10_hasBridge_6 : decode cX10_hasBridge 6 = .ok (.getfield 46, 3) := by decide +kernel
theorem dX10_hasBridge_9 : decode cX10_hasBridge 9 = .ok (.if_icmp .ge 7, 3) := by decide +kernel
theorem dX10_hasBridge_12 : decode cX10_hasBridge 12 = .ok (.iconst 1, 1) := by decide +kernel
theorem dX10_hasBridge_13 : decode cX10_hasBridge 13 = .ok (.goto 4, 3) := by decide +kernel
theorem dX10_hasBridge_16 : decode cX10_hasBridge 16 = .ok (.iconst 0, 1) := by decide +kernel
theorem dX10_hasBridge_17 : decode cX10_hasBridge 17 = .ok (.ireturn, 1) := by decide +kernel
theorem dX10_hasCart_0 : decode cX10_hasCart 0 = .ok (.iload_n 1, 1) := by decide +kernel
theorem dX10_hasCart_1 : decode cX10_hasCart 1 = .ok (.ifCond .lt 15, 3) := by decide +kernel
theorem dX10_hasCart_4 : decode cX10_hasCart 4 = .ok (.iload_n 1, 1) := by decide +kernel
theorem dX10_hasCart_5 : decode cX10_hasCart 5 = .ok (.aload_n 0, 1) := by decide +kernel
theorem dX10_hasCart_6 : decode cX10_hasCart 6 = .ok (.getfield 49, 3) := by decide +kernel
theorem dX10_hasCart_9 : decode cX10_hasCart 9 = .ok (.if_icmp .ge 7, 3) := by decide +kernel
theorem dX10_hasCart_12 : decode cX10_hasCart 12 = .ok (.iconst 1, 1) := by decide +kernel
theorem dX10_hasCart_13 : decode cX10_hasCart 13 = .ok (.goto 4, 3) := by decide +kernel
theorem dX10_hasCart_16 : decode cX10_hasCart 16 = .ok (.iconst 0, 1) := by decide +kernel
theorem dX10_hasCart_17 : decode cX10_hasCart 17 = .ok (.ireturn, 1) := by decide +kernel
theorem dX10_take_0 : decode cX10_take 0 = .ok (.aload_n 1, 1) := by decide +kernel
theorem dX10_take_1 : decode cX10_take 1 = .ok (.getfield 9, 3) := by decide +kernel
theorem dX10_take_4 : decode cX10_take 4 = .ok (.iconst 0, 1) := by decide +kernel
theorem dX10_take_5 : decode cX10_take 5 = .ok (.aload_n 0, 1) := by decide +kernel
theorem dX10_take_6 : decode cX10_take 6 = .ok (.getfield 9, 3) := by decide +kernel
theorem dX10_take_9 : decode cX10_take 9 = .ok (.iconst 0, 1) := by decide +kernel
theorem dX10_take_10 : decode cX10_take 10 = .ok (.iconst 3, 1) := by decide +kernel
theorem dX10_take_11 : decode cX10_take 11 = .ok (.invokestatic 61, 3) := by decide +kernel
theorem dX10_take_14 : decode cX10_take 14 = .ok (.aload_n 1, 1) := by decide +kernel
theorem dX10_take_15 : decode cX10_take 15 = .ok (.getfield 15, 3) := by decide +kernel
theorem dX10_take_18 : decode cX10_take 18 = .ok (.iconst 0, 1) := by decide +kernel
theorem dX10_take_19 : decode cX10_take 19 = .ok (.aload_n 0, 1) := by decide +kernel
theorem dX10_take_20 : decode cX10_take 20 = .ok (.getfield 15, 3) := by decide +kernel
theorem dX10_take_23 : decode cX10_take 23 = .ok (.iconst 0, 1) := by decide +kernel
theorem dX10_take_24 : decode cX10_take 24 = .ok (.iconst 3, 1) := by decide +kernel
theorem dX10_take_25 : decode cX10_take 25 = .ok (.invokestatic 61, 3) := by decide +kernel
theorem dX10_take_28 : decode cX10_take 28 = .ok (.aload_n 1, 1) := by decide +kernel
theorem dX10_take_29 : decode cX10_take 29 = .ok (.getfield 18, 3) := by decide +kernel
theorem dX10_take_32 : decode cX10_take 32 = .ok (.iconst 0, 1) := by decide +kernel
theorem dX10_take_33 : decode cX10_take 33 = .ok (.aload_n 0, 1) := by decide +kernel
theorem dX10_take_34 : decode cX10_take 34 = .ok (.getfield 18, 3) := by decide +kernel
theorem dX10_take_37 : decode cX10_take 37 = .ok (.iconst 0, 1) := by decide +kernel
theorem dX10_take_38 : decode cX10_take 38 = .ok (.bipush 7, 2) := by decide +kernel
theorem dX10_take_40 : decode cX10_take 40 = .ok (.invokestatic 61, 3) := by decide +kernel
theorem dX10_take_43 : decode cX10_take 43 = .ok (.aload_n 1, 1) := by decide +kernel
theorem dX10_take_44 : decode cX10_take 44 = .ok (.getfield 21, 3) := by decide +kernel
theorem dX10_take_47 : decode cX10_take 47 = .ok (.iconst 0, 1) := by decide +kernel
theorem dX10_take_48 : decode cX10_take 48 = .ok (.aload_n 0, 1) := by decide +kernel
theorem dX10_take_49 : decode cX10_take 49 = .ok (.getfield 21, 3) := by decide +kernel
theorem dX10_take_52 : decode cX10_take 52 = .ok (.iconst 0, 1) := by decide +kernel
theorem dX10_take_53 : decode cX10_take 53 = .ok (.bipush 7, 2) := by decide +kernel
theorem dX10_take_55 : decode cX10_take 55 = .ok (.invokestatic 61, 3) := by decide +kernel
theorem dX10_take_58 : decode cX10_take 58 = .ok (.aload_n 1, 1) := by decide +kernel
theorem dX10_take_59 : decode cX10_take 59 = .ok (.getfield 24, 3) := by decide +kernel
theorem dX10_take_62 : decode cX10_take 62 = .ok (.iconst 0, 1) := by decide +kernel
theorem dX10_take_63 : decode cX10_take 63 = .ok (.aload_n 0, 1) := by decide +kernel
theorem dX10_take_64 : decode cX10_take 64 = .ok (.getfield 24, 3) := by decide +kernel
theorem dX10_take_67 : decode cX10_take 67 = .ok (.iconst 0, 1) := by decide +kernel
theorem dX10_take_68 : decode cX10_take 68 = .ok (.iconst 5, 1) := by decide +kernel
theorem dX10_take_69 : decode cX10_take 69 = .ok (.invokestatic 61, 3) := by decide +kernel
theorem dX10_take_72 : decode cX10_take 72 = .ok (.aload_n 1, 1) := by decide +kernel
theorem dX10_take_73 : decode cX10_take 73 = .ok (.getfield 27, 3) := by decide +kernel
theorem dX10_take_76 : decode cX10_take 76 = .ok (.iconst 0, 1) := by decide +kernel
theorem dX10_take_77 : decode cX10_take 77 = .ok (.aload_n 0, 1) := by decide +kernel
theorem dX10_take_78 : decode cX10_take 78 = .ok (.getfield 27, 3) := by decide +kernel
theorem dX10_take_81 : decode cX10_take 81 = .ok (.iconst 0, 1) := by decide +kernel
theorem dX10_take_82 : decode cX10_take 82 = .ok (.iconst 5, 1) := by decide +kernel
theorem dX10_take_83 : decode cX10_take 83 = .ok (.invokestatic 61, 3) := by decide +kernel
theorem dX10_take_86 : decode cX10_take 86 = .ok (.aload_n 1, 1) := by decide +kernel
theorem dX10_take_87 : decode cX10_take 87 = .ok (.getfield 30, 3) := by decide +kernel
theorem dX10_take_90 : decode cX10_take 90 = .ok (.iconst 0, 1) := by decide +kernel
theorem dX10_take_91 : decode cX10_take 91 = .ok (.aload_n 0, 1) := by decide +kernel
theorem dX10_take_92 : decode cX10_take 92 = .ok (.getfield 30, 3) := by decide +kernel
theorem dX10_take_95 : decode cX10_take 95 = .ok (.iconst 0, 1) := by decide +kernel
theorem dX10_take_96 : decode cX10_take 96 = .ok (.iconst 5, 1) := by decide +kernel
theorem dX10_take_97 : decode cX10_take 97 = .ok (.invokestatic 61, 3) := by decide +kernel
theorem dX10_take_100 : decode cX10_take 100 = .ok (.aload_n 0, 1) := by decide +kernel
theorem dX10_take_101 : decode cX10_take 101 = .ok (.aload_n 1, 1) := by decide +kernel
theorem dX10_take_102 : decode cX10_take 102 = .ok (.getfield 33, 3) := by decide +kernel
theorem dX10_take_105 : decode cX10_take 105 = .ok (.putfield 33, 3) := by decide +kernel
theorem dX10_take_108 : decode cX10_take 108 = .ok (.aload_n 0, 1) := by decide +kernel
theorem dX10_take_109 : decode cX10_take 109 = .ok (.aload_n 1, 1) := by decide +kernel
theorem dX10_take_110 : decode cX10_take 110 = .ok (.getfield 37, 3) := by decide +kernel
theorem dX10_take_113 : decode cX10_take 113 = .ok (.putfield 37, 3) := by decide +kernel
theorem dX10_take_116 : decode cX10_take 116 = .ok (.aload_n 0, 1) := by decide +kernel
theorem dX10_take_117 : decode cX10_take 117 = .ok (.aload_n 1, 1) := by decide +kernel
theorem dX10_take_118 : decode cX10_take 118 = .ok (.getfield 40, 3) := by decide +kernel
theorem dX10_take_121 : decode cX10_take 121 = .ok (.putfield 40, 3) := by decide +kernel
theorem dX10_take_124 : decode cX10_take 124 = .ok (.aload_n 0, 1) := by decide +kernel
theorem dX10_take_125 : decode cX10_take 125 = .ok (.aload_n 1, 1) := by decide +kernel
theorem dX10_take_126 : decode cX10_take 126 = .ok (.getfield 43, 3) := by decide +kernel
theorem dX10_take_129 : decode cX10_take 129 = .ok (.putfield 43, 3) := by decide +kernel
theorem dX10_take_132 : decode cX10_take 132 = .ok (.aload_n 0, 1) := by decide +kernel
theorem dX10_take_133 : decode cX10_take 133 = .ok (.aload_n 1, 1) := by decide +kernel
theorem dX10_take_134 : decode cX10_take 134 = .ok (.getfield 46, 3) := by decide +kernel
theorem dX10_take_137 : decode cX10_take 137 = .ok (.putfield 46, 3) := by decide +kernel
theorem dX10_take_140 : decode cX10_take 140 = .ok (.aload_n 0, 1) := by decide +kernel
theorem dX10_take_141 : decode cX10_take 141 = .ok (.aload_n 1, 1) := by decide +kernel
theorem dX10_take_142 : decode cX10_take 142 = .ok (.getfield 49, 3) := by decide +kernel
theorem dX10_take_145 : decode cX10_take 145 = .ok (.putfield 49, 3) := by decide +kernel
theorem dX10_take_148 : decode cX10_take 148 = .ok (.aload_n 0, 1) := by decide +kernel
theorem dX10_take_149 : decode cX10_take 149 = .ok (.aload_n 1, 1) := by decide +kernel
theorem dX10_take_150 : decode cX10_take 150 = .ok (.getfield 52, 3) := by decide +kernel
theorem dX10_take_153 : decode cX10_take 153 = .ok (.putfield 52, 3) := by decide +kernel
theorem dX10_take_156 : decode cX10_take 156 = .ok (.aload_n 0, 1) := by decide +kernel
theorem dX10_take_157 : decode cX10_take 157 = .ok (.aload_n 1, 1) := by decide +kernel
theorem dX10_take_158 : decode cX10_take 158 = .ok (.getfield 55, 3) := by decide +kernel
theorem dX10_take_161 : decode cX10_take 161 = .ok (.putfield 55, 3) := by decide +kernel
theorem dX10_take_164 : decode cX10_take 164 = .ok (.aload_n 0, 1) := by decide +kernel
theorem dX10_take_165 : decode cX10_take 165 = .ok (.aload_n 1, 1) := by decide +kernel
theorem dX10_take_166 : decode cX10_take 166 = .ok (.getfield 58, 3) := by decide +kernel
theorem dX10_take_169 : decode cX10_take 169 = .ok (.putfield 58, 3) := by decide +kernel
theorem dX10_take_172 : decode cX10_take 172 = .ok (.return_, 1) := by decide +kernel
theorem dX10_target_0 : decode cX10_target 0 = .ok (.iconst 0, 1) := by decide +kernel
theorem dX10_target_1 : decode cX10_target 1 = .ok (.istore_n 3, 1) := by decide +kernel
theorem dX10_target_2 : decode cX10_target 2 = .ok (.iload_n 3, 1) := by decide +kernel
theorem dX10_target_3 : decode cX10_target 3 = .ok (.aload_n 0, 1) := by decide +kernel
theorem dX10_target_4 : decode cX10_target 4 = .ok (.getfield 52, 3) := by decide +kernel
theorem dX10_target_7 : decode cX10_target 7 = .ok (.if_icmp .ge 36, 3) := by decide +kernel
theorem dX10_target_10 : decode cX10_target 10 = .ok (.aload_n 0, 1) := by decide +kernel
theorem dX10_target_11 : decode cX10_target 11 = .ok (.getfield 24, 3) := by decide +kernel
theorem dX10_target_14 : decode cX10_target 14 = .ok (.iload_n 3, 1) := by decide +kernel
theorem dX10_target_15 : decode cX10_target 15 = .ok (.iaload, 1) := by decide +kernel
theorem dX10_target_16 : decode cX10_target 16 = .ok (.iload_n 1, 1) := by decide +kernel
theorem dX10_target_17 : decode cX10_target 17 = .ok (.if_icmp .ne 20, 3) := by decide +kernel
theorem dX10_target_20 : decode cX10_target 20 = .ok (.aload_n 0, 1) := by decide +kernel
theorem dX10_target_21 : decode cX10_target 21 = .ok (.getfield 27, 3) := by decide +kernel
theorem dX10_target_24 : decode cX10_target 24 = .ok (.iload_n 3, 1) := by decide +kernel
theorem dX10_target_25 : decode cX10_target 25 = .ok (.iaload, 1) := by decide +kernel
theorem dX10_target_26 : decode cX10_target 26 = .ok (.iload_n 2, 1) := by decide +kernel
theorem dX10_target_27 : decode cX10_target 27 = .ok (.if_icmp .ge 10, 3) := by decide +kernel
theorem dX10_target_30 : decode cX10_target 30 = .ok (.aload_n 0, 1) := by decide +kernel
theorem dX10_target_31 : decode cX10_target 31 = .ok (.getfield 30, 3) := by decide +kernel
theorem dX10_target_34 : decode cX10_target 34 = .ok (.iload_n 3, 1) := by decide +kernel
theorem dX10_target_35 : decode cX10_target 35 = .ok (.iaload, 1) := by decide +kernel
theorem dX10_target_36 : decode cX10_target 36 = .ok (.ireturn, 1) := by decide +kernel
theorem dX10_target_37 : decode cX10_target 37 = .ok (.iinc 3 1, 3) := by decide +kernel
theorem dX10_target_40 : decode cX10_target 40 = .ok (.goto (-38), 3) := by decide +kernel
theorem dX10_target_43 : decode cX10_target 43 = .ok (.iload_n 1, 1) := by decide +kernel
theorem dX10_target_44 : decode cX10_target 44 = .ok (.ireturn, 1) := by decide +kernel
