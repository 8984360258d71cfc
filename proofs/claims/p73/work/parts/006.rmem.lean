theorem dX2_cartBits_0 : decode cX2_cartBits 0 = .ok (.iconst 0, 1) := by decide +kernel
theorem dX2_cartBits_1 : decode cX2_cartBits 1 = .ok (.istore_n 1, 1) := by decide +kernel
theorem dX2_cartBits_2 : decode cX2_cartBits 2 = .ok (.iconst 0, 1) := by decide +kernel
theorem dX2_cartBits_3 : decode cX2_cartBits 3 = .ok (.istore_n 2, 1) := by decide +kernel
theorem dX2_cartBits_4 : decode cX2_cartBits 4 = .ok (.iload_n 2, 1) := by decide +kernel
theorem dX2_cartBits_5 : decode cX2_cartBits 5 = .ok (.aload_n 0, 1) := by decide +kernel
theorem dX2_cartBits_6 : decode cX2_cartBits 6 = .ok (.getfield 18, 3) := by decide +kernel
theorem dX2_cartBits_9 : decode cX2_cartBits 9 = .ok (.if_icmp .ge 20, 3) := by decide +kernel
theorem dX2_cartBits_12 : decode cX2_cartBits 12 = .ok (.iload_n 1, 1) := by decide +kernel
theorem dX2_cartBits_13 : decode cX2_cartBits 13 = .ok (.iconst 1, 1) := by decide +kernel
theorem dX2_cartBits_14 : decode cX2_cartBits 14 = .ok (.aload_n 0, 1) := by decide +kernel
theorem dX2_cartBits_15 : decode cX2_cartBits 15 = .ok (.getfield 15, 3) := by decide +kernel
theorem dX2_cartBits_18 : decode cX2_cartBits 18 = .ok (.iload_n 2, 1) := by decide +kernel
theorem dX2_cartBits_19 : decode cX2_cartBits 19 = .ok (.iaload, 1) := by decide +kernel
theorem dX2_cartBits_20 : decode cX2_cartBits 20 = .ok (.ishl, 1) := by decide +kernel
theorem dX2_cartBits_21 : decode cX2_cartBits 21 = .ok (.ior, 1) := by decide +kernel
theorem dX2_cartBits_22 : decode cX2_cartBits 22 = .ok (.istore_n 1, 1) := by decide +kernel
theorem dX2_cartBits_23 : decode cX2_cartBits 23 = .ok (.iinc 2 1, 3) := by decide +kernel
theorem dX2_cartBits_26 : decode cX2_cartBits 26 = .ok (.goto (-22), 3) := by decide +kernel
theorem dX2_cartBits_29 : decode cX2_cartBits 29 = .ok (.iload_n 1, 1) := by decide +kernel
theorem dX2_cartBits_30 : decode cX2_cartBits 30 = .ok (.ireturn, 1) := by decide +kernel
theorem dX2_chill_0 : decode cX2_chill 0 = .ok (.iconst 0, 1) := by decide +kernel
theorem dX2_chill_1 : decode cX2_chill 1 = .ok (.istore_n 2, 1) := by decide +kernel
theorem dX2_chill_2 : decode cX2_chill 2 = .ok (.iconst 0, 1) := by decide +kernel
theorem dX2_chill_3 : decode cX2_chill 3 = .ok (.istore_n 3, 1) := by decide +kernel
theorem dX2_chill_4 : decode cX2_chill 4 = .ok (.iload_n 3, 1) := by decide +kernel
theorem dX2_chill_5 : decode cX2_chill 5 = .ok (.aload_n 0, 1) := by decide +kernel
theorem dX2_chill_6 : decode cX2_chill 6 = .ok (.getfield 18, 3) := by decide +kernel
theorem dX2_chill_9 : decode cX2_chill 9 = .ok (.if_icmp .ge 32, 3) := by decide +kernel
theorem dX2_chill_12 : decode cX2_chill 12 = .ok (.aload_n 0, 1) := by decide +kernel
theorem dX2_chill_13 : decode cX2_chill 13 = .ok (.getfield 9, 3) := by decide +kernel
theorem dX2_chill_16 : decode cX2_chill 16 = .ok (.iload_n 3, 1) := by decide +kernel
theorem dX2_chill_17 : decode cX2_chill 17 = .ok (.dup2, 1) := by decide +kernel
theorem dX2_chill_18 : decode cX2_chill 18 = .ok (.iaload, 1) := by decide +kernel
theorem dX2_chill_19 : decode cX2_chill 19 = .ok (.iload_n 1, 1) := by decide +kernel
theorem dX2_chill_20 : decode cX2_chill 20 = .ok (.isub, 1) := by decide +kernel
theorem dX2_chill_21 : decode cX2_chill 21 = .ok (.iastore, 1) := by decide +kernel
theorem dX2_chill_22 : decode cX2_chill 22 = .ok (.aload_n 0, 1) := by decide +kernel
theorem dX2_chill_23 : decode cX2_chill 23 = .ok (.getfield 9, 3) := by decide +kernel
theorem dX2_chill_26 : decode cX2_chill 26 = .ok (.iload_n 3, 1) := by decide +kernel
theorem dX2_chill_27 : decode cX2_chill 27 = .ok (.iaload, 1) := by decide +kernel
theorem dX2_chill_28 : decode cX2_chill 28 = .ok (.ifCond .le 7, 3) := by decide +kernel
theorem dX2_chill_31 : decode cX2_chill 31 = .ok (.iload_n 3, 1) := by decide +kernel
theorem dX2_chill_32 : decode cX2_chill 32 = .ok (.iconst 1, 1) := by decide +kernel
theorem dX2_chill_33 : decode cX2_chill 33 = .ok (.iadd, 1) := by decide +kernel
theorem dX2_chill_34 : decode cX2_chill 34 = .ok (.istore_n 2, 1) := by decide +kernel
theorem dX2_chill_35 : decode cX2_chill 35 = .ok (.iinc 3 1, 3) := by decide +kernel
theorem dX2_chill_38 : decode cX2_chill 38 = .ok (.goto (-34), 3) := by decide +kernel
theorem dX2_chill_41 : decode cX2_chill 41 = .ok (.aload_n 0, 1) := by decide +kernel
theorem dX2_chill_42 : decode cX2_chill 42 = .ok (.iload_n 2, 1) := by decide +kernel
theorem dX2_chill_43 : decode cX2_chill 43 = .ok (.putfield 18, 3) := by decide +kernel
theorem dX2_chill_46 : decode cX2_chill 46 = .ok (.return_, 1) := by decide +kernel
theorem dX2_depth_0 : decode cX2_depth 0 = .ok (.iconst 0, 1) := by decide +kernel
theorem dX2_depth_1 : decode cX2_depth 1 = .ok (.istore_n 1, 1) := by decide +kernel
theorem dX2_depth_2 : decode cX2_depth 2 = .ok (.iconst 0, 1) := by decide +kernel
theorem dX2_depth_3 : decode cX2_depth 3 = .ok (.istore_n 2, 1) := by decide +kernel
theorem dX2_depth_4 : decode cX2_depth 4 = .ok (.iload_n 2, 1) := by decide +kernel
theorem dX2_depth_5 : decode cX2_depth 5 = .ok (.aload_n 0, 1) := by decide +kernel
theorem dX2_depth_6 : decode cX2_depth 6 = .ok (.getfield 18, 3) := by decide +kernel
theorem dX2_depth_9 : decode cX2_depth 9 = .ok (.if_icmp .ge 22, 3) := by decide +kernel
theorem dX2_depth_12 : decode cX2_depth 12 = .ok (.iload_n 1, 1) := by decide +kernel
theorem dX2_depth_13 : decode cX2_depth 13 = .ok (.aload_n 0, 1) := by decide +kernel
theorem dX2_depth_14 : decode cX2_depth 14 = .ok (.getfield 9, 3) := by decide +kernel
theorem dX2_depth_17 : decode cX2_depth 17 = .ok (.iload_n 2, 1) := by decide +kernel
theorem dX2_depth_18 : decode cX2_depth 18 = .ok (.iaload, 1) := by decide +kernel
theorem dX2_depth_19 : decode cX2_depth 19 = .ok (.iload_n 2, 1) := by decide +kernel
theorem dX2_depth_20 : decode cX2_depth 20 = .ok (.iconst 1, 1) := by decide +kernel
theorem dX2_depth_21 : decode cX2_depth 21 = .ok (.iadd, 1) := by decide +kernel
theorem dX2_depth_22 : decode cX2_depth 22 = .ok (.idiv, 1) := by decide +kernel
theorem dX2_depth_23 : decode cX2_depth 23 = .ok (.iadd, 1) := by decide +kernel
theorem dX2_depth_24 : decode cX2_depth 24 = .ok (.istore_n 1, 1) := by decide +kernel
theorem dX2_depth_25 : decode cX2_depth 25 = .ok (.iinc 2 1, 3) := by decide +kernel
theorem dX2_depth_28 : decode cX2_depth 28 = .ok (.goto (-24), 3) := by decide +kernel
theorem dX2_depth_31 : decode cX2_depth 31 = .ok (.iload_n 1, 1) := by decide +kernel
theorem dX2_depth_32 : decode cX2_depth 32 = .ok (.ireturn, 1) := by decide +kernel
theorem dX2_heaviest_0 : decode cX2_heaviest 0 = .ok (.iload_n 1, 1) := by decide +kernel
theorem dX2_heaviest_1 : decode cX2_heaviest 1 = .ok (.ifCond .lt 20, 3) := by decide +kernel
theorem dX2_heaviest_4 : decode cX2_heaviest 4 = .ok (.iload_n 1, 1) := by decide +kernel
theorem dX2_heaviest_5 : decode cX2_heaviest 5 = .ok (.aload_n 0, 1) := by decide +kernel
theorem dX2_heaviest_6 : decode cX2_heaviest 6 = .ok (.getfield 18, 3) := by decide +kernel
theorem dX2_heaviest_9 : decode cX2_heaviest 9 = .ok (.if_icmp .ge 12, 3) := by decide +kernel
theorem dX2_heaviest_12 : decode cX2_heaviest 12 = .ok (.aload_n 0, 1) := by decide +kernel
theorem dX2_heaviest_13 : decode cX2_heaviest 13 = .ok (.getfield 9, 3) := by decide +kernel
theorem dX2_heaviest_16 : decode cX2_heaviest 16 = .ok (.iload_n 1, 1) := by decide +kernel
theorem dX2_heaviest_17 : decode cX2_heaviest 17 = .ok (.iaload, 1) := by decide +kernel
theorem dX2_heaviest_18 : decode cX2_heaviest 18 = .ok (.goto 4, 3) := by decide +kernel
theorem dX2_heaviest_21 : decode cX2_heaviest 21 = .ok (.iconst (-1), 1) := by decide +kernel
theorem dX2_heaviest_22 : decode cX2_heaviest 22 = .ok (.ireturn, 1) := by decide +kernel
theorem dX2_pass_0 : decode cX2_pass 0 = .ok (.aload_n 0, 1) := by decide +kernel
theorem dX2_pass_1 : decode cX2_pass 1 = .ok (.getfield 18, 3) := by decide +kernel
theorem dX2_pass_4 : decode cX2_pass 4 = .ok (.ifCond .le 17, 3) := by decide +kernel
theorem dX2_pass_7 : decode cX2_pass 7 = .ok (.aload_n 0, 1) := by decide +kernel
theorem dX2_pass_8 : decode cX2_pass 8 = .ok (.getfield 9, 3) := by decide +kernel
theorem dX2_pass_11 : decode cX2_pass 11 = .ok (.aload_n 0, 1) := by decide +kernel
theorem dX2_pass_12 : decode cX2_pass 12 = .ok (.getfield 18, 3) := by decide +kernel
theorem dX2_pass_15 : decode cX2_pass 15 = .ok (.iconst 1, 1) := by decide +kernel
theorem dX2_pass_16 : decode cX2_pass 16 = .ok (.isub, 1) := by decide +kernel
theorem dX2_pass_17 : decode cX2_pass 17 = .ok (.iaload, 1) := by decide +kernel
theorem dX2_pass_18 : decode cX2_pass 18 = .ok (.goto 4, 3) := by decide +kernel
theorem dX2_pass_21 : decode cX2_pass 21 = .ok (.iconst 0, 1) := by decide +kernel
theorem dX2_pass_22 : decode cX2_pass 22 = .ok (.istore 4, 2) := by decide +kernel
theorem dX2_pass_24 : decode cX2_pass 24 = .ok (.iload_n 1, 1) := by decide +kernel
theorem dX2_pass_25 : decode cX2_pass 25 = .ok (.iconst 2, 1) := by decide +kernel
theorem dX2_pass_26 : decode cX2_pass 26 = .ok (.irem, 1) := by decide +kernel
theorem dX2_pass_27 : decode cX2_pass 27 = .ok (.ifCond .eq 7, 3) := by decide +kernel
theorem dX2_pass_30 : decode cX2_pass 30 = .ok (.iconst 1, 1) := by decide +kernel
theorem dX2_pass_31 : decode cX2_pass 31 = .ok (.goto 4, 3) := by decide +kernel
theorem dX2_pass_34 : decode cX2_pass 34 = .ok (.iconst 0, 1) := by decide +kernel
theorem dX2_pass_35 : decode cX2_pass 35 = .ok (.istore 5, 2) := by decide +kernel
theorem dX2_pass_37 : decode cX2_pass 37 = .ok (.iload_n 3, 1) := by decide +kernel
theorem dX2_pass_38 : decode cX2_pass 38 = .ok (.iconst 1, 1) := by decide +kernel
theorem dX2_pass_39 : decode cX2_pass 39 = .ok (.if_icmp .eq 13, 3) := by decide +kernel
theorem dX2_pass_42 : decode cX2_pass 42 = .ok (.iload_n 3, 1) := by decide +kernel
theorem dX2_pass_43 : decode cX2_pass 43 = .ok (.iconst 3, 1) := by decide +kernel
theorem dX2_pass_44 : decode cX2_pass 44 = .ok (.if_icmp .ne 28, 3) := by decide +kernel
theorem dX2_pass_47 : decode cX2_pass 47 = .ok (.iload 5, 2) := by decide +kernel
theorem dX2_pass_49 : decode cX2_pass 49 = .ok (.ifCond .eq 23, 3) := by decide +kernel
theorem dX2_pass_52 : decode cX2_pass 52 = .ok (.iconst 2, 1) := by decide +kernel
theorem dX2_pass_53 : decode cX2_pass 53 = .ok (.iload_n 1, 1) := by decide +kernel
theorem dX2_pass_54 : decode cX2_pass 54 = .ok (.imul, 1) := by decide +kernel
theorem dX2_pass_55 : decode cX2_pass 55 = .ok (.iload 4, 2) := by decide +kernel
theorem dX2_pass_57 : decode cX2_pass 57 = .ok (.if_icmp .ge 15, 3) := by decide +kernel
theorem dX2_pass_60 : decode cX2_pass 60 = .ok (.aload_n 0, 1) := by decide +kernel
theorem dX2_pass_61 : decode cX2_pass 61 = .ok (.dup, 1) := by decide +kernel
theorem dX2_pass_62 : decode cX2_pass 62 = .ok (.getfield 18, 3) := by decide +kernel
theorem dX2_pass_65 : decode cX2_pass 65 = .ok (.iconst 1, 1) := by decide +kernel
theorem dX2_pass_66 : decode cX2_pass 66 = .ok (.isub, 1) := by decide +kernel
theorem dX2_pass_67 : decode cX2_pass 67 = .ok (.putfield 18, 3) := by decide +kernel
theorem dX2_pass_70 : decode cX2_pass 70 = .ok (.iconst 1, 1) := by decide +kernel
theorem dX2_pass_71 : decode cX2_pass 71 = .ok (.ireturn, 1) := by decide +kernel
theorem dX2_pass_72 : decode cX2_pass 72 = .ok (.iload_n 3, 1) := by decide +kernel
theorem dX2_pass_73 : decode cX2_pass 73 = .ok (.iconst 2, 1) := by decide +kernel
theorem dX2_pass_74 : decode cX2_pass 74 = .ok (.if_icmp .ne 20, 3) := by decide +kernel
theorem dX2_pass_77 : decode cX2_pass 77 = .ok (.aload_n 0, 1) := by decide +kernel
theorem dX2_pass_78 : decode cX2_pass 78 = .ok (.getfield 18, 3) := by decide +kernel
theorem dX2_pass_81 : decode cX2_pass 81 = .ok (.ifCond .le 13, 3) := by decide +kernel
theorem dX2_pass_84 : decode cX2_pass 84 = .ok (.iconst 2, 1) := by decide +kernel
theorem dX2_pass_85 : decode cX2_pass 85 = .ok (.iload_n 1, 1) := by decide +kernel
theorem dX2_pass_86 : decode cX2_pass 86 = .ok (.imul, 1) := by decide +kernel
theorem dX2_pass_87 : decode cX2_pass 87 = .ok (.iload 4, 2) := by decide +kernel
theorem dX2_pass_89 : decode cX2_pass 89 = .ok (.if_icmp .gt 5, 3) := by decide +kernel
theorem dX2_pass_92 : decode cX2_pass 92 = .ok (.iconst 0, 1) := by decide +kernel
theorem dX2_pass_93 : decode cX2_pass 93 = .ok (.ireturn, 1) := by decide +kernel
theorem dX2_pass_94 : decode cX2_pass 94 = .ok (.aload_n 0, 1) := by decide +kernel
theorem dX2_pass_95 : decode cX2_pass 95 = .ok (.getfield 18, 3) := by decide +kernel
theorem dX2_pass_98 : decode cX2_pass 98 = .ok (.istore 6, 2) := by decide +kernel
theorem dX2_pass_100 : decode cX2_pass 100 = .ok (.aload_n 0, 1) := by decide +kernel
theorem dX2_pass_101 : decode cX2_pass 101 = .ok (.getfield 18, 3) := by decide +kernel
theorem dX2_pass_104 : decode cX2_pass 104 = .ok (.ifCond .le 31, 3) := by decide +kernel
theorem dX2_pass_107 : decode cX2_pass 107 = .ok (.aload_n 0, 1) := by decide +kernel
theorem dX2_pass_108 : decode cX2_pass 108 = .ok (.getfield 9, 3) := by decide +kernel
theorem dX2_pass_111 : decode cX2_pass 111 = .ok (.aload_n 0, 1) := by decide +kernel
theorem dX2_pass_112 : decode cX2_pass 112 = .ok (.getfield 18, 3) := by decide +kernel
theorem dX2_pass_115 : decode cX2_pass 115 = .ok (.iconst 1, 1) := by decide +kernel
theorem dX2_pass_116 : decode cX2_pass 116 = .ok (.isub, 1) := by decide +kernel
theorem dX2_pass_117 : decode cX2_pass 117 = .ok (.iaload, 1) := by decide +kernel
theorem dX2_pass_118 : decode cX2_pass 118 = .ok (.iload_n 1, 1) := by decide +kernel
theorem dX2_pass_119 : decode cX2_pass 119 = .ok (.if_icmp .gt 16, 3) := by decide +kernel
theorem dX2_pass_122 : decode cX2_pass 122 = .ok (.aload_n 0, 1) := by decide +kernel
theorem dX2_pass_123 : decode cX2_pass 123 = .ok (.dup, 1) := by decide +kernel
theorem dX2_pass_124 : decode cX2_pass 124 = .ok (.getfield 18, 3) := by decide +kernel
theorem dX2_pass_127 : decode cX2_pass 127 = .ok (.iconst 1, 1) := by decide +kernel
theorem dX2_pass_128 : decode cX2_pass 128 = .ok (.isub, 1) := by decide +kernel
theorem dX2_pass_129 : decode cX2_pass 129 = .ok (.putfield 18, 3) := by decide +kernel
theorem dX2_pass_132 : decode cX2_pass 132 = .ok (.goto (-32), 3) := by decide +kernel
theorem dX2_pass_135 : decode cX2_pass 135 = .ok (.iload 6, 2) := by decide +kernel
theorem dX2_pass_137 : decode cX2_pass 137 = .ok (.aload_n 0, 1) := by decide +kernel
theorem dX2_pass_138 : decode cX2_pass 138 = .ok (.getfield 18, 3) := by decide +kernel
theorem dX2_pass_141 : decode cX2_pass 141 = .ok (.isub, 1) := by decide +kernel
theorem dX2_pass_142 : decode cX2_pass 142 = .ok (.istore 7, 2) := by decide +kernel
theorem dX2_pass_144 : decode cX2_pass 144 = .ok (.aload_n 0, 1) := by decide +kernel
theorem dX2_pass_145 : decode cX2_pass 145 = .ok (.getfield 18, 3) := by decide +kernel
theorem dX2_pass_148 : decode cX2_pass 148 = .ok (.bipush 8, 2) := by decide +kernel
theorem dX2_pass_150 : decode cX2_pass 150 = .ok (.if_icmp .ge 33, 3) := by decide +kernel
theorem dX2_pass_153 : decode cX2_pass 153 = .ok (.aload_n 0, 1) := by decide +kernel
theorem dX2_pass_154 : decode cX2_pass 154 = .ok (.getfield 9, 3) := by decide +kernel
theorem dX2_pass_157 : decode cX2_pass 157 = .ok (.aload_n 0, 1) := by decide +kernel
theorem dX2_pass_158 : decode cX2_pass 158 = .ok (.getfield 18, 3) := by decide +kernel
theorem dX2_pass_161 : decode cX2_pass 161 = .ok (.iload_n 1, 1) := by decide +kernel
theorem dX2_pass_162 : decode cX2_pass 162 = .ok (.iastore, 1) := by decide +kernel
theorem dX2_pass_163 : decode cX2_pass 163 = .ok (.aload_n 0, 1) := by decide +kernel
theorem dX2_pass_164 : decode cX2_pass 164 = .ok (.getfield 15, 3) := by decide +kernel
theorem dX2_pass_167 : decode cX2_pass 167 = .ok (.aload_n 0, 1) := by decide +kernel
theorem dX2_pass_168 : decode cX2_pass 168 = .ok (.getfield 18, 3) := by decide +kernel
theorem dX2_pass_171 : decode cX2_pass 171 = .ok (.iload_n 2, 1) := by decide +kernel
theorem dX2_pass_172 : decode cX2_pass 172 = .ok (.iastore, 1) := by decide +kernel
theorem dX2_pass_173 : decode cX2_pass 173 = .ok (.aload_n 0, 1) := by decide +kernel
theorem dX2_pass_174 : decode cX2_pass 174 = .ok (.dup, 1) := by decide +kernel
theorem dX2_pass_175 : decode cX2_pass 175 = .ok (.getfield 18, 3) := by decide +kernel
theorem dX2_pass_178 : decode cX2_pass 178 = .ok (.iconst 1, 1) := by decide +kernel
theorem dX2_pass_179 : decode cX2_pass 179 = .ok (.iadd, 1) := by decide +kernel
theorem dX2_pass_180 : decode cX2_pass 180 = .ok (.putfield 18, 3) := by decide +kernel
theorem dX2_pass_183 : decode cX2_pass 183 = .ok (.iload 7, 2) := by decide +kernel
theorem dX2_pass_185 : decode cX2_pass 185 = .ok (.ireturn, 1) := by decide +kernel
theorem dX2_take_0 : decode cX2_take 0 = .ok (.aload_n 0, 1) := by decide +kernel
theorem dX2_take_1 : decode cX2_take 1 = .ok (.aload_n 1, 1) := by decide +kernel
theorem dX2_take_2 : decode cX2_take 2 = .ok (.getfield 18, 3) := by decide +kernel
theorem dX2_take_5 : decode cX2_take 5 = .ok (.putfield 18, 3) := by decide +kernel
theorem dX2_take_8 : decode cX2_take 8 = .ok (.iconst 0, 1) := by decide +kernel
theorem dX2_take_9 : decode cX2_take 9 = .ok (.istore_n 2, 1) := by decide +kernel
theorem dX2_take_10 : decode cX2_take 10 = .ok (.iload_n 2, 1) := by decide +kernel
theorem dX2_take_11 : decode cX2_take 11 = .ok (.aload_n 0, 1) := by decide +kernel
theorem dX2_take_12 : decode cX2_take 12 = .ok (.getfield 18, 3) := by decide +kernel
theorem dX2_take_15 : decode cX2_take 15 = .ok (.if_icmp .ge 33, 3) := by decide +kernel
theorem dX2_take_18 : decode cX2_take 18 = .ok (.aload_n 0, 1) := by decide +kernel
theorem dX2_take_19 : decode cX2_take 19 = .ok (.getfield 9, 3) := by decide +kernel
theorem dX2_take_22 : decode cX2_take 22 = .ok (.iload_n 2, 1) := by decide +kernel
theorem dX2_take_23 : decode cX2_take 23 = .ok (.aload_n 1, 1) := by decide +kernel
theorem dX2_take_24 : decode cX2_take 24 = .ok (.getfield 9, 3) := by decide +kernel
theorem dX2_take_27 : decode cX2_take 27 = .ok (.iload_n 2, 1) := by decide +kernel
theorem dX2_take_28 : decode cX2_take 28 = .ok (.iaload, 1) := by decide +kernel
theorem dX2_take_29 : decode cX2_take 29 = .ok (.iastore, 1) := by decide +kernel
theorem dX2_take_30 : decode cX2_take 30 = .ok (.aload_n 0, 1) := by decide +kernel
theorem dX2_take_31 : decode cX2_take 31 = .ok (.getfield 15, 3) := by decide +kernel
theorem dX2_take_34 : decode cX2_take 34 = .ok (.iload_n 2, 1) := by decide +kernel
theorem dX2_take_35 : decode cX2_take 35 = .ok (.aload_n 1, 1) := by decide +kernel
theorem dX2_take_36 : decode cX2_take 36 = .ok (.getfield 15, 3) := by decide +kernel
theorem dX2_take_39 : decode cX2_take 39 = .ok (.iload_n 2, 1) := by decide +kernel
theorem dX2_take_40 : decode cX2_take 40 = .ok (.iaload, 1) := by decide +kernel
theorem dX2_take_41 : decode cX2_take 41 = .ok (.iastore, 1) := by decide +kernel
theorem dX2_take_42 : decode cX2_take 42 = .ok (.iinc 2 1, 3) := by decide +kernel
theorem dX2_take_45 : decode cX2_take 45 = .ok (.goto (-35), 3) := by decide +kernel
theorem dX2_take_48 : decode cX2_take 48 = .ok (.return_, 1) := by decide +kernel
