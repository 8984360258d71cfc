theorem dX7_chill_0 : decode cX7_chill 0 = .ok (.iconst 0, 1) := by decide +kernel
theorem dX7_chill_1 : decode cX7_chill 1 = .ok (.istore_n 2, 1) := by decide +kernel
theorem dX7_chill_2 : decode cX7_chill 2 = .ok (.iload_n 2, 1) := by decide +kernel
theorem dX7_chill_3 : decode cX7_chill 3 = .ok (.iconst 3, 1) := by decide +kernel
theorem dX7_chill_4 : decode cX7_chill 4 = .ok (.if_icmp .ge 19, 3) := by decide +kernel
theorem dX7_chill_7 : decode cX7_chill 7 = .ok (.aload_n 0, 1) := by decide +kernel
theorem dX7_chill_8 : decode cX7_chill 8 = .ok (.getfield 11, 3) := by decide +kernel
theorem dX7_chill_11 : decode cX7_chill 11 = .ok (.iload_n 2, 1) := by decide +kernel
theorem dX7_chill_12 : decode cX7_chill 12 = .ok (.aaload, 1) := by decide +kernel
theorem dX7_chill_13 : decode cX7_chill 13 = .ok (.iload_n 1, 1) := by decide +kernel
theorem dX7_chill_14 : decode cX7_chill 14 = .ok (.invokevirtual 35, 3) := by decide +kernel
theorem dX7_chill_17 : decode cX7_chill 17 = .ok (.iinc 2 1, 3) := by decide +kernel
theorem dX7_chill_20 : decode cX7_chill 20 = .ok (.goto (-18), 3) := by decide +kernel
theorem dX7_chill_23 : decode cX7_chill 23 = .ok (.return_, 1) := by decide +kernel
theorem dX7_isBroken_0 : decode cX7_isBroken 0 = .ok (.aload_n 0, 1) := by decide +kernel
theorem dX7_isBroken_1 : decode cX7_isBroken 1 = .ok (.getfield 29, 3) := by decide +kernel
theorem dX7_isBroken_4 : decode cX7_isBroken 4 = .ok (.iload_n 1, 1) := by decide +kernel
theorem dX7_isBroken_5 : decode cX7_isBroken 5 = .ok (.ishr, 1) := by decide +kernel
theorem dX7_isBroken_6 : decode cX7_isBroken 6 = .ok (.iconst 1, 1) := by decide +kernel
theorem dX7_isBroken_7 : decode cX7_isBroken 7 = .ok (.iand, 1) := by decide +kernel
theorem dX7_isBroken_8 : decode cX7_isBroken 8 = .ok (.ifCond .eq 7, 3) := by decide +kernel
theorem dX7_isBroken_11 : decode cX7_isBroken 11 = .ok (.iconst 1, 1) := by decide +kernel
theorem dX7_isBroken_12 : decode cX7_isBroken 12 = .ok (.goto 4, 3) := by decide +kernel
theorem dX7_isBroken_15 : decode cX7_isBroken 15 = .ok (.iconst 0, 1) := by decide +kernel
theorem dX7_isBroken_16 : decode cX7_isBroken 16 = .ok (.ireturn, 1) := by decide +kernel
theorem dX7_loss_0 : decode cX7_loss 0 = .ok (.aload_n 0, 1) := by decide +kernel
theorem dX7_loss_1 : decode cX7_loss 1 = .ok (.getfield 21, 3) := by decide +kernel
theorem dX7_loss_4 : decode cX7_loss 4 = .ok (.iconst (-1), 1) := by decide +kernel
theorem dX7_loss_5 : decode cX7_loss 5 = .ok (.if_icmp .ne 8, 3) := by decide +kernel
theorem dX7_loss_8 : decode cX7_loss 8 = .ok (.bipush 9, 2) := by decide +kernel
theorem dX7_loss_10 : decode cX7_loss 10 = .ok (.goto 7, 3) := by decide +kernel
theorem dX7_loss_13 : decode cX7_loss 13 = .ok (.aload_n 0, 1) := by decide +kernel
theorem dX7_loss_14 : decode cX7_loss 14 = .ok (.getfield 51, 3) := by decide +kernel
theorem dX7_loss_17 : decode cX7_loss 17 = .ok (.ireturn, 1) := by decide +kernel
theorem dX7_meet_0 : decode cX7_meet 0 = .ok (.aload_n 0, 1) := by decide +kernel
theorem dX7_meet_1 : decode cX7_meet 1 = .ok (.iload_n 3, 1) := by decide +kernel
theorem dX7_meet_2 : decode cX7_meet 2 = .ok (.iconst (-1), 1) := by decide +kernel
theorem dX7_meet_3 : decode cX7_meet 3 = .ok (.if_icmp .ne 7, 3) := by decide +kernel
theorem dX7_meet_6 : decode cX7_meet 6 = .ok (.iconst (-1), 1) := by decide +kernel
theorem dX7_meet_7 : decode cX7_meet 7 = .ok (.goto 10, 3) := by decide +kernel
theorem dX7_meet_10 : decode cX7_meet 10 = .ok (.aload_n 1, 1) := by decide +kernel
theorem dX7_meet_11 : decode cX7_meet 11 = .ok (.iload_n 3, 1) := by decide +kernel
theorem dX7_meet_12 : decode cX7_meet 12 = .ok (.iload 4, 2) := by decide +kernel
theorem dX7_meet_14 : decode cX7_meet 14 = .ok (.invokevirtual 39, 3) := by decide +kernel
theorem dX7_meet_17 : decode cX7_meet 17 = .ok (.putfield 17, 3) := by decide +kernel
theorem dX7_meet_20 : decode cX7_meet 20 = .ok (.aload_n 0, 1) := by decide +kernel
theorem dX7_meet_21 : decode cX7_meet 21 = .ok (.iconst (-1), 1) := by decide +kernel
theorem dX7_meet_22 : decode cX7_meet 22 = .ok (.putfield 21, 3) := by decide +kernel
theorem dX7_meet_25 : decode cX7_meet 25 = .ok (.aload_n 0, 1) := by decide +kernel
theorem dX7_meet_26 : decode cX7_meet 26 = .ok (.iconst 0, 1) := by decide +kernel
theorem dX7_meet_27 : decode cX7_meet 27 = .ok (.putfield 45, 3) := by decide +kernel
theorem dX7_meet_30 : decode cX7_meet 30 = .ok (.aload_n 0, 1) := by decide +kernel
theorem dX7_meet_31 : decode cX7_meet 31 = .ok (.iconst 0, 1) := by decide +kernel
theorem dX7_meet_32 : decode cX7_meet 32 = .ok (.putfield 48, 3) := by decide +kernel
theorem dX7_meet_35 : decode cX7_meet 35 = .ok (.aload_n 0, 1) := by decide +kernel
theorem dX7_meet_36 : decode cX7_meet 36 = .ok (.iconst 0, 1) := by decide +kernel
theorem dX7_meet_37 : decode cX7_meet 37 = .ok (.putfield 51, 3) := by decide +kernel
theorem dX7_meet_40 : decode cX7_meet 40 = .ok (.aload_n 0, 1) := by decide +kernel
theorem dX7_meet_41 : decode cX7_meet 41 = .ok (.iconst 0, 1) := by decide +kernel
theorem dX7_meet_42 : decode cX7_meet 42 = .ok (.putfield 54, 3) := by decide +kernel
theorem dX7_meet_45 : decode cX7_meet 45 = .ok (.aload_n 1, 1) := by decide +kernel
theorem dX7_meet_46 : decode cX7_meet 46 = .ok (.aload_n 0, 1) := by decide +kernel
theorem dX7_meet_47 : decode cX7_meet 47 = .ok (.getfield 17, 3) := by decide +kernel
theorem dX7_meet_50 : decode cX7_meet 50 = .ok (.invokevirtual 57, 3) := by decide +kernel
theorem dX7_meet_53 : decode cX7_meet 53 = .ok (.ifCond .eq 14, 3) := by decide +kernel
theorem dX7_meet_56 : decode cX7_meet 56 = .ok (.aload_n 0, 1) := by decide +kernel
theorem dX7_meet_57 : decode cX7_meet 57 = .ok (.aload_n 0, 1) := by decide +kernel
theorem dX7_meet_58 : decode cX7_meet 58 = .ok (.getfield 17, 3) := by decide +kernel
theorem dX7_meet_61 : decode cX7_meet 61 = .ok (.invokevirtual 61, 3) := by decide +kernel
theorem dX7_meet_64 : decode cX7_meet 64 = .ok (.ifCond .eq 4, 3) := by decide +kernel
theorem dX7_meet_67 : decode cX7_meet 67 = .ok (.return_, 1) := by decide +kernel
theorem dX7_meet_68 : decode cX7_meet 68 = .ok (.aload_n 0, 1) := by decide +kernel
theorem dX7_meet_69 : decode cX7_meet 69 = .ok (.getfield 11, 3) := by decide +kernel
theorem dX7_meet_72 : decode cX7_meet 72 = .ok (.aload_n 0, 1) := by decide +kernel
theorem dX7_meet_73 : decode cX7_meet 73 = .ok (.getfield 17, 3) := by decide +kernel
theorem dX7_meet_76 : decode cX7_meet 76 = .ok (.aaload, 1) := by decide +kernel
theorem dX7_meet_77 : decode cX7_meet 77 = .ok (.astore 6, 2) := by decide +kernel
theorem dX7_meet_79 : decode cX7_meet 79 = .ok (.aload 6, 2) := by decide +kernel
theorem dX7_meet_81 : decode cX7_meet 81 = .ok (.invokevirtual 64, 3) := by decide +kernel
theorem dX7_meet_84 : decode cX7_meet 84 = .ok (.istore 7, 2) := by decide +kernel
theorem dX7_meet_86 : decode cX7_meet 86 = .ok (.aload_n 0, 1) := by decide +kernel
theorem dX7_meet_87 : decode cX7_meet 87 = .ok (.iconst 0, 1) := by decide +kernel
theorem dX7_meet_88 : decode cX7_meet 88 = .ok (.iload 4, 2) := by decide +kernel
theorem dX7_meet_90 : decode cX7_meet 90 = .ok (.iconst 0, 1) := by decide +kernel
theorem dX7_meet_91 : decode cX7_meet 91 = .ok (.aload 6, 2) := by decide +kernel
theorem dX7_meet_93 : decode cX7_meet 93 = .ok (.aload 6, 2) := by decide +kernel
theorem dX7_meet_95 : decode cX7_meet 95 = .ok (.getfield 68, 3) := by decide +kernel
theorem dX7_meet_98 : decode cX7_meet 98 = .ok (.iconst 1, 1) := by decide +kernel
theorem dX7_meet_99 : decode cX7_meet 99 = .ok (.isub, 1) := by decide +kernel
theorem dX7_meet_100 : decode cX7_meet 100 = .ok (.invokevirtual 71, 3) := by decide +kernel
theorem dX7_meet_103 : decode cX7_meet 103 = .ok (.invokestatic 75, 3) := by decide +kernel
theorem dX7_meet_106 : decode cX7_meet 106 = .ok (.isub, 1) := by decide +kernel
theorem dX7_meet_107 : decode cX7_meet 107 = .ok (.invokestatic 75, 3) := by decide +kernel
theorem dX7_meet_110 : decode cX7_meet 110 = .ok (.putfield 48, 3) := by decide +kernel
theorem dX7_meet_113 : decode cX7_meet 113 = .ok (.aload_n 0, 1) := by decide +kernel
theorem dX7_meet_114 : decode cX7_meet 114 = .ok (.aload 6, 2) := by decide +kernel
theorem dX7_meet_116 : decode cX7_meet 116 = .ok (.iload 4, 2) := by decide +kernel
theorem dX7_meet_118 : decode cX7_meet 118 = .ok (.iload_n 2, 1) := by decide +kernel
theorem dX7_meet_119 : decode cX7_meet 119 = .ok (.iload 5, 2) := by decide +kernel
theorem dX7_meet_121 : decode cX7_meet 121 = .ok (.invokevirtual 80, 3) := by decide +kernel
theorem dX7_meet_124 : decode cX7_meet 124 = .ok (.putfield 54, 3) := by decide +kernel
theorem dX7_meet_127 : decode cX7_meet 127 = .ok (.aload 6, 2) := by decide +kernel
theorem dX7_meet_129 : decode cX7_meet 129 = .ok (.invokevirtual 64, 3) := by decide +kernel
theorem dX7_meet_132 : decode cX7_meet 132 = .ok (.istore 8, 2) := by decide +kernel
theorem dX7_meet_134 : decode cX7_meet 134 = .ok (.aload_n 0, 1) := by decide +kernel
theorem dX7_meet_135 : decode cX7_meet 135 = .ok (.aload_n 0, 1) := by decide +kernel
theorem dX7_meet_136 : decode cX7_meet 136 = .ok (.getfield 17, 3) := by decide +kernel
theorem dX7_meet_139 : decode cX7_meet 139 = .ok (.putfield 21, 3) := by decide +kernel
theorem dX7_meet_142 : decode cX7_meet 142 = .ok (.aload_n 0, 1) := by decide +kernel
theorem dX7_meet_143 : decode cX7_meet 143 = .ok (.iload 8, 2) := by decide +kernel
theorem dX7_meet_145 : decode cX7_meet 145 = .ok (.iload 7, 2) := by decide +kernel
theorem dX7_meet_147 : decode cX7_meet 147 = .ok (.isub, 1) := by decide +kernel
theorem dX7_meet_148 : decode cX7_meet 148 = .ok (.putfield 45, 3) := by decide +kernel
theorem dX7_meet_151 : decode cX7_meet 151 = .ok (.aload_n 0, 1) := by decide +kernel
theorem dX7_meet_152 : decode cX7_meet 152 = .ok (.aload_n 1, 1) := by decide +kernel
theorem dX7_meet_153 : decode cX7_meet 153 = .ok (.getfield 84, 3) := by decide +kernel
theorem dX7_meet_156 : decode cX7_meet 156 = .ok (.aload_n 0, 1) := by decide +kernel
theorem dX7_meet_157 : decode cX7_meet 157 = .ok (.getfield 17, 3) := by decide +kernel
theorem dX7_meet_160 : decode cX7_meet 160 = .ok (.iaload, 1) := by decide +kernel
theorem dX7_meet_161 : decode cX7_meet 161 = .ok (.iconst 0, 1) := by decide +kernel
theorem dX7_meet_162 : decode cX7_meet 162 = .ok (.aload_n 0, 1) := by decide +kernel
theorem dX7_meet_163 : decode cX7_meet 163 = .ok (.getfield 45, 3) := by decide +kernel
theorem dX7_meet_166 : decode cX7_meet 166 = .ok (.invokestatic 75, 3) := by decide +kernel
theorem dX7_meet_169 : decode cX7_meet 169 = .ok (.imul, 1) := by decide +kernel
theorem dX7_meet_170 : decode cX7_meet 170 = .ok (.putfield 51, 3) := by decide +kernel
theorem dX7_meet_173 : decode cX7_meet 173 = .ok (.aload_n 0, 1) := by decide +kernel
theorem dX7_meet_174 : decode cX7_meet 174 = .ok (.dup, 1) := by decide +kernel
theorem dX7_meet_175 : decode cX7_meet 175 = .ok (.getfield 32, 3) := by decide +kernel
theorem dX7_meet_178 : decode cX7_meet 178 = .ok (.iconst 1, 1) := by decide +kernel
theorem dX7_meet_179 : decode cX7_meet 179 = .ok (.iload_n 2, 1) := by decide +kernel
theorem dX7_meet_180 : decode cX7_meet 180 = .ok (.ishl, 1) := by decide +kernel
theorem dX7_meet_181 : decode cX7_meet 181 = .ok (.ior, 1) := by decide +kernel
theorem dX7_meet_182 : decode cX7_meet 182 = .ok (.putfield 32, 3) := by decide +kernel
theorem dX7_meet_185 : decode cX7_meet 185 = .ok (.iload 8, 2) := by decide +kernel
theorem dX7_meet_187 : decode cX7_meet 187 = .ok (.aload_n 1, 1) := by decide +kernel
theorem dX7_meet_188 : decode cX7_meet 188 = .ok (.getfield 88, 3) := by decide +kernel
theorem dX7_meet_191 : decode cX7_meet 191 = .ok (.aload_n 0, 1) := by decide +kernel
theorem dX7_meet_192 : decode cX7_meet 192 = .ok (.getfield 17, 3) := by decide +kernel
theorem dX7_meet_195 : decode cX7_meet 195 = .ok (.iaload, 1) := by decide +kernel
theorem dX7_meet_196 : decode cX7_meet 196 = .ok (.if_icmp .le 18, 3) := by decide +kernel
theorem dX7_meet_199 : decode cX7_meet 199 = .ok (.aload_n 0, 1) := by decide +kernel
theorem dX7_meet_200 : decode cX7_meet 200 = .ok (.dup, 1) := by decide +kernel
theorem dX7_meet_201 : decode cX7_meet 201 = .ok (.getfield 29, 3) := by decide +kernel
theorem dX7_meet_204 : decode cX7_meet 204 = .ok (.iconst 1, 1) := by decide +kernel
theorem dX7_meet_205 : decode cX7_meet 205 = .ok (.aload_n 0, 1) := by decide +kernel
theorem dX7_meet_206 : decode cX7_meet 206 = .ok (.getfield 17, 3) := by decide +kernel
theorem dX7_meet_209 : decode cX7_meet 209 = .ok (.ishl, 1) := by decide +kernel
theorem dX7_meet_210 : decode cX7_meet 210 = .ok (.ior, 1) := by decide +kernel
theorem dX7_meet_211 : decode cX7_meet 211 = .ok (.putfield 29, 3) := by decide +kernel
theorem dX7_meet_214 : decode cX7_meet 214 = .ok (.return_, 1) := by decide +kernel
theorem dX7_take_0 : decode cX7_take 0 = .ok (.iconst 0, 1) := by decide +kernel
theorem dX7_take_1 : decode cX7_take 1 = .ok (.istore_n 2, 1) := by decide +kernel
theorem dX7_take_2 : decode cX7_take 2 = .ok (.iload_n 2, 1) := by decide +kernel
theorem dX7_take_3 : decode cX7_take 3 = .ok (.iconst 3, 1) := by decide +kernel
theorem dX7_take_4 : decode cX7_take 4 = .ok (.if_icmp .ge 24, 3) := by decide +kernel
theorem dX7_take_7 : decode cX7_take 7 = .ok (.aload_n 0, 1) := by decide +kernel
theorem dX7_take_8 : decode cX7_take 8 = .ok (.getfield 11, 3) := by decide +kernel
theorem dX7_take_11 : decode cX7_take 11 = .ok (.iload_n 2, 1) := by decide +kernel
theorem dX7_take_12 : decode cX7_take 12 = .ok (.aaload, 1) := by decide +kernel
theorem dX7_take_13 : decode cX7_take 13 = .ok (.aload_n 1, 1) := by decide +kernel
theorem dX7_take_14 : decode cX7_take 14 = .ok (.getfield 11, 3) := by decide +kernel
theorem dX7_take_17 : decode cX7_take 17 = .ok (.iload_n 2, 1) := by decide +kernel
theorem dX7_take_18 : decode cX7_take 18 = .ok (.aaload, 1) := by decide +kernel
theorem dX7_take_19 : decode cX7_take 19 = .ok (.invokevirtual 25, 3) := by decide +kernel
theorem dX7_take_22 : decode cX7_take 22 = .ok (.iinc 2 1, 3) := by decide +kernel
theorem dX7_take_25 : decode cX7_take 25 = .ok (.goto (-23), 3) := by decide +kernel
theorem dX7_take_28 : decode cX7_take 28 = .ok (.aload_n 0, 1) := by decide +kernel
theorem dX7_take_29 : decode cX7_take 29 = .ok (.aload_n 1, 1) := by decide +kernel
theorem dX7_take_30 : decode cX7_take 30 = .ok (.getfield 29, 3) := by decide +kernel
theorem dX7_take_33 : decode cX7_take 33 = .ok (.putfield 29, 3) := by decide +kernel
theorem dX7_take_36 : decode cX7_take 36 = .ok (.aload_n 0, 1) := by decide +kernel
theorem dX7_take_37 : decode cX7_take 37 = .ok (.aload_n 1, 1) := by decide +kernel
theorem dX7_take_38 : decode cX7_take 38 = .ok (.getfield 32, 3) := by decide +kernel
theorem dX7_take_41 : decode cX7_take 41 = .ok (.putfield 32, 3) := by decide +kernel
theorem dX7_take_44 : decode cX7_take 44 = .ok (.return_, 1) := by decide +kernel
theorem dX7_together_0 : decode cX7_together 0 = .ok (.iconst 0, 1) := by decide +kernel
theorem dX7_together_1 : decode cX7_together 1 = .ok (.istore_n 1, 1) := by decide +kernel
theorem dX7_together_2 : decode cX7_together 2 = .ok (.iconst 0, 1) := by decide +kernel
theorem dX7_together_3 : decode cX7_together 3 = .ok (.istore_n 2, 1) := by decide +kernel
theorem dX7_together_4 : decode cX7_together 4 = .ok (.iload_n 2, 1) := by decide +kernel
theorem dX7_together_5 : decode cX7_together 5 = .ok (.iconst 3, 1) := by decide +kernel
theorem dX7_together_6 : decode cX7_together 6 = .ok (.if_icmp .ge 21, 3) := by decide +kernel
theorem dX7_together_9 : decode cX7_together 9 = .ok (.iload_n 1, 1) := by decide +kernel
theorem dX7_together_10 : decode cX7_together 10 = .ok (.aload_n 0, 1) := by decide +kernel
theorem dX7_together_11 : decode cX7_together 11 = .ok (.getfield 11, 3) := by decide +kernel
theorem dX7_together_14 : decode cX7_together 14 = .ok (.iload_n 2, 1) := by decide +kernel
theorem dX7_together_15 : decode cX7_together 15 = .ok (.aaload, 1) := by decide +kernel
theorem dX7_together_16 : decode cX7_together 16 = .ok (.invokevirtual 64, 3) := by decide +kernel
theorem dX7_together_19 : decode cX7_together 19 = .ok (.iadd, 1) := by decide +kernel
theorem dX7_together_20 : decode cX7_together 20 = .ok (.istore_n 1, 1) := by decide +kernel
theorem dX7_together_21 : decode cX7_together 21 = .ok (.iinc 2 1, 3) := by decide +kernel
theorem dX7_together_24 : decode cX7_together 24 = .ok (.goto (-20), 3) := by decide +kernel
theorem dX7_together_27 : decode cX7_together 27 = .ok (.iload_n 1, 1) := by decide +kernel
theorem dX7_together_28 : decode cX7_together 28 = .ok (.ireturn, 1) := by decide +kernel
