theorem dX12_begin_0 : decode cX12_begin 0 = .ok (.iconst 0, 1) := by decide +kernel
theorem dX12_begin_1 : decode cX12_begin 1 = .ok (.istore_n 1, 1) := by decide +kernel
theorem dX12_begin_2 : decode cX12_begin 2 = .ok (.iload_n 1, 1) := by decide +kernel
theorem dX12_begin_3 : decode cX12_begin 3 = .ok (.iconst 3, 1) := by decide +kernel
theorem dX12_begin_4 : decode cX12_begin 4 = .ok (.if_icmp .ge 31, 3) := by decide +kernel
theorem dX12_begin_7 : decode cX12_begin 7 = .ok (.aload_n 0, 1) := by decide +kernel
theorem dX12_begin_8 : decode cX12_begin 8 = .ok (.getfield 71, 3) := by decide +kernel
theorem dX12_begin_11 : decode cX12_begin 11 = .ok (.iload_n 1, 1) := by decide +kernel
theorem dX12_begin_12 : decode cX12_begin 12 = .ok (.iconst 0, 1) := by decide +kernel
theorem dX12_begin_13 : decode cX12_begin 13 = .ok (.iastore, 1) := by decide +kernel
theorem dX12_begin_14 : decode cX12_begin 14 = .ok (.aload_n 0, 1) := by decide +kernel
theorem dX12_begin_15 : decode cX12_begin 15 = .ok (.getfield 74, 3) := by decide +kernel
theorem dX12_begin_18 : decode cX12_begin 18 = .ok (.iload_n 1, 1) := by decide +kernel
theorem dX12_begin_19 : decode cX12_begin 19 = .ok (.iconst (-1), 1) := by decide +kernel
theorem dX12_begin_20 : decode cX12_begin 20 = .ok (.iastore, 1) := by decide +kernel
theorem dX12_begin_21 : decode cX12_begin 21 = .ok (.aload_n 0, 1) := by decide +kernel
theorem dX12_begin_22 : decode cX12_begin 22 = .ok (.getfield 77, 3) := by decide +kernel
theorem dX12_begin_25 : decode cX12_begin 25 = .ok (.iload_n 1, 1) := by decide +kernel
theorem dX12_begin_26 : decode cX12_begin 26 = .ok (.ldc 166, 2) := by decide +kernel
theorem dX12_begin_28 : decode cX12_begin 28 = .ok (.iastore, 1) := by decide +kernel
theorem dX12_begin_29 : decode cX12_begin 29 = .ok (.iinc 1 1, 3) := by decide +kernel
theorem dX12_begin_32 : decode cX12_begin 32 = .ok (.goto (-30), 3) := by decide +kernel
theorem dX12_begin_35 : decode cX12_begin 35 = .ok (.return_, 1) := by decide +kernel
theorem dX12_crosses_0 : decode cX12_crosses 0 = .ok (.aload_n 0, 1) := by decide +kernel
theorem dX12_crosses_1 : decode cX12_crosses 1 = .ok (.iload_n 1, 1) := by decide +kernel
theorem dX12_crosses_2 : decode cX12_crosses 2 = .ok (.invokevirtual 304, 3) := by decide +kernel
theorem dX12_crosses_5 : decode cX12_crosses 5 = .ok (.istore 4, 2) := by decide +kernel
theorem dX12_crosses_7 : decode cX12_crosses 7 = .ok (.aload_n 0, 1) := by decide +kernel
theorem dX12_crosses_8 : decode cX12_crosses 8 = .ok (.getfield 295, 3) := by decide +kernel
theorem dX12_crosses_11 : decode cX12_crosses 11 = .ok (.iconst 1, 1) := by decide +kernel
theorem dX12_crosses_12 : decode cX12_crosses 12 = .ok (.if_icmp .eq 18, 3) := by decide +kernel
theorem dX12_crosses_15 : decode cX12_crosses 15 = .ok (.aload_n 0, 1) := by decide +kernel
theorem dX12_crosses_16 : decode cX12_crosses 16 = .ok (.getfield 295, 3) := by decide +kernel
theorem dX12_crosses_19 : decode cX12_crosses 19 = .ok (.iconst 3, 1) := by decide +kernel
theorem dX12_crosses_20 : decode cX12_crosses 20 = .ok (.if_icmp .ne 14, 3) := by decide +kernel
theorem dX12_crosses_23 : decode cX12_crosses 23 = .ok (.iload_n 2, 1) := by decide +kernel
theorem dX12_crosses_24 : decode cX12_crosses 24 = .ok (.iconst 2, 1) := by decide +kernel
theorem dX12_crosses_25 : decode cX12_crosses 25 = .ok (.irem, 1) := by decide +kernel
theorem dX12_crosses_26 : decode cX12_crosses 26 = .ok (.iconst 1, 1) := by decide +kernel
theorem dX12_crosses_27 : decode cX12_crosses 27 = .ok (.if_icmp .ne 7, 3) := by decide +kernel
theorem dX12_crosses_30 : decode cX12_crosses 30 = .ok (.iconst 1, 1) := by decide +kernel
theorem dX12_crosses_31 : decode cX12_crosses 31 = .ok (.goto 4, 3) := by decide +kernel
theorem dX12_crosses_34 : decode cX12_crosses 34 = .ok (.iconst 0, 1) := by decide +kernel
theorem dX12_crosses_35 : decode cX12_crosses 35 = .ok (.istore 5, 2) := by decide +kernel
theorem dX12_crosses_37 : decode cX12_crosses 37 = .ok (.aload_n 0, 1) := by decide +kernel
theorem dX12_crosses_38 : decode cX12_crosses 38 = .ok (.getfield 295, 3) := by decide +kernel
theorem dX12_crosses_41 : decode cX12_crosses 41 = .ok (.iconst 2, 1) := by decide +kernel
theorem dX12_crosses_42 : decode cX12_crosses 42 = .ok (.if_icmp .ne 22, 3) := by decide +kernel
theorem dX12_crosses_45 : decode cX12_crosses 45 = .ok (.aload_n 0, 1) := by decide +kernel
theorem dX12_crosses_46 : decode cX12_crosses 46 = .ok (.getfield 71, 3) := by decide +kernel
theorem dX12_crosses_49 : decode cX12_crosses 49 = .ok (.iload_n 1, 1) := by decide +kernel
theorem dX12_crosses_50 : decode cX12_crosses 50 = .ok (.iaload, 1) := by decide +kernel
theorem dX12_crosses_51 : decode cX12_crosses 51 = .ok (.ifCond .le 13, 3) := by decide +kernel
theorem dX12_crosses_54 : decode cX12_crosses 54 = .ok (.iconst 2, 1) := by decide +kernel
theorem dX12_crosses_55 : decode cX12_crosses 55 = .ok (.iload_n 2, 1) := by decide +kernel
theorem dX12_crosses_56 : decode cX12_crosses 56 = .ok (.imul, 1) := by decide +kernel
theorem dX12_crosses_57 : decode cX12_crosses 57 = .ok (.iload 4, 2) := by decide +kernel
theorem dX12_crosses_59 : decode cX12_crosses 59 = .ok (.if_icmp .gt 5, 3) := by decide +kernel
theorem dX12_crosses_62 : decode cX12_crosses 62 = .ok (.iconst 0, 1) := by decide +kernel
theorem dX12_crosses_63 : decode cX12_crosses 63 = .ok (.ireturn, 1) := by decide +kernel
theorem dX12_crosses_64 : decode cX12_crosses 64 = .ok (.iload 5, 2) := by decide +kernel
theorem dX12_crosses_66 : decode cX12_crosses 66 = .ok (.ifCond .eq 32, 3) := by decide +kernel
theorem dX12_crosses_69 : decode cX12_crosses 69 = .ok (.aload_n 0, 1) := by decide +kernel
theorem dX12_crosses_70 : decode cX12_crosses 70 = .ok (.getfield 71, 3) := by decide +kernel
theorem dX12_crosses_73 : decode cX12_crosses 73 = .ok (.iload_n 1, 1) := by decide +kernel
theorem dX12_crosses_74 : decode cX12_crosses 74 = .ok (.iaload, 1) := by decide +kernel
theorem dX12_crosses_75 : decode cX12_crosses 75 = .ok (.ifCond .le 23, 3) := by decide +kernel
theorem dX12_crosses_78 : decode cX12_crosses 78 = .ok (.iconst 2, 1) := by decide +kernel
theorem dX12_crosses_79 : decode cX12_crosses 79 = .ok (.iload_n 2, 1) := by decide +kernel
theorem dX12_crosses_80 : decode cX12_crosses 80 = .ok (.imul, 1) := by decide +kernel
theorem dX12_crosses_81 : decode cX12_crosses 81 = .ok (.iload 4, 2) := by decide +kernel
theorem dX12_crosses_83 : decode cX12_crosses 83 = .ok (.if_icmp .ge 15, 3) := by decide +kernel
theorem dX12_crosses_86 : decode cX12_crosses 86 = .ok (.aload_n 0, 1) := by decide +kernel
theorem dX12_crosses_87 : decode cX12_crosses 87 = .ok (.getfield 71, 3) := by decide +kernel
theorem dX12_crosses_90 : decode cX12_crosses 90 = .ok (.iload_n 1, 1) := by decide +kernel
theorem dX12_crosses_91 : decode cX12_crosses 91 = .ok (.dup2, 1) := by decide +kernel
theorem dX12_crosses_92 : decode cX12_crosses 92 = .ok (.iaload, 1) := by decide +kernel
theorem dX12_crosses_93 : decode cX12_crosses 93 = .ok (.iconst 1, 1) := by decide +kernel
theorem dX12_crosses_94 : decode cX12_crosses 94 = .ok (.isub, 1) := by decide +kernel
theorem dX12_crosses_95 : decode cX12_crosses 95 = .ok (.iastore, 1) := by decide +kernel
theorem dX12_crosses_96 : decode cX12_crosses 96 = .ok (.iconst 1, 1) := by decide +kernel
theorem dX12_crosses_97 : decode cX12_crosses 97 = .ok (.ireturn, 1) := by decide +kernel
theorem dX12_crosses_98 : decode cX12_crosses 98 = .ok (.iconst 0, 1) := by decide +kernel
theorem dX12_crosses_99 : decode cX12_crosses 99 = .ok (.istore 6, 2) := by decide +kernel
theorem dX12_crosses_101 : decode cX12_crosses 101 = .ok (.aload_n 0, 1) := by decide +kernel
theorem dX12_crosses_102 : decode cX12_crosses 102 = .ok (.getfield 71, 3) := by decide +kernel
theorem dX12_crosses_105 : decode cX12_crosses 105 = .ok (.iload_n 1, 1) := by decide +kernel
theorem dX12_crosses_106 : decode cX12_crosses 106 = .ok (.iaload, 1) := by decide +kernel
theorem dX12_crosses_107 : decode cX12_crosses 107 = .ok (.ifCond .le 28, 3) := by decide +kernel
theorem dX12_crosses_110 : decode cX12_crosses 110 = .ok (.aload_n 0, 1) := by decide +kernel
theorem dX12_crosses_111 : decode cX12_crosses 111 = .ok (.iload_n 1, 1) := by decide +kernel
theorem dX12_crosses_112 : decode cX12_crosses 112 = .ok (.invokevirtual 304, 3) := by decide +kernel
theorem dX12_crosses_115 : decode cX12_crosses 115 = .ok (.iload_n 2, 1) := by decide +kernel
theorem dX12_crosses_116 : decode cX12_crosses 116 = .ok (.if_icmp .gt 19, 3) := by decide +kernel
theorem dX12_crosses_119 : decode cX12_crosses 119 = .ok (.aload_n 0, 1) := by decide +kernel
theorem dX12_crosses_120 : decode cX12_crosses 120 = .ok (.getfield 71, 3) := by decide +kernel
theorem dX12_crosses_123 : decode cX12_crosses 123 = .ok (.iload_n 1, 1) := by decide +kernel
theorem dX12_crosses_124 : decode cX12_crosses 124 = .ok (.dup2, 1) := by decide +kernel
theorem dX12_crosses_125 : decode cX12_crosses 125 = .ok (.iaload, 1) := by decide +kernel
theorem dX12_crosses_126 : decode cX12_crosses 126 = .ok (.iconst 1, 1) := by decide +kernel
theorem dX12_crosses_127 : decode cX12_crosses 127 = .ok (.isub, 1) := by decide +kernel
theorem dX12_crosses_128 : decode cX12_crosses 128 = .ok (.iastore, 1) := by decide +kernel
theorem dX12_crosses_129 : decode cX12_crosses 129 = .ok (.iinc 6 1, 3) := by decide +kernel
theorem dX12_crosses_132 : decode cX12_crosses 132 = .ok (.goto (-31), 3) := by decide +kernel
theorem dX12_crosses_135 : decode cX12_crosses 135 = .ok (.aload_n 0, 1) := by decide +kernel
theorem dX12_crosses_136 : decode cX12_crosses 136 = .ok (.getfield 65, 3) := by decide +kernel
theorem dX12_crosses_139 : decode cX12_crosses 139 = .ok (.bipush 8, 2) := by decide +kernel
theorem dX12_crosses_141 : decode cX12_crosses 141 = .ok (.iload_n 1, 1) := by decide +kernel
theorem dX12_crosses_142 : decode cX12_crosses 142 = .ok (.imul, 1) := by decide +kernel
theorem dX12_crosses_143 : decode cX12_crosses 143 = .ok (.aload_n 0, 1) := by decide +kernel
theorem dX12_crosses_144 : decode cX12_crosses 144 = .ok (.getfield 71, 3) := by decide +kernel
theorem dX12_crosses_147 : decode cX12_crosses 147 = .ok (.iload_n 1, 1) := by decide +kernel
theorem dX12_crosses_148 : decode cX12_crosses 148 = .ok (.iaload, 1) := by decide +kernel
theorem dX12_crosses_149 : decode cX12_crosses 149 = .ok (.iadd, 1) := by decide +kernel
theorem dX12_crosses_150 : decode cX12_crosses 150 = .ok (.iload_n 2, 1) := by decide +kernel
theorem dX12_crosses_151 : decode cX12_crosses 151 = .ok (.iastore, 1) := by decide +kernel
theorem dX12_crosses_152 : decode cX12_crosses 152 = .ok (.aload_n 0, 1) := by decide +kernel
theorem dX12_crosses_153 : decode cX12_crosses 153 = .ok (.getfield 68, 3) := by decide +kernel
theorem dX12_crosses_156 : decode cX12_crosses 156 = .ok (.bipush 8, 2) := by decide +kernel
theorem dX12_crosses_158 : decode cX12_crosses 158 = .ok (.iload_n 1, 1) := by decide +kernel
theorem dX12_crosses_159 : decode cX12_crosses 159 = .ok (.imul, 1) := by decide +kernel
theorem dX12_crosses_160 : decode cX12_crosses 160 = .ok (.aload_n 0, 1) := by decide +kernel
theorem dX12_crosses_161 : decode cX12_crosses 161 = .ok (.getfield 71, 3) := by decide +kernel
theorem dX12_crosses_164 : decode cX12_crosses 164 = .ok (.iload_n 1, 1) := by decide +kernel
theorem dX12_crosses_165 : decode cX12_crosses 165 = .ok (.iaload, 1) := by decide +kernel
theorem dX12_crosses_166 : decode cX12_crosses 166 = .ok (.iadd, 1) := by decide +kernel
theorem dX12_crosses_167 : decode cX12_crosses 167 = .ok (.iload_n 3, 1) := by decide +kernel
theorem dX12_crosses_168 : decode cX12_crosses 168 = .ok (.iastore, 1) := by decide +kernel
theorem dX12_crosses_169 : decode cX12_crosses 169 = .ok (.aload_n 0, 1) := by decide +kernel
theorem dX12_crosses_170 : decode cX12_crosses 170 = .ok (.getfield 71, 3) := by decide +kernel
theorem dX12_crosses_173 : decode cX12_crosses 173 = .ok (.iload_n 1, 1) := by decide +kernel
theorem dX12_crosses_174 : decode cX12_crosses 174 = .ok (.dup2, 1) := by decide +kernel
theorem dX12_crosses_175 : decode cX12_crosses 175 = .ok (.iaload, 1) := by decide +kernel
theorem dX12_crosses_176 : decode cX12_crosses 176 = .ok (.iconst 1, 1) := by decide +kernel
theorem dX12_crosses_177 : decode cX12_crosses 177 = .ok (.iadd, 1) := by decide +kernel
theorem dX12_crosses_178 : decode cX12_crosses 178 = .ok (.iastore, 1) := by decide +kernel
theorem dX12_crosses_179 : decode cX12_crosses 179 = .ok (.iload 6, 2) := by decide +kernel
theorem dX12_crosses_181 : decode cX12_crosses 181 = .ok (.ireturn, 1) := by decide +kernel
theorem dX12_freezes_0 : decode cX12_freezes 0 = .ok (.iconst 0, 1) := by decide +kernel
theorem dX12_freezes_1 : decode cX12_freezes 1 = .ok (.istore_n 1, 1) := by decide +kernel
theorem dX12_freezes_2 : decode cX12_freezes 2 = .ok (.iload_n 1, 1) := by decide +kernel
theorem dX12_freezes_3 : decode cX12_freezes 3 = .ok (.aload_n 0, 1) := by decide +kernel
theorem dX12_freezes_4 : decode cX12_freezes 4 = .ok (.invokevirtual 283, 3) := by decide +kernel
theorem dX12_freezes_7 : decode cX12_freezes 7 = .ok (.if_icmp .ge 102, 3) := by decide +kernel
theorem dX12_freezes_10 : decode cX12_freezes 10 = .ok (.iconst 0, 1) := by decide +kernel
theorem dX12_freezes_11 : decode cX12_freezes 11 = .ok (.istore_n 2, 1) := by decide +kernel
theorem dX12_freezes_12 : decode cX12_freezes 12 = .ok (.iconst 0, 1) := by decide +kernel
theorem dX12_freezes_13 : decode cX12_freezes 13 = .ok (.istore_n 3, 1) := by decide +kernel
theorem dX12_freezes_14 : decode cX12_freezes 14 = .ok (.iload_n 3, 1) := by decide +kernel
theorem dX12_freezes_15 : decode cX12_freezes 15 = .ok (.aload_n 0, 1) := by decide +kernel
theorem dX12_freezes_16 : decode cX12_freezes 16 = .ok (.getfield 71, 3) := by decide +kernel
theorem dX12_freezes_19 : decode cX12_freezes 19 = .ok (.iload_n 1, 1) := by decide +kernel
theorem dX12_freezes_20 : decode cX12_freezes 20 = .ok (.iaload, 1) := by decide +kernel
theorem dX12_freezes_21 : decode cX12_freezes 21 = .ok (.if_icmp .ge 75, 3) := by decide +kernel
theorem dX12_freezes_24 : decode cX12_freezes 24 = .ok (.aload_n 0, 1) := by decide +kernel
theorem dX12_freezes_25 : decode cX12_freezes 25 = .ok (.getfield 65, 3) := by decide +kernel
theorem dX12_freezes_28 : decode cX12_freezes 28 = .ok (.bipush 8, 2) := by decide +kernel
theorem dX12_freezes_30 : decode cX12_freezes 30 = .ok (.iload_n 1, 1) := by decide +kernel
theorem dX12_freezes_31 : decode cX12_freezes 31 = .ok (.imul, 1) := by decide +kernel
theorem dX12_freezes_32 : decode cX12_freezes 32 = .ok (.iload_n 3, 1) := by decide +kernel
theorem dX12_freezes_33 : decode cX12_freezes 33 = .ok (.iadd, 1) := by decide +kernel
theorem dX12_freezes_34 : decode cX12_freezes 34 = .ok (.iaload, 1) := by decide +kernel
theorem dX12_freezes_35 : decode cX12_freezes 35 = .ok (.aload_n 0, 1) := by decide +kernel
theorem dX12_freezes_36 : decode cX12_freezes 36 = .ok (.getfield 34, 3) := by decide +kernel
theorem dX12_freezes_39 : decode cX12_freezes 39 = .ok (.iconst 1, 1) := by decide +kernel
theorem dX12_freezes_40 : decode cX12_freezes 40 = .ok (.iaload, 1) := by decide +kernel
theorem dX12_freezes_41 : decode cX12_freezes 41 = .ok (.isub, 1) := by decide +kernel
theorem dX12_freezes_42 : decode cX12_freezes 42 = .ok (.istore 4, 2) := by decide +kernel
theorem dX12_freezes_44 : decode cX12_freezes 44 = .ok (.iload 4, 2) := by decide +kernel
theorem dX12_freezes_46 : decode cX12_freezes 46 = .ok (.ifCond .gt 6, 3) := by decide +kernel
theorem dX12_freezes_49 : decode cX12_freezes 49 = .ok (.goto 41, 3) := by decide +kernel
theorem dX12_freezes_52 : decode cX12_freezes 52 = .ok (.aload_n 0, 1) := by decide +kernel
theorem dX12_freezes_53 : decode cX12_freezes 53 = .ok (.getfield 65, 3) := by decide +kernel
theorem dX12_freezes_56 : decode cX12_freezes 56 = .ok (.bipush 8, 2) := by decide +kernel
theorem dX12_freezes_58 : decode cX12_freezes 58 = .ok (.iload_n 1, 1) := by decide +kernel
theorem dX12_freezes_59 : decode cX12_freezes 59 = .ok (.imul, 1) := by decide +kernel
theorem dX12_freezes_60 : decode cX12_freezes 60 = .ok (.iload_n 2, 1) := by decide +kernel
theorem dX12_freezes_61 : decode cX12_freezes 61 = .ok (.iadd, 1) := by decide +kernel
theorem dX12_freezes_62 : decode cX12_freezes 62 = .ok (.iload 4, 2) := by decide +kernel
theorem dX12_freezes_64 : decode cX12_freezes 64 = .ok (.iastore, 1) := by decide +kernel
theorem dX12_freezes_65 : decode cX12_freezes 65 = .ok (.aload_n 0, 1) := by decide +kernel
theorem dX12_freezes_66 : decode cX12_freezes 66 = .ok (.getfield 68, 3) := by decide +kernel
theorem dX12_freezes_69 : decode cX12_freezes 69 = .ok (.bipush 8, 2) := by decide +kernel
theorem dX12_freezes_71 : decode cX12_freezes 71 = .ok (.iload_n 1, 1) := by decide +kernel
theorem dX12_freezes_72 : decode cX12_freezes 72 = .ok (.imul, 1) := by decide +kernel
theorem dX12_freezes_73 : decode cX12_freezes 73 = .ok (.iload_n 2, 1) := by decide +kernel
theorem dX12_freezes_74 : decode cX12_freezes 74 = .ok (.iadd, 1) := by decide +kernel
theorem dX12_freezes_75 : decode cX12_freezes 75 = .ok (.aload_n 0, 1) := by decide +kernel
theorem dX12_freezes_76 : decode cX12_freezes 76 = .ok (.getfield 68, 3) := by decide +kernel
theorem dX12_freezes_79 : decode cX12_freezes 79 = .ok (.bipush 8, 2) := by decide +kernel
theorem dX12_freezes_81 : decode cX12_freezes 81 = .ok (.iload_n 1, 1) := by decide +kernel
theorem dX12_freezes_82 : decode cX12_freezes 82 = .ok (.imul, 1) := by decide +kernel
theorem dX12_freezes_83 : decode cX12_freezes 83 = .ok (.iload_n 3, 1) := by decide +kernel
theorem dX12_freezes_84 : decode cX12_freezes 84 = .ok (.iadd, 1) := by decide +kernel
theorem dX12_freezes_85 : decode cX12_freezes 85 = .ok (.iaload, 1) := by decide +kernel
theorem dX12_freezes_86 : decode cX12_freezes 86 = .ok (.iastore, 1) := by decide +kernel
theorem dX12_freezes_87 : decode cX12_freezes 87 = .ok (.iinc 2 1, 3) := by decide +kernel
theorem dX12_freezes_90 : decode cX12_freezes 90 = .ok (.iinc 3 1, 3) := by decide +kernel
theorem dX12_freezes_93 : decode cX12_freezes 93 = .ok (.goto (-79), 3) := by decide +kernel
theorem dX12_freezes_96 : decode cX12_freezes 96 = .ok (.aload_n 0, 1) := by decide +kernel
theorem dX12_freezes_97 : decode cX12_freezes 97 = .ok (.getfield 71, 3) := by decide +kernel
theorem dX12_freezes_100 : decode cX12_freezes 100 = .ok (.iload_n 1, 1) := by decide +kernel
theorem dX12_freezes_101 : decode cX12_freezes 101 = .ok (.iload_n 2, 1) := by decide +kernel
theorem dX12_freezes_102 : decode cX12_freezes 102 = .ok (.iastore, 1) := by decide +kernel
theorem dX12_freezes_103 : decode cX12_freezes 103 = .ok (.iinc 1 1, 3) := by decide +kernel
theorem dX12_freezes_106 : decode cX12_freezes 106 = .ok (.goto (-104), 3) := by decide +kernel
theorem dX12_freezes_109 : decode cX12_freezes 109 = .ok (.return_, 1) := by decide +kernel
theorem dX12_lastOf_0 : decode cX12_lastOf 0 = .ok (.aload_n 0, 1) := by decide +kernel
theorem dX12_lastOf_1 : decode cX12_lastOf 1 = .ok (.getfield 71, 3) := by decide +kernel
theorem dX12_lastOf_4 : decode cX12_lastOf 4 = .ok (.iload_n 1, 1) := by decide +kernel
theorem dX12_lastOf_5 : decode cX12_lastOf 5 = .ok (.iaload, 1) := by decide +kernel
theorem dX12_lastOf_6 : decode cX12_lastOf 6 = .ok (.ifCond .ne 7, 3) := by decide +kernel
theorem dX12_lastOf_9 : decode cX12_lastOf 9 = .ok (.iconst 0, 1) := by decide +kernel
theorem dX12_lastOf_10 : decode cX12_lastOf 10 = .ok (.goto 21, 3) := by decide +kernel
theorem dX12_lastOf_13 : decode cX12_lastOf 13 = .ok (.aload_n 0, 1) := by decide +kernel
theorem dX12_lastOf_14 : decode cX12_lastOf 14 = .ok (.getfield 65, 3) := by decide +kernel
theorem dX12_lastOf_17 : decode cX12_lastOf 17 = .ok (.bipush 8, 2) := by decide +kernel
theorem dX12_lastOf_19 : decode cX12_lastOf 19 = .ok (.iload_n 1, 1) := by decide +kernel
theorem dX12_lastOf_20 : decode cX12_lastOf 20 = .ok (.imul, 1) := by decide +kernel
theorem dX12_lastOf_21 : decode cX12_lastOf 21 = .ok (.aload_n 0, 1) := by decide +kernel
theorem dX12_lastOf_22 : decode cX12_lastOf 22 = .ok (.getfield 71, 3) := by decide +kernel
theorem dX12_lastOf_25 : decode cX12_lastOf 25 = .ok (.iload_n 1, 1) := by decide +kernel
theorem dX12_lastOf_26 : decode cX12_lastOf 26 = .ok (.iaload, 1) := by decide +kernel
theorem dX12_lastOf_27 : decode cX12_lastOf 27 = .ok (.iadd, 1) := by decide +kernel
theorem dX12_lastOf_28 : decode cX12_lastOf 28 = .ok (.iconst 1, 1) := by decide +kernel
theorem dX12_lastOf_29 : decode cX12_lastOf 29 = .ok (.isub, 1) := by decide +kernel
theorem dX12_lastOf_30 : decode cX12_lastOf 30 = .ok (.iaload, 1) := by decide +kernel
theorem dX12_lastOf_31 : decode cX12_lastOf 31 = .ok (.ireturn, 1) := by decide +kernel
theorem dX12_sagOf_0 : decode cX12_sagOf 0 = .ok (.iconst 0, 1) := by decide +kernel
theorem dX12_sagOf_1 : decode cX12_sagOf 1 = .ok (.istore_n 2, 1) := by decide +kernel
theorem dX12_sagOf_2 : decode cX12_sagOf 2 = .ok (.iconst 0, 1) := by decide +kernel
theorem dX12_sagOf_3 : decode cX12_sagOf 3 = .ok (.istore_n 3, 1) := by decide +kernel
theorem dX12_sagOf_4 : decode cX12_sagOf 4 = .ok (.iload_n 3, 1) := by decide +kernel
theorem dX12_sagOf_5 : decode cX12_sagOf 5 = .ok (.aload_n 0, 1) := by decide +kernel
theorem dX12_sagOf_6 : decode cX12_sagOf 6 = .ok (.getfield 71, 3) := by decide +kernel
theorem dX12_sagOf_9 : decode cX12_sagOf 9 = .ok (.iload_n 1, 1) := by decide +kernel
theorem dX12_sagOf_10 : decode cX12_sagOf 10 = .ok (.iaload, 1) := by decide +kernel
theorem dX12_sagOf_11 : decode cX12_sagOf 11 = .ok (.if_icmp .ge 27, 3) := by decide +kernel
theorem dX12_sagOf_14 : decode cX12_sagOf 14 = .ok (.iload_n 2, 1) := by decide +kernel
theorem dX12_sagOf_15 : decode cX12_sagOf 15 = .ok (.aload_n 0, 1) := by decide +kernel
theorem dX12_sagOf_16 : decode cX12_sagOf 16 = .ok (.getfield 65, 3) := by decide +kernel
theorem dX12_sagOf_19 : decode cX12_sagOf 19 = .ok (.bipush 8, 2) := by decide +kernel
theorem dX12_sagOf_21 : decode cX12_sagOf 21 = .ok (.iload_n 1, 1) := by decide +kernel
theorem dX12_sagOf_22 : decode cX12_sagOf 22 = .ok (.imul, 1) := by decide +kernel
theorem dX12_sagOf_23 : decode cX12_sagOf 23 = .ok (.iload_n 3, 1) := by decide +kernel
theorem dX12_sagOf_24 : decode cX12_sagOf 24 = .ok (.iadd, 1) := by decide +kernel
theorem dX12_sagOf_25 : decode cX12_sagOf 25 = .ok (.iaload, 1) := by decide +kernel
theorem dX12_sagOf_26 : decode cX12_sagOf 26 = .ok (.iload_n 3, 1) := by decide +kernel
theorem dX12_sagOf_27 : decode cX12_sagOf 27 = .ok (.iconst 1, 1) := by decide +kernel
theorem dX12_sagOf_28 : decode cX12_sagOf 28 = .ok (.iadd, 1) := by decide +kernel
theorem dX12_sagOf_29 : decode cX12_sagOf 29 = .ok (.idiv, 1) := by decide +kernel
theorem dX12_sagOf_30 : decode cX12_sagOf 30 = .ok (.iadd, 1) := by decide +kernel
theorem dX12_sagOf_31 : decode cX12_sagOf 31 = .ok (.istore_n 2, 1) := by decide +kernel
theorem dX12_sagOf_32 : decode cX12_sagOf 32 = .ok (.iinc 3 1, 3) := by decide +kernel
theorem dX12_sagOf_35 : decode cX12_sagOf 35 = .ok (.goto (-31), 3) := by decide +kernel
theorem dX12_sagOf_38 : decode cX12_sagOf 38 = .ok (.iload_n 2, 1) := by decide +kernel
theorem dX12_sagOf_39 : decode cX12_sagOf 39 = .ok (.ireturn, 1) := by decide +kernel
theorem dX12_turn_0 : decode cX12_turn 0 = .ok (.aload_n 0, 1) := by decide +kernel
theorem dX12_turn_1 : decode cX12_turn 1 = .ok (.getfield 298, 3) := by decide +kernel
theorem dX12_turn_4 : decode cX12_turn 4 = .ok (.iload_n 1, 1) := by decide +kernel
theorem dX12_turn_5 : decode cX12_turn 5 = .ok (.invokestatic 307, 3) := by decide +kernel
theorem dX12_turn_8 : decode cX12_turn 8 = .ok (.ifCond .eq 7, 3) := by decide +kernel
theorem dX12_turn_11 : decode cX12_turn 11 = .ok (.aload_n 0, 1) := by decide +kernel
theorem dX12_turn_12 : decode cX12_turn 12 = .ok (.invokevirtual 311, 3) := by decide +kernel
theorem dX12_turn_15 : decode cX12_turn 15 = .ok (.aload_n 0, 1) := by decide +kernel
theorem dX12_turn_16 : decode cX12_turn 16 = .ok (.getfield 62, 3) := by decide +kernel
theorem dX12_turn_19 : decode cX12_turn 19 = .ok (.iload_n 1, 1) := by decide +kernel
theorem dX12_turn_20 : decode cX12_turn 20 = .ok (.iaload, 1) := by decide +kernel
theorem dX12_turn_21 : decode cX12_turn 21 = .ok (.istore_n 2, 1) := by decide +kernel
theorem dX12_turn_22 : decode cX12_turn 22 = .ok (.aload_n 0, 1) := by decide +kernel
theorem dX12_turn_23 : decode cX12_turn 23 = .ok (.getfield 80, 3) := by decide +kernel
theorem dX12_turn_26 : decode cX12_turn 26 = .ok (.iload_n 2, 1) := by decide +kernel
theorem dX12_turn_27 : decode cX12_turn 27 = .ok (.iconst (-1), 1) := by decide +kernel
theorem dX12_turn_28 : decode cX12_turn 28 = .ok (.iastore, 1) := by decide +kernel
theorem dX12_turn_29 : decode cX12_turn 29 = .ok (.aload_n 0, 1) := by decide +kernel
theorem dX12_turn_30 : decode cX12_turn 30 = .ok (.getfield 83, 3) := by decide +kernel
theorem dX12_turn_33 : decode cX12_turn 33 = .ok (.iload_n 2, 1) := by decide +kernel
theorem dX12_turn_34 : decode cX12_turn 34 = .ok (.iconst (-1), 1) := by decide +kernel
theorem dX12_turn_35 : decode cX12_turn 35 = .ok (.iastore, 1) := by decide +kernel
theorem dX12_turn_36 : decode cX12_turn 36 = .ok (.aload_n 0, 1) := by decide +kernel
theorem dX12_turn_37 : decode cX12_turn 37 = .ok (.getfield 86, 3) := by decide +kernel
theorem dX12_turn_40 : decode cX12_turn 40 = .ok (.iload_n 2, 1) := by decide +kernel
theorem dX12_turn_41 : decode cX12_turn 41 = .ok (.iconst 0, 1) := by decide +kernel
theorem dX12_turn_42 : decode cX12_turn 42 = .ok (.iastore, 1) := by decide +kernel
theorem dX12_turn_43 : decode cX12_turn 43 = .ok (.aload_n 0, 1) := by decide +kernel
theorem dX12_turn_44 : decode cX12_turn 44 = .ok (.getfield 89, 3) := by decide +kernel
theorem dX12_turn_47 : decode cX12_turn 47 = .ok (.iload_n 2, 1) := by decide +kernel
theorem dX12_turn_48 : decode cX12_turn 48 = .ok (.iconst 0, 1) := by decide +kernel
theorem dX12_turn_49 : decode cX12_turn 49 = .ok (.iastore, 1) := by decide +kernel
theorem dX12_turn_50 : decode cX12_turn 50 = .ok (.aload_n 0, 1) := by decide +kernel
theorem dX12_turn_51 : decode cX12_turn 51 = .ok (.getfield 92, 3) := by decide +kernel
theorem dX12_turn_54 : decode cX12_turn 54 = .ok (.iload_n 2, 1) := by decide +kernel
theorem dX12_turn_55 : decode cX12_turn 55 = .ok (.iconst 0, 1) := by decide +kernel
theorem dX12_turn_56 : decode cX12_turn 56 = .ok (.iastore, 1) := by decide +kernel
theorem dX12_turn_57 : decode cX12_turn 57 = .ok (.aload_n 0, 1) := by decide +kernel
theorem dX12_turn_58 : decode cX12_turn 58 = .ok (.getfield 301, 3) := by decide +kernel
theorem dX12_turn_61 : decode cX12_turn 61 = .ok (.iload_n 2, 1) := by decide +kernel
theorem dX12_turn_62 : decode cX12_turn 62 = .ok (.invokestatic 307, 3) := by decide +kernel
theorem dX12_turn_65 : decode cX12_turn 65 = .ok (.ifCond .eq 4, 3) := by decide +kernel
theorem dX12_turn_68 : decode cX12_turn 68 = .ok (.return_, 1) := by decide +kernel
theorem dX12_turn_69 : decode cX12_turn 69 = .ok (.aload_n 0, 1) := by decide +kernel
theorem dX12_turn_70 : decode cX12_turn 70 = .ok (.iload_n 2, 1) := by decide +kernel
theorem dX12_turn_71 : decode cX12_turn 71 = .ok (.invokevirtual 314, 3) := by decide +kernel
theorem dX12_turn_74 : decode cX12_turn 74 = .ok (.istore_n 3, 1) := by decide +kernel
theorem dX12_turn_75 : decode cX12_turn 75 = .ok (.aload_n 0, 1) := by decide +kernel
theorem dX12_turn_76 : decode cX12_turn 76 = .ok (.getfield 83, 3) := by decide +kernel
theorem dX12_turn_79 : decode cX12_turn 79 = .ok (.iload_n 2, 1) := by decide +kernel
theorem dX12_turn_80 : decode cX12_turn 80 = .ok (.iload_n 3, 1) := by decide +kernel
theorem dX12_turn_81 : decode cX12_turn 81 = .ok (.iastore, 1) := by decide +kernel
theorem dX12_turn_82 : decode cX12_turn 82 = .ok (.iload_n 3, 1) := by decide +kernel
theorem dX12_turn_83 : decode cX12_turn 83 = .ok (.iconst (-1), 1) := by decide +kernel
theorem dX12_turn_84 : decode cX12_turn 84 = .ok (.if_icmp .eq 13, 3) := by decide +kernel
theorem dX12_turn_87 : decode cX12_turn 87 = .ok (.aload_n 0, 1) := by decide +kernel
theorem dX12_turn_88 : decode cX12_turn 88 = .ok (.getfield 74, 3) := by decide +kernel
theorem dX12_turn_91 : decode cX12_turn 91 = .ok (.iload_n 3, 1) := by decide +kernel
theorem dX12_turn_92 : decode cX12_turn 92 = .ok (.iaload, 1) := by decide +kernel
theorem dX12_turn_93 : decode cX12_turn 93 = .ok (.iconst (-1), 1) := by decide +kernel
theorem dX12_turn_94 : decode cX12_turn 94 = .ok (.if_icmp .eq 4, 3) := by decide +kernel
theorem dX12_turn_97 : decode cX12_turn 97 = .ok (.return_, 1) := by decide +kernel
theorem dX12_turn_98 : decode cX12_turn 98 = .ok (.aload_n 0, 1) := by decide +kernel
theorem dX12_turn_99 : decode cX12_turn 99 = .ok (.getfield 80, 3) := by decide +kernel
theorem dX12_turn_102 : decode cX12_turn 102 = .ok (.iload_n 2, 1) := by decide +kernel
theorem dX12_turn_103 : decode cX12_turn 103 = .ok (.iload_n 3, 1) := by decide +kernel
theorem dX12_turn_104 : decode cX12_turn 104 = .ok (.iastore, 1) := by decide +kernel
theorem dX12_turn_105 : decode cX12_turn 105 = .ok (.aload_n 0, 1) := by decide +kernel
theorem dX12_turn_106 : decode cX12_turn 106 = .ok (.iload_n 3, 1) := by decide +kernel
theorem dX12_turn_107 : decode cX12_turn 107 = .ok (.invokevirtual 317, 3) := by decide +kernel
theorem dX12_turn_110 : decode cX12_turn 110 = .ok (.istore 4, 2) := by decide +kernel
theorem dX12_turn_112 : decode cX12_turn 112 = .ok (.aload_n 0, 1) := by decide +kernel
theorem dX12_turn_113 : decode cX12_turn 113 = .ok (.getfield 89, 3) := by decide +kernel
theorem dX12_turn_116 : decode cX12_turn 116 = .ok (.iload_n 2, 1) := by decide +kernel
theorem dX12_turn_117 : decode cX12_turn 117 = .ok (.aload_n 0, 1) := by decide +kernel
theorem dX12_turn_118 : decode cX12_turn 118 = .ok (.getfield 56, 3) := by decide +kernel
theorem dX12_turn_121 : decode cX12_turn 121 = .ok (.iload_n 2, 1) := by decide +kernel
theorem dX12_turn_122 : decode cX12_turn 122 = .ok (.iaload, 1) := by decide +kernel
theorem dX12_turn_123 : decode cX12_turn 123 = .ok (.aload_n 0, 1) := by decide +kernel
theorem dX12_turn_124 : decode cX12_turn 124 = .ok (.iload_n 3, 1) := by decide +kernel
theorem dX12_turn_125 : decode cX12_turn 125 = .ok (.invokevirtual 304, 3) := by decide +kernel
theorem dX12_turn_128 : decode cX12_turn 128 = .ok (.if_icmp .le 18, 3) := by decide +kernel
theorem dX12_turn_131 : decode cX12_turn 131 = .ok (.aload_n 0, 1) := by decide +kernel
theorem dX12_turn_132 : decode cX12_turn 132 = .ok (.getfield 56, 3) := by decide +kernel
theorem dX12_turn_135 : decode cX12_turn 135 = .ok (.iload_n 2, 1) := by decide +kernel
theorem dX12_turn_136 : decode cX12_turn 136 = .ok (.iaload, 1) := by decide +kernel
theorem dX12_turn_137 : decode cX12_turn 137 = .ok (.aload_n 0, 1) := by decide +kernel
theorem dX12_turn_138 : decode cX12_turn 138 = .ok (.iload_n 3, 1) := by decide +kernel
theorem dX12_turn_139 : decode cX12_turn 139 = .ok (.invokevirtual 304, 3) := by decide +kernel
theorem dX12_turn_142 : decode cX12_turn 142 = .ok (.isub, 1) := by decide +kernel
theorem dX12_turn_143 : decode cX12_turn 143 = .ok (.goto 4, 3) := by decide +kernel
theorem dX12_turn_146 : decode cX12_turn 146 = .ok (.iconst 0, 1) := by decide +kernel
theorem dX12_turn_147 : decode cX12_turn 147 = .ok (.iastore, 1) := by decide +kernel
theorem dX12_turn_148 : decode cX12_turn 148 = .ok (.aload_n 0, 1) := by decide +kernel
theorem dX12_turn_149 : decode cX12_turn 149 = .ok (.getfield 92, 3) := by decide +kernel
theorem dX12_turn_152 : decode cX12_turn 152 = .ok (.iload_n 2, 1) := by decide +kernel
theorem dX12_turn_153 : decode cX12_turn 153 = .ok (.aload_n 0, 1) := by decide +kernel
theorem dX12_turn_154 : decode cX12_turn 154 = .ok (.iload_n 3, 1) := by decide +kernel
theorem dX12_turn_155 : decode cX12_turn 155 = .ok (.aload_n 0, 1) := by decide +kernel
theorem dX12_turn_156 : decode cX12_turn 156 = .ok (.getfield 56, 3) := by decide +kernel
theorem dX12_turn_159 : decode cX12_turn 159 = .ok (.iload_n 2, 1) := by decide +kernel
theorem dX12_turn_160 : decode cX12_turn 160 = .ok (.iaload, 1) := by decide +kernel
theorem dX12_turn_161 : decode cX12_turn 161 = .ok (.iload_n 2, 1) := by decide +kernel
theorem dX12_turn_162 : decode cX12_turn 162 = .ok (.invokevirtual 320, 3) := by decide +kernel
theorem dX12_turn_165 : decode cX12_turn 165 = .ok (.iastore, 1) := by decide +kernel
theorem dX12_turn_166 : decode cX12_turn 166 = .ok (.aload_n 0, 1) := by decide +kernel
theorem dX12_turn_167 : decode cX12_turn 167 = .ok (.getfield 86, 3) := by decide +kernel
theorem dX12_turn_170 : decode cX12_turn 170 = .ok (.iload_n 2, 1) := by decide +kernel
theorem dX12_turn_171 : decode cX12_turn 171 = .ok (.aload_n 0, 1) := by decide +kernel
theorem dX12_turn_172 : decode cX12_turn 172 = .ok (.iload_n 3, 1) := by decide +kernel
theorem dX12_turn_173 : decode cX12_turn 173 = .ok (.invokevirtual 317, 3) := by decide +kernel
theorem dX12_turn_176 : decode cX12_turn 176 = .ok (.iload 4, 2) := by decide +kernel
theorem dX12_turn_178 : decode cX12_turn 178 = .ok (.isub, 1) := by decide +kernel
theorem dX12_turn_179 : decode cX12_turn 179 = .ok (.iastore, 1) := by decide +kernel
theorem dX12_turn_180 : decode cX12_turn 180 = .ok (.aload_n 0, 1) := by decide +kernel
theorem dX12_turn_181 : decode cX12_turn 181 = .ok (.iload_n 3, 1) := by decide +kernel
theorem dX12_turn_182 : decode cX12_turn 182 = .ok (.invokevirtual 317, 3) := by decide +kernel
theorem dX12_turn_185 : decode cX12_turn 185 = .ok (.aload_n 0, 1) := by decide +kernel
theorem dX12_turn_186 : decode cX12_turn 186 = .ok (.getfield 37, 3) := by decide +kernel
theorem dX12_turn_189 : decode cX12_turn 189 = .ok (.iconst 2, 1) := by decide +kernel
theorem dX12_turn_190 : decode cX12_turn 190 = .ok (.iload_n 3, 1) := by decide +kernel
theorem dX12_turn_191 : decode cX12_turn 191 = .ok (.imul, 1) := by decide +kernel
theorem dX12_turn_192 : decode cX12_turn 192 = .ok (.iaload, 1) := by decide +kernel
theorem dX12_turn_193 : decode cX12_turn 193 = .ok (.if_icmp .gt 4, 3) := by decide +kernel
theorem dX12_turn_196 : decode cX12_turn 196 = .ok (.return_, 1) := by decide +kernel
theorem dX12_turn_197 : decode cX12_turn 197 = .ok (.aload_n 0, 1) := by decide +kernel
theorem dX12_turn_198 : decode cX12_turn 198 = .ok (.getfield 74, 3) := by decide +kernel
theorem dX12_turn_201 : decode cX12_turn 201 = .ok (.iload_n 3, 1) := by decide +kernel
theorem dX12_turn_202 : decode cX12_turn 202 = .ok (.iload_n 2, 1) := by decide +kernel
theorem dX12_turn_203 : decode cX12_turn 203 = .ok (.iastore, 1) := by decide +kernel
theorem dX12_turn_204 : decode cX12_turn 204 = .ok (.aload_n 0, 1) := by decide +kernel
theorem dX12_turn_205 : decode cX12_turn 205 = .ok (.getfield 77, 3) := by decide +kernel
theorem dX12_turn_208 : decode cX12_turn 208 = .ok (.iload_n 3, 1) := by decide +kernel
theorem dX12_turn_209 : decode cX12_turn 209 = .ok (.iload_n 1, 1) := by decide +kernel
theorem dX12_turn_210 : decode cX12_turn 210 = .ok (.iastore, 1) := by decide +kernel
theorem dX12_turn_211 : decode cX12_turn 211 = .ok (.return_, 1) := by decide +kernel
theorem dX12_wayOf_0 : decode cX12_wayOf 0 = .ok (.aload_n 0, 1) := by decide +kernel
theorem dX12_wayOf_1 : decode cX12_wayOf 1 = .ok (.getfield 59, 3) := by decide +kernel
theorem dX12_wayOf_4 : decode cX12_wayOf 4 = .ok (.iload_n 1, 1) := by decide +kernel
theorem dX12_wayOf_5 : decode cX12_wayOf 5 = .ok (.iaload, 1) := by decide +kernel
theorem dX12_wayOf_6 : decode cX12_wayOf 6 = .ok (.istore_n 2, 1) := by decide +kernel
theorem dX12_wayOf_7 : decode cX12_wayOf 7 = .ok (.iconst 0, 1) := by decide +kernel
theorem dX12_wayOf_8 : decode cX12_wayOf 8 = .ok (.istore_n 3, 1) := by decide +kernel
theorem dX12_wayOf_9 : decode cX12_wayOf 9 = .ok (.iload_n 3, 1) := by decide +kernel
theorem dX12_wayOf_10 : decode cX12_wayOf 10 = .ok (.aload_n 0, 1) := by decide +kernel
theorem dX12_wayOf_11 : decode cX12_wayOf 11 = .ok (.getfield 34, 3) := by decide +kernel
theorem dX12_wayOf_14 : decode cX12_wayOf 14 = .ok (.iconst 5, 1) := by decide +kernel
theorem dX12_wayOf_15 : decode cX12_wayOf 15 = .ok (.iaload, 1) := by decide +kernel
theorem dX12_wayOf_16 : decode cX12_wayOf 16 = .ok (.if_icmp .ge 56, 3) := by decide +kernel
theorem dX12_wayOf_19 : decode cX12_wayOf 19 = .ok (.iload_n 2, 1) := by decide +kernel
theorem dX12_wayOf_20 : decode cX12_wayOf 20 = .ok (.iconst (-1), 1) := by decide +kernel
theorem dX12_wayOf_21 : decode cX12_wayOf 21 = .ok (.if_icmp .eq 51, 3) := by decide +kernel
theorem dX12_wayOf_24 : decode cX12_wayOf 24 = .ok (.aload_n 0, 1) := by decide +kernel
theorem dX12_wayOf_25 : decode cX12_wayOf 25 = .ok (.getfield 43, 3) := by decide +kernel
theorem dX12_wayOf_28 : decode cX12_wayOf 28 = .ok (.iconst 3, 1) := by decide +kernel
theorem dX12_wayOf_29 : decode cX12_wayOf 29 = .ok (.iload_n 3, 1) := by decide +kernel
theorem dX12_wayOf_30 : decode cX12_wayOf 30 = .ok (.imul, 1) := by decide +kernel
theorem dX12_wayOf_31 : decode cX12_wayOf 31 = .ok (.iaload, 1) := by decide +kernel
theorem dX12_wayOf_32 : decode cX12_wayOf 32 = .ok (.iload_n 2, 1) := by decide +kernel
theorem dX12_wayOf_33 : decode cX12_wayOf 33 = .ok (.if_icmp .ne 33, 3) := by decide +kernel
theorem dX12_wayOf_36 : decode cX12_wayOf 36 = .ok (.aload_n 0, 1) := by decide +kernel
theorem dX12_wayOf_37 : decode cX12_wayOf 37 = .ok (.getfield 43, 3) := by decide +kernel
theorem dX12_wayOf_40 : decode cX12_wayOf 40 = .ok (.iconst 3, 1) := by decide +kernel
theorem dX12_wayOf_41 : decode cX12_wayOf 41 = .ok (.iload_n 3, 1) := by decide +kernel
theorem dX12_wayOf_42 : decode cX12_wayOf 42 = .ok (.imul, 1) := by decide +kernel
theorem dX12_wayOf_43 : decode cX12_wayOf 43 = .ok (.iconst 1, 1) := by decide +kernel
theorem dX12_wayOf_44 : decode cX12_wayOf 44 = .ok (.iadd, 1) := by decide +kernel
theorem dX12_wayOf_45 : decode cX12_wayOf 45 = .ok (.iaload, 1) := by decide +kernel
theorem dX12_wayOf_46 : decode cX12_wayOf 46 = .ok (.aload_n 0, 1) := by decide +kernel
theorem dX12_wayOf_47 : decode cX12_wayOf 47 = .ok (.getfield 56, 3) := by decide +kernel
theorem dX12_wayOf_50 : decode cX12_wayOf 50 = .ok (.iload_n 1, 1) := by decide +kernel
theorem dX12_wayOf_51 : decode cX12_wayOf 51 = .ok (.iaload, 1) := by decide +kernel
theorem dX12_wayOf_52 : decode cX12_wayOf 52 = .ok (.if_icmp .ge 14, 3) := by decide +kernel
theorem dX12_wayOf_55 : decode cX12_wayOf 55 = .ok (.aload_n 0, 1) := by decide +kernel
theorem dX12_wayOf_56 : decode cX12_wayOf 56 = .ok (.getfield 43, 3) := by decide +kernel
theorem dX12_wayOf_59 : decode cX12_wayOf 59 = .ok (.iconst 3, 1) := by decide +kernel
theorem dX12_wayOf_60 : decode cX12_wayOf 60 = .ok (.iload_n 3, 1) := by decide +kernel
theorem dX12_wayOf_61 : decode cX12_wayOf 61 = .ok (.imul, 1) := by decide +kernel
theorem dX12_wayOf_62 : decode cX12_wayOf 62 = .ok (.iconst 2, 1) := by decide +kernel
theorem dX12_wayOf_63 : decode cX12_wayOf 63 = .ok (.iadd, 1) := by decide +kernel
theorem dX12_wayOf_64 : decode cX12_wayOf 64 = .ok (.iaload, 1) := by decide +kernel
theorem dX12_wayOf_65 : decode cX12_wayOf 65 = .ok (.ireturn, 1) := by decide +kernel
theorem dX12_wayOf_66 : decode cX12_wayOf 66 = .ok (.iinc 3 1, 3) := by decide +kernel
theorem dX12_wayOf_69 : decode cX12_wayOf 69 = .ok (.goto (-60), 3) := by decide +kernel
theorem dX12_wayOf_72 : decode cX12_wayOf 72 = .ok (.iload_n 2, 1) := by decide +kernel
theorem dX12_wayOf_73 : decode cX12_wayOf 73 = .ok (.ireturn, 1) := by decide +kernel
