theorem dX12_copyRow_0 : decode cX12_copyRow 0 = .ok (.iconst 0, 1) := by decide +kernel
theorem dX12_copyRow_1 : decode cX12_copyRow 1 = .ok (.istore 4, 2) := by decide +kernel
theorem dX12_copyRow_3 : decode cX12_copyRow 3 = .ok (.iload 4, 2) := by decide +kernel
theorem dX12_copyRow_5 : decode cX12_copyRow 5 = .ok (.iload_n 1, 1) := by decide +kernel
theorem dX12_copyRow_6 : decode cX12_copyRow 6 = .ok (.if_icmp .ge 25, 3) := by decide +kernel
theorem dX12_copyRow_9 : decode cX12_copyRow 9 = .ok (.aload_n 0, 1) := by decide +kernel
theorem dX12_copyRow_10 : decode cX12_copyRow 10 = .ok (.iload_n 1, 1) := by decide +kernel
theorem dX12_copyRow_11 : decode cX12_copyRow 11 = .ok (.iload_n 3, 1) := by decide +kernel
theorem dX12_copyRow_12 : decode cX12_copyRow 12 = .ok (.imul, 1) := by decide +kernel
theorem dX12_copyRow_13 : decode cX12_copyRow 13 = .ok (.iload 4, 2) := by decide +kernel
theorem dX12_copyRow_15 : decode cX12_copyRow 15 = .ok (.iadd, 1) := by decide +kernel
theorem dX12_copyRow_16 : decode cX12_copyRow 16 = .ok (.aload_n 0, 1) := by decide +kernel
theorem dX12_copyRow_17 : decode cX12_copyRow 17 = .ok (.iload_n 1, 1) := by decide +kernel
theorem dX12_copyRow_18 : decode cX12_copyRow 18 = .ok (.iload_n 2, 1) := by decide +kernel
theorem dX12_copyRow_19 : decode cX12_copyRow 19 = .ok (.imul, 1) := by decide +kernel
theorem dX12_copyRow_20 : decode cX12_copyRow 20 = .ok (.iload 4, 2) := by decide +kernel
theorem dX12_copyRow_22 : decode cX12_copyRow 22 = .ok (.iadd, 1) := by decide +kernel
theorem dX12_copyRow_23 : decode cX12_copyRow 23 = .ok (.iaload, 1) := by decide +kernel
theorem dX12_copyRow_24 : decode cX12_copyRow 24 = .ok (.iastore, 1) := by decide +kernel
theorem dX12_copyRow_25 : decode cX12_copyRow 25 = .ok (.iinc 4 1, 3) := by decide +kernel
theorem dX12_copyRow_28 : decode cX12_copyRow 28 = .ok (.goto (-25), 3) := by decide +kernel
theorem dX12_copyRow_31 : decode cX12_copyRow 31 = .ok (.return_, 1) := by decide +kernel
theorem dX12_copyValley_0 : decode cX12_copyValley 0 = .ok (.aload_n 0, 1) := by decide +kernel
theorem dX12_copyValley_1 : decode cX12_copyValley 1 = .ok (.getfield 31, 3) := by decide +kernel
theorem dX12_copyValley_4 : decode cX12_copyValley 4 = .ok (.iconst 1, 1) := by decide +kernel
theorem dX12_copyValley_5 : decode cX12_copyValley 5 = .ok (.iload_n 1, 1) := by decide +kernel
theorem dX12_copyValley_6 : decode cX12_copyValley 6 = .ok (.iload_n 2, 1) := by decide +kernel
theorem dX12_copyValley_7 : decode cX12_copyValley 7 = .ok (.invokestatic 279, 3) := by decide +kernel
theorem dX12_copyValley_10 : decode cX12_copyValley 10 = .ok (.aload_n 0, 1) := by decide +kernel
theorem dX12_copyValley_11 : decode cX12_copyValley 11 = .ok (.getfield 34, 3) := by decide +kernel
theorem dX12_copyValley_14 : decode cX12_copyValley 14 = .ok (.bipush 8, 2) := by decide +kernel
theorem dX12_copyValley_16 : decode cX12_copyValley 16 = .ok (.iload_n 1, 1) := by decide +kernel
theorem dX12_copyValley_17 : decode cX12_copyValley 17 = .ok (.iload_n 2, 1) := by decide +kernel
theorem dX12_copyValley_18 : decode cX12_copyValley 18 = .ok (.invokestatic 279, 3) := by decide +kernel
theorem dX12_copyValley_21 : decode cX12_copyValley 21 = .ok (.aload_n 0, 1) := by decide +kernel
theorem dX12_copyValley_22 : decode cX12_copyValley 22 = .ok (.getfield 37, 3) := by decide +kernel
theorem dX12_copyValley_25 : decode cX12_copyValley 25 = .ok (.bipush 6, 2) := by decide +kernel
theorem dX12_copyValley_27 : decode cX12_copyValley 27 = .ok (.iload_n 1, 1) := by decide +kernel
theorem dX12_copyValley_28 : decode cX12_copyValley 28 = .ok (.iload_n 2, 1) := by decide +kernel
theorem dX12_copyValley_29 : decode cX12_copyValley 29 = .ok (.invokestatic 279, 3) := by decide +kernel
theorem dX12_copyValley_32 : decode cX12_copyValley 32 = .ok (.aload_n 0, 1) := by decide +kernel
theorem dX12_copyValley_33 : decode cX12_copyValley 33 = .ok (.getfield 40, 3) := by decide +kernel
theorem dX12_copyValley_36 : decode cX12_copyValley 36 = .ok (.bipush 14, 2) := by decide +kernel
theorem dX12_copyValley_38 : decode cX12_copyValley 38 = .ok (.iload_n 1, 1) := by decide +kernel
theorem dX12_copyValley_39 : decode cX12_copyValley 39 = .ok (.iload_n 2, 1) := by decide +kernel
theorem dX12_copyValley_40 : decode cX12_copyValley 40 = .ok (.invokestatic 279, 3) := by decide +kernel
theorem dX12_copyValley_43 : decode cX12_copyValley 43 = .ok (.aload_n 0, 1) := by decide +kernel
theorem dX12_copyValley_44 : decode cX12_copyValley 44 = .ok (.getfield 43, 3) := by decide +kernel
theorem dX12_copyValley_47 : decode cX12_copyValley 47 = .ok (.bipush 15, 2) := by decide +kernel
theorem dX12_copyValley_49 : decode cX12_copyValley 49 = .ok (.iload_n 1, 1) := by decide +kernel
theorem dX12_copyValley_50 : decode cX12_copyValley 50 = .ok (.iload_n 2, 1) := by decide +kernel
theorem dX12_copyValley_51 : decode cX12_copyValley 51 = .ok (.invokestatic 279, 3) := by decide +kernel
theorem dX12_copyValley_54 : decode cX12_copyValley 54 = .ok (.aload_n 0, 1) := by decide +kernel
theorem dX12_copyValley_55 : decode cX12_copyValley 55 = .ok (.getfield 46, 3) := by decide +kernel
theorem dX12_copyValley_58 : decode cX12_copyValley 58 = .ok (.iconst 4, 1) := by decide +kernel
theorem dX12_copyValley_59 : decode cX12_copyValley 59 = .ok (.iload_n 1, 1) := by decide +kernel
theorem dX12_copyValley_60 : decode cX12_copyValley 60 = .ok (.iload_n 2, 1) := by decide +kernel
theorem dX12_copyValley_61 : decode cX12_copyValley 61 = .ok (.invokestatic 279, 3) := by decide +kernel
theorem dX12_copyValley_64 : decode cX12_copyValley 64 = .ok (.aload_n 0, 1) := by decide +kernel
theorem dX12_copyValley_65 : decode cX12_copyValley 65 = .ok (.getfield 49, 3) := by decide +kernel
theorem dX12_copyValley_68 : decode cX12_copyValley 68 = .ok (.bipush 90, 2) := by decide +kernel
theorem dX12_copyValley_70 : decode cX12_copyValley 70 = .ok (.iload_n 1, 1) := by decide +kernel
theorem dX12_copyValley_71 : decode cX12_copyValley 71 = .ok (.iload_n 2, 1) := by decide +kernel
theorem dX12_copyValley_72 : decode cX12_copyValley 72 = .ok (.invokestatic 279, 3) := by decide +kernel
theorem dX12_copyValley_75 : decode cX12_copyValley 75 = .ok (.return_, 1) := by decide +kernel
theorem dX12_valley_0 : decode cX12_valley 0 = .ok (.aload_n 0, 1) := by decide +kernel
theorem dX12_valley_1 : decode cX12_valley 1 = .ok (.iconst 0, 1) := by decide +kernel
theorem dX12_valley_2 : decode cX12_valley 2 = .ok (.putfield 116, 3) := by decide +kernel
theorem dX12_valley_5 : decode cX12_valley 5 = .ok (.aload_n 0, 1) := by decide +kernel
theorem dX12_valley_6 : decode cX12_valley 6 = .ok (.invokevirtual 251, 3) := by decide +kernel
theorem dX12_valley_9 : decode cX12_valley 9 = .ok (.aload_n 0, 1) := by decide +kernel
theorem dX12_valley_10 : decode cX12_valley 10 = .ok (.invokevirtual 254, 3) := by decide +kernel
theorem dX12_valley_13 : decode cX12_valley 13 = .ok (.aload_n 0, 1) := by decide +kernel
theorem dX12_valley_14 : decode cX12_valley 14 = .ok (.invokevirtual 257, 3) := by decide +kernel
theorem dX12_valley_17 : decode cX12_valley 17 = .ok (.ifCond .eq 101, 3) := by decide +kernel
theorem dX12_valley_20 : decode cX12_valley 20 = .ok (.aload_n 0, 1) := by decide +kernel
theorem dX12_valley_21 : decode cX12_valley 21 = .ok (.getfield 157, 3) := by decide +kernel
theorem dX12_valley_24 : decode cX12_valley 24 = .ok (.ifCond .eq 94, 3) := by decide +kernel
theorem dX12_valley_27 : decode cX12_valley 27 = .ok (.aload_n 0, 1) := by decide +kernel
theorem dX12_valley_28 : decode cX12_valley 28 = .ok (.getfield 31, 3) := by decide +kernel
theorem dX12_valley_31 : decode cX12_valley 31 = .ok (.iconst 4, 1) := by decide +kernel
theorem dX12_valley_32 : decode cX12_valley 32 = .ok (.iaload, 1) := by decide +kernel
theorem dX12_valley_33 : decode cX12_valley 33 = .ok (.ifCond .ne 57, 3) := by decide +kernel
theorem dX12_valley_36 : decode cX12_valley 36 = .ok (.aload_n 0, 1) := by decide +kernel
theorem dX12_valley_37 : decode cX12_valley 37 = .ok (.ldc2_w 261, 3) := by decide +kernel
theorem dX12_valley_40 : decode cX12_valley 40 = .ok (.invokevirtual 187, 3) := by decide +kernel
theorem dX12_valley_43 : decode cX12_valley 43 = .ok (.aload_n 0, 1) := by decide +kernel
theorem dX12_valley_44 : decode cX12_valley 44 = .ok (.iconst 0, 1) := by decide +kernel
theorem dX12_valley_45 : decode cX12_valley 45 = .ok (.aload_n 0, 1) := by decide +kernel
theorem dX12_valley_46 : decode cX12_valley 46 = .ok (.ldc2_w 263, 3) := by decide +kernel
theorem dX12_valley_49 : decode cX12_valley 49 = .ok (.iconst 0, 1) := by decide +kernel
theorem dX12_valley_50 : decode cX12_valley 50 = .ok (.iconst 3, 1) := by decide +kernel
theorem dX12_valley_51 : decode cX12_valley 51 = .ok (.invokevirtual 204, 3) := by decide +kernel
theorem dX12_valley_54 : decode cX12_valley 54 = .ok (.invokevirtual 209, 3) := by decide +kernel
theorem dX12_valley_57 : decode cX12_valley 57 = .ok (.aload_n 0, 1) := by decide +kernel
theorem dX12_valley_58 : decode cX12_valley 58 = .ok (.iconst 1, 1) := by decide +kernel
theorem dX12_valley_59 : decode cX12_valley 59 = .ok (.aload_n 0, 1) := by decide +kernel
theorem dX12_valley_60 : decode cX12_valley 60 = .ok (.ldc2_w 246, 3) := by decide +kernel
theorem dX12_valley_63 : decode cX12_valley 63 = .ok (.iconst 1, 1) := by decide +kernel
theorem dX12_valley_64 : decode cX12_valley 64 = .ok (.bipush 50, 2) := by decide +kernel
theorem dX12_valley_66 : decode cX12_valley 66 = .ok (.invokevirtual 204, 3) := by decide +kernel
theorem dX12_valley_69 : decode cX12_valley 69 = .ok (.invokevirtual 209, 3) := by decide +kernel
theorem dX12_valley_72 : decode cX12_valley 72 = .ok (.aload_n 0, 1) := by decide +kernel
theorem dX12_valley_73 : decode cX12_valley 73 = .ok (.iconst 2, 1) := by decide +kernel
theorem dX12_valley_74 : decode cX12_valley 74 = .ok (.aload_n 0, 1) := by decide +kernel
theorem dX12_valley_75 : decode cX12_valley 75 = .ok (.ldc2_w 265, 3) := by decide +kernel
theorem dX12_valley_78 : decode cX12_valley 78 = .ok (.iconst 0, 1) := by decide +kernel
theorem dX12_valley_79 : decode cX12_valley 79 = .ok (.bipush 10, 2) := by decide +kernel
theorem dX12_valley_81 : decode cX12_valley 81 = .ok (.invokevirtual 204, 3) := by decide +kernel
theorem dX12_valley_84 : decode cX12_valley 84 = .ok (.invokevirtual 209, 3) := by decide +kernel
theorem dX12_valley_87 : decode cX12_valley 87 = .ok (.goto 7, 3) := by decide +kernel
theorem dX12_valley_90 : decode cX12_valley 90 = .ok (.aload_n 0, 1) := by decide +kernel
theorem dX12_valley_91 : decode cX12_valley 91 = .ok (.invokevirtual 267, 3) := by decide +kernel
theorem dX12_valley_94 : decode cX12_valley 94 = .ok (.aload_n 0, 1) := by decide +kernel
theorem dX12_valley_95 : decode cX12_valley 95 = .ok (.invokevirtual 257, 3) := by decide +kernel
theorem dX12_valley_98 : decode cX12_valley 98 = .ok (.ifCond .eq 7, 3) := by decide +kernel
theorem dX12_valley_101 : decode cX12_valley 101 = .ok (.aload_n 0, 1) := by decide +kernel
theorem dX12_valley_102 : decode cX12_valley 102 = .ok (.invokevirtual 270, 3) := by decide +kernel
theorem dX12_valley_105 : decode cX12_valley 105 = .ok (.aload_n 0, 1) := by decide +kernel
theorem dX12_valley_106 : decode cX12_valley 106 = .ok (.getfield 31, 3) := by decide +kernel
theorem dX12_valley_109 : decode cX12_valley 109 = .ok (.iconst 4, 1) := by decide +kernel
theorem dX12_valley_110 : decode cX12_valley 110 = .ok (.dup2, 1) := by decide +kernel
theorem dX12_valley_111 : decode cX12_valley 111 = .ok (.iaload, 1) := by decide +kernel
theorem dX12_valley_112 : decode cX12_valley 112 = .ok (.iconst 1, 1) := by decide +kernel
theorem dX12_valley_113 : decode cX12_valley 113 = .ok (.iadd, 1) := by decide +kernel
theorem dX12_valley_114 : decode cX12_valley 114 = .ok (.iastore, 1) := by decide +kernel
theorem dX12_valley_115 : decode cX12_valley 115 = .ok (.goto (-102), 3) := by decide +kernel
theorem dX12_valley_118 : decode cX12_valley 118 = .ok (.aload_n 0, 1) := by decide +kernel
theorem dX12_valley_119 : decode cX12_valley 119 = .ok (.invokevirtual 273, 3) := by decide +kernel
theorem dX12_valley_122 : decode cX12_valley 122 = .ok (.aload_n 0, 1) := by decide +kernel
theorem dX12_valley_123 : decode cX12_valley 123 = .ok (.getfield 168, 3) := by decide +kernel
theorem dX12_valley_126 : decode cX12_valley 126 = .ok (.ifCond .eq 6, 3) := by decide +kernel
theorem dX12_valley_129 : decode cX12_valley 129 = .ok (.bipush (-4), 2) := by decide +kernel
theorem dX12_valley_131 : decode cX12_valley 131 = .ok (.ireturn, 1) := by decide +kernel
theorem dX12_valley_132 : decode cX12_valley 132 = .ok (.aload_n 0, 1) := by decide +kernel
theorem dX12_valley_133 : decode cX12_valley 133 = .ok (.iconst 4, 1) := by decide +kernel
theorem dX12_valley_134 : decode cX12_valley 134 = .ok (.iconst 0, 1) := by decide +kernel
theorem dX12_valley_135 : decode cX12_valley 135 = .ok (.invokevirtual 276, 3) := by decide +kernel
theorem dX12_valley_138 : decode cX12_valley 138 = .ok (.aload_n 0, 1) := by decide +kernel
theorem dX12_valley_139 : decode cX12_valley 139 = .ok (.getfield 31, 3) := by decide +kernel
theorem dX12_valley_142 : decode cX12_valley 142 = .ok (.iconst 0, 1) := by decide +kernel
theorem dX12_valley_143 : decode cX12_valley 143 = .ok (.iaload, 1) := by decide +kernel
theorem dX12_valley_144 : decode cX12_valley 144 = .ok (.ireturn, 1) := by decide +kernel
