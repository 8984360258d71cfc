theorem dX0_add_0 : decode cX0_add 0 = .ok (.aload_n 0, 1) := by decide +kernel
theorem dX0_add_1 : decode cX0_add 1 = .ok (.getfield 21, 3) := by decide +kernel
theorem dX0_add_4 : decode cX0_add 4 = .ok (.ifCond .lt 12, 3) := by decide +kernel
theorem dX0_add_7 : decode cX0_add 7 = .ok (.aload_n 0, 1) := by decide +kernel
theorem dX0_add_8 : decode cX0_add 8 = .ok (.getfield 21, 3) := by decide +kernel
theorem dX0_add_11 : decode cX0_add 11 = .ok (.bipush 30, 2) := by decide +kernel
theorem dX0_add_13 : decode cX0_add 13 = .ok (.if_icmp .lt 5, 3) := by decide +kernel
theorem dX0_add_16 : decode cX0_add 16 = .ok (.iconst 0, 1) := by decide +kernel
theorem dX0_add_17 : decode cX0_add 17 = .ok (.ireturn, 1) := by decide +kernel
theorem dX0_add_18 : decode cX0_add 18 = .ok (.aload_n 0, 1) := by decide +kernel
theorem dX0_add_19 : decode cX0_add 19 = .ok (.getfield 9, 3) := by decide +kernel
theorem dX0_add_22 : decode cX0_add 22 = .ok (.aload_n 0, 1) := by decide +kernel
theorem dX0_add_23 : decode cX0_add 23 = .ok (.getfield 21, 3) := by decide +kernel
theorem dX0_add_26 : decode cX0_add 26 = .ok (.iload_n 1, 1) := by decide +kernel
theorem dX0_add_27 : decode cX0_add 27 = .ok (.iastore, 1) := by decide +kernel
theorem dX0_add_28 : decode cX0_add 28 = .ok (.aload_n 0, 1) := by decide +kernel
theorem dX0_add_29 : decode cX0_add 29 = .ok (.getfield 15, 3) := by decide +kernel
theorem dX0_add_32 : decode cX0_add 32 = .ok (.aload_n 0, 1) := by decide +kernel
theorem dX0_add_33 : decode cX0_add 33 = .ok (.getfield 21, 3) := by decide +kernel
theorem dX0_add_36 : decode cX0_add 36 = .ok (.iload_n 2, 1) := by decide +kernel
theorem dX0_add_37 : decode cX0_add 37 = .ok (.iastore, 1) := by decide +kernel
theorem dX0_add_38 : decode cX0_add 38 = .ok (.aload_n 0, 1) := by decide +kernel
theorem dX0_add_39 : decode cX0_add 39 = .ok (.getfield 18, 3) := by decide +kernel
theorem dX0_add_42 : decode cX0_add 42 = .ok (.aload_n 0, 1) := by decide +kernel
theorem dX0_add_43 : decode cX0_add 43 = .ok (.getfield 21, 3) := by decide +kernel
theorem dX0_add_46 : decode cX0_add 46 = .ok (.iload_n 3, 1) := by decide +kernel
theorem dX0_add_47 : decode cX0_add 47 = .ok (.iastore, 1) := by decide +kernel
theorem dX0_add_48 : decode cX0_add 48 = .ok (.aload_n 0, 1) := by decide +kernel
theorem dX0_add_49 : decode cX0_add 49 = .ok (.dup, 1) := by decide +kernel
theorem dX0_add_50 : decode cX0_add 50 = .ok (.getfield 21, 3) := by decide +kernel
theorem dX0_add_53 : decode cX0_add 53 = .ok (.iconst 1, 1) := by decide +kernel
theorem dX0_add_54 : decode cX0_add 54 = .ok (.iadd, 1) := by decide +kernel
theorem dX0_add_55 : decode cX0_add 55 = .ok (.putfield 21, 3) := by decide +kernel
theorem dX0_add_58 : decode cX0_add 58 = .ok (.iconst 1, 1) := by decide +kernel
theorem dX0_add_59 : decode cX0_add 59 = .ok (.ireturn, 1) := by decide +kernel
theorem dX0_take_0 : decode cX0_take 0 = .ok (.aload_n 1, 1) := by decide +kernel
theorem dX0_take_1 : decode cX0_take 1 = .ok (.getfield 9, 3) := by decide +kernel
theorem dX0_take_4 : decode cX0_take 4 = .ok (.iconst 0, 1) := by decide +kernel
theorem dX0_take_5 : decode cX0_take 5 = .ok (.aload_n 0, 1) := by decide +kernel
theorem dX0_take_6 : decode cX0_take 6 = .ok (.getfield 9, 3) := by decide +kernel
theorem dX0_take_9 : decode cX0_take 9 = .ok (.iconst 0, 1) := by decide +kernel
theorem dX0_take_10 : decode cX0_take 10 = .ok (.bipush 30, 2) := by decide +kernel
theorem dX0_take_12 : decode cX0_take 12 = .ok (.invokestatic 25, 3) := by decide +kernel
theorem dX0_take_15 : decode cX0_take 15 = .ok (.aload_n 1, 1) := by decide +kernel
theorem dX0_take_16 : decode cX0_take 16 = .ok (.getfield 15, 3) := by decide +kernel
theorem dX0_take_19 : decode cX0_take 19 = .ok (.iconst 0, 1) := by decide +kernel
theorem dX0_take_20 : decode cX0_take 20 = .ok (.aload_n 0, 1) := by decide +kernel
theorem dX0_take_21 : decode cX0_take 21 = .ok (.getfield 15, 3) := by decide +kernel
theorem dX0_take_24 : decode cX0_take 24 = .ok (.iconst 0, 1) := by decide +kernel
theorem dX0_take_25 : decode cX0_take 25 = .ok (.bipush 30, 2) := by decide +kernel
theorem dX0_take_27 : decode cX0_take 27 = .ok (.invokestatic 25, 3) := by decide +kernel
theorem dX0_take_30 : decode cX0_take 30 = .ok (.aload_n 1, 1) := by decide +kernel
theorem dX0_take_31 : decode cX0_take 31 = .ok (.getfield 18, 3) := by decide +kernel
theorem dX0_take_34 : decode cX0_take 34 = .ok (.iconst 0, 1) := by decide +kernel
theorem dX0_take_35 : decode cX0_take 35 = .ok (.aload_n 0, 1) := by decide +kernel
theorem dX0_take_36 : decode cX0_take 36 = .ok (.getfield 18, 3) := by decide +kernel
theorem dX0_take_39 : decode cX0_take 39 = .ok (.iconst 0, 1) := by decide +kernel
theorem dX0_take_40 : decode cX0_take 40 = .ok (.bipush 30, 2) := by decide +kernel
theorem dX0_take_42 : decode cX0_take 42 = .ok (.invokestatic 25, 3) := by decide +kernel
theorem dX0_take_45 : decode cX0_take 45 = .ok (.aload_n 0, 1) := by decide +kernel
theorem dX0_take_46 : decode cX0_take 46 = .ok (.aload_n 1, 1) := by decide +kernel
theorem dX0_take_47 : decode cX0_take 47 = .ok (.getfield 21, 3) := by decide +kernel
theorem dX0_take_50 : decode cX0_take 50 = .ok (.putfield 21, 3) := by decide +kernel
theorem dX0_take_53 : decode cX0_take 53 = .ok (.return_, 1) := by decide +kernel
theorem dX3_make_0 : decode cX3_make 0 = .ok (.aload_n 1, 1) := by decide +kernel
theorem dX3_make_1 : decode cX3_make 1 = .ok (.getfield 18, 3) := by decide +kernel
theorem dX3_make_4 : decode cX3_make 4 = .ok (.iconst 0, 1) := by decide +kernel
theorem dX3_make_5 : decode cX3_make 5 = .ok (.aload_n 0, 1) := by decide +kernel
theorem dX3_make_6 : decode cX3_make 6 = .ok (.getfield 9, 3) := by decide +kernel
theorem dX3_make_9 : decode cX3_make 9 = .ok (.iconst 0, 1) := by decide +kernel
theorem dX3_make_10 : decode cX3_make 10 = .ok (.bipush 7, 2) := by decide +kernel
theorem dX3_make_12 : decode cX3_make 12 = .ok (.invokestatic 21, 3) := by decide +kernel
theorem dX3_make_15 : decode cX3_make 15 = .ok (.aload_n 1, 1) := by decide +kernel
theorem dX3_make_16 : decode cX3_make 16 = .ok (.getfield 27, 3) := by decide +kernel
theorem dX3_make_19 : decode cX3_make 19 = .ok (.iconst 0, 1) := by decide +kernel
theorem dX3_make_20 : decode cX3_make 20 = .ok (.aload_n 0, 1) := by decide +kernel
theorem dX3_make_21 : decode cX3_make 21 = .ok (.getfield 15, 3) := by decide +kernel
theorem dX3_make_24 : decode cX3_make 24 = .ok (.iconst 0, 1) := by decide +kernel
theorem dX3_make_25 : decode cX3_make 25 = .ok (.bipush 7, 2) := by decide +kernel
theorem dX3_make_27 : decode cX3_make 27 = .ok (.invokestatic 21, 3) := by decide +kernel
theorem dX3_make_30 : decode cX3_make 30 = .ok (.aload_n 0, 1) := by decide +kernel
theorem dX3_make_31 : decode cX3_make 31 = .ok (.aload_n 1, 1) := by decide +kernel
theorem dX3_make_32 : decode cX3_make 32 = .ok (.getfield 28, 3) := by decide +kernel
theorem dX3_make_35 : decode cX3_make 35 = .ok (.putfield 32, 3) := by decide +kernel
theorem dX3_make_38 : decode cX3_make 38 = .ok (.aload_n 0, 1) := by decide +kernel
theorem dX3_make_39 : decode cX3_make 39 = .ok (.aload_n 1, 1) := by decide +kernel
theorem dX3_make_40 : decode cX3_make 40 = .ok (.getfield 33, 3) := by decide +kernel
theorem dX3_make_43 : decode cX3_make 43 = .ok (.putfield 36, 3) := by decide +kernel
theorem dX3_make_46 : decode cX3_make 46 = .ok (.iconst 0, 1) := by decide +kernel
theorem dX3_make_47 : decode cX3_make 47 = .ok (.istore_n 3, 1) := by decide +kernel
theorem dX3_make_48 : decode cX3_make 48 = .ok (.iload_n 3, 1) := by decide +kernel
theorem dX3_make_49 : decode cX3_make 49 = .ok (.aload_n 2, 1) := by decide +kernel
theorem dX3_make_50 : decode cX3_make 50 = .ok (.getfield 37, 3) := by decide +kernel
theorem dX3_make_53 : decode cX3_make 53 = .ok (.if_icmp .ge 95, 3) := by decide +kernel
theorem dX3_make_56 : decode cX3_make 56 = .ok (.aload_n 2, 1) := by decide +kernel
theorem dX3_make_57 : decode cX3_make 57 = .ok (.getfield 42, 3) := by decide +kernel
theorem dX3_make_60 : decode cX3_make 60 = .ok (.iload_n 3, 1) := by decide +kernel
theorem dX3_make_61 : decode cX3_make 61 = .ok (.iaload, 1) := by decide +kernel
theorem dX3_make_62 : decode cX3_make 62 = .ok (.istore 4, 2) := by decide +kernel
theorem dX3_make_64 : decode cX3_make 64 = .ok (.aload_n 1, 1) := by decide +kernel
theorem dX3_make_65 : decode cX3_make 65 = .ok (.iload 4, 2) := by decide +kernel
theorem dX3_make_67 : decode cX3_make 67 = .ok (.invokevirtual 45, 3) := by decide +kernel
theorem dX3_make_70 : decode cX3_make 70 = .ok (.ifCond .ne 6, 3) := by decide +kernel
theorem dX3_make_73 : decode cX3_make 73 = .ok (.goto 69, 3) := by decide +kernel
theorem dX3_make_76 : decode cX3_make 76 = .ok (.aload_n 2, 1) := by decide +kernel
theorem dX3_make_77 : decode cX3_make 77 = .ok (.getfield 49, 3) := by decide +kernel
theorem dX3_make_80 : decode cX3_make 80 = .ok (.iload_n 3, 1) := by decide +kernel
theorem dX3_make_81 : decode cX3_make 81 = .ok (.iaload, 1) := by decide +kernel
theorem dX3_make_82 : decode cX3_make 82 = .ok (.ifCond .ne 19, 3) := by decide +kernel
theorem dX3_make_85 : decode cX3_make 85 = .ok (.aload_n 0, 1) := by decide +kernel
theorem dX3_make_86 : decode cX3_make 86 = .ok (.getfield 15, 3) := by decide +kernel
theorem dX3_make_89 : decode cX3_make 89 = .ok (.iload 4, 2) := by decide +kernel
theorem dX3_make_91 : decode cX3_make 91 = .ok (.aload_n 2, 1) := by decide +kernel
theorem dX3_make_92 : decode cX3_make 92 = .ok (.getfield 52, 3) := by decide +kernel
theorem dX3_make_95 : decode cX3_make 95 = .ok (.iload_n 3, 1) := by decide +kernel
theorem dX3_make_96 : decode cX3_make 96 = .ok (.iaload, 1) := by decide +kernel
theorem dX3_make_97 : decode cX3_make 97 = .ok (.iastore, 1) := by decide +kernel
theorem dX3_make_98 : decode cX3_make 98 = .ok (.goto 44, 3) := by decide +kernel
theorem dX3_make_101 : decode cX3_make 101 = .ok (.aload_n 2, 1) := by decide +kernel
theorem dX3_make_102 : decode cX3_make 102 = .ok (.getfield 52, 3) := by decide +kernel
theorem dX3_make_105 : decode cX3_make 105 = .ok (.iload_n 3, 1) := by decide +kernel
theorem dX3_make_106 : decode cX3_make 106 = .ok (.iaload, 1) := by decide +kernel
theorem dX3_make_107 : decode cX3_make 107 = .ok (.iconst 1, 1) := by decide +kernel
theorem dX3_make_108 : decode cX3_make 108 = .ok (.if_icmp .ne 19, 3) := by decide +kernel
theorem dX3_make_111 : decode cX3_make 111 = .ok (.aload_n 0, 1) := by decide +kernel
theorem dX3_make_112 : decode cX3_make 112 = .ok (.dup, 1) := by decide +kernel
theorem dX3_make_113 : decode cX3_make 113 = .ok (.getfield 36, 3) := by decide +kernel
theorem dX3_make_116 : decode cX3_make 116 = .ok (.iconst 1, 1) := by decide +kernel
theorem dX3_make_117 : decode cX3_make 117 = .ok (.iload 4, 2) := by decide +kernel
theorem dX3_make_119 : decode cX3_make 119 = .ok (.ishl, 1) := by decide +kernel
theorem dX3_make_120 : decode cX3_make 120 = .ok (.ior, 1) := by decide +kernel
theorem dX3_make_121 : decode cX3_make 121 = .ok (.putfield 36, 3) := by decide +kernel
theorem dX3_make_124 : decode cX3_make 124 = .ok (.goto 18, 3) := by decide +kernel
theorem dX3_make_127 : decode cX3_make 127 = .ok (.aload_n 0, 1) := by decide +kernel
theorem dX3_make_128 : decode cX3_make 128 = .ok (.dup, 1) := by decide +kernel
theorem dX3_make_129 : decode cX3_make 129 = .ok (.getfield 36, 3) := by decide +kernel
theorem dX3_make_132 : decode cX3_make 132 = .ok (.iconst 1, 1) := by decide +kernel
theorem dX3_make_133 : decode cX3_make 133 = .ok (.iload 4, 2) := by decide +kernel
theorem dX3_make_135 : decode cX3_make 135 = .ok (.ishl, 1) := by decide +kernel
theorem dX3_make_136 : decode cX3_make 136 = .ok (.iconst (-1), 1) := by decide +kernel
theorem dX3_make_137 : decode cX3_make 137 = .ok (.ixor, 1) := by decide +kernel
theorem dX3_make_138 : decode cX3_make 138 = .ok (.iand, 1) := by decide +kernel
theorem dX3_make_139 : decode cX3_make 139 = .ok (.putfield 36, 3) := by decide +kernel
theorem dX3_make_142 : decode cX3_make 142 = .ok (.iinc 3 1, 3) := by decide +kernel
theorem dX3_make_145 : decode cX3_make 145 = .ok (.goto (-97), 3) := by decide +kernel
theorem dX3_make_148 : decode cX3_make 148 = .ok (.return_, 1) := by decide +kernel
theorem dX3_take_0 : decode cX3_take 0 = .ok (.aload_n 1, 1) := by decide +kernel
theorem dX3_take_1 : decode cX3_take 1 = .ok (.getfield 9, 3) := by decide +kernel
theorem dX3_take_4 : decode cX3_take 4 = .ok (.iconst 0, 1) := by decide +kernel
theorem dX3_take_5 : decode cX3_take 5 = .ok (.aload_n 0, 1) := by decide +kernel
theorem dX3_take_6 : decode cX3_take 6 = .ok (.getfield 9, 3) := by decide +kernel
theorem dX3_take_9 : decode cX3_take 9 = .ok (.iconst 0, 1) := by decide +kernel
theorem dX3_take_10 : decode cX3_take 10 = .ok (.bipush 7, 2) := by decide +kernel
theorem dX3_take_12 : decode cX3_take 12 = .ok (.invokestatic 21, 3) := by decide +kernel
theorem dX3_take_15 : decode cX3_take 15 = .ok (.aload_n 1, 1) := by decide +kernel
theorem dX3_take_16 : decode cX3_take 16 = .ok (.getfield 15, 3) := by decide +kernel
theorem dX3_take_19 : decode cX3_take 19 = .ok (.iconst 0, 1) := by decide +kernel
theorem dX3_take_20 : decode cX3_take 20 = .ok (.aload_n 0, 1) := by decide +kernel
theorem dX3_take_21 : decode cX3_take 21 = .ok (.getfield 15, 3) := by decide +kernel
theorem dX3_take_24 : decode cX3_take 24 = .ok (.iconst 0, 1) := by decide +kernel
theorem dX3_take_25 : decode cX3_take 25 = .ok (.bipush 7, 2) := by decide +kernel
theorem dX3_take_27 : decode cX3_take 27 = .ok (.invokestatic 21, 3) := by decide +kernel
theorem dX3_take_30 : decode cX3_take 30 = .ok (.aload_n 0, 1) := by decide +kernel
theorem dX3_take_31 : decode cX3_take 31 = .ok (.aload_n 1, 1) := by decide +kernel
theorem dX3_take_32 : decode cX3_take 32 = .ok (.getfield 32, 3) := by decide +kernel
theorem dX3_take_35 : decode cX3_take 35 = .ok (.putfield 32, 3) := by decide +kernel
theorem dX3_take_38 : decode cX3_take 38 = .ok (.aload_n 0, 1) := by decide +kernel
theorem dX3_take_39 : decode cX3_take 39 = .ok (.aload_n 1, 1) := by decide +kernel
theorem dX3_take_40 : decode cX3_take 40 = .ok (.getfield 36, 3) := by decide +kernel
theorem dX3_take_43 : decode cX3_take 43 = .ok (.putfield 36, 3) := by decide +kernel
theorem dX3_take_46 : decode cX3_take 46 = .ok (.return_, 1) := by decide +kernel
