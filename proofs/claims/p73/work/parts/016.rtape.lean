theorem dX9_expect_0 : decode cX9_expect 0 = .ok (.aload_n 0, 1) := by decide +kernel
theorem dX9_expect_1 : decode cX9_expect 1 = .ok (.aload_n 1, 1) := by decide +kernel
theorem dX9_expect_2 : decode cX9_expect 2 = .ok (.invokevirtual 65, 3) := by decide +kernel
theorem dX9_expect_5 : decode cX9_expect 5 = .ok (.ifCond .ne 9, 3) := by decide +kernel
theorem dX9_expect_8 : decode cX9_expect 8 = .ok (.aload_n 0, 1) := by decide +kernel
theorem dX9_expect_9 : decode cX9_expect 9 = .ok (.iconst 1, 1) := by decide +kernel
theorem dX9_expect_10 : decode cX9_expect 10 = .ok (.invokevirtual 86, 3) := by decide +kernel
theorem dX9_expect_13 : decode cX9_expect 13 = .ok (.ireturn, 1) := by decide +kernel
theorem dX9_expect_14 : decode cX9_expect 14 = .ok (.aload_n 0, 1) := by decide +kernel
theorem dX9_expect_15 : decode cX9_expect 15 = .ok (.invokevirtual 38, 3) := by decide +kernel
theorem dX9_expect_18 : decode cX9_expect 18 = .ok (.iconst 1, 1) := by decide +kernel
theorem dX9_expect_19 : decode cX9_expect 19 = .ok (.ireturn, 1) := by decide +kernel
theorem dX9_expectNumber_0 : decode cX9_expectNumber 0 = .ok (.aload_n 0, 1) := by decide +kernel
theorem dX9_expectNumber_1 : decode cX9_expectNumber 1 = .ok (.getfield 41, 3) := by decide +kernel
theorem dX9_expectNumber_4 : decode cX9_expectNumber 4 = .ok (.iconst 2, 1) := by decide +kernel
theorem dX9_expectNumber_5 : decode cX9_expectNumber 5 = .ok (.if_icmp .eq 9, 3) := by decide +kernel
theorem dX9_expectNumber_8 : decode cX9_expectNumber 8 = .ok (.aload_n 0, 1) := by decide +kernel
theorem dX9_expectNumber_9 : decode cX9_expectNumber 9 = .ok (.iconst 1, 1) := by decide +kernel
theorem dX9_expectNumber_10 : decode cX9_expectNumber 10 = .ok (.invokevirtual 86, 3) := by decide +kernel
theorem dX9_expectNumber_13 : decode cX9_expectNumber 13 = .ok (.ireturn, 1) := by decide +kernel
theorem dX9_expectNumber_14 : decode cX9_expectNumber 14 = .ok (.aload_n 0, 1) := by decide +kernel
theorem dX9_expectNumber_15 : decode cX9_expectNumber 15 = .ok (.getfield 151, 3) := by decide +kernel
theorem dX9_expectNumber_18 : decode cX9_expectNumber 18 = .ok (.iload_n 1, 1) := by decide +kernel
theorem dX9_expectNumber_19 : decode cX9_expectNumber 19 = .ok (.if_icmp .lt 11, 3) := by decide +kernel
theorem dX9_expectNumber_22 : decode cX9_expectNumber 22 = .ok (.aload_n 0, 1) := by decide +kernel
theorem dX9_expectNumber_23 : decode cX9_expectNumber 23 = .ok (.getfield 151, 3) := by decide +kernel
theorem dX9_expectNumber_26 : decode cX9_expectNumber 26 = .ok (.iload_n 2, 1) := by decide +kernel
theorem dX9_expectNumber_27 : decode cX9_expectNumber 27 = .ok (.if_icmp .le 9, 3) := by decide +kernel
theorem dX9_expectNumber_30 : decode cX9_expectNumber 30 = .ok (.aload_n 0, 1) := by decide +kernel
theorem dX9_expectNumber_31 : decode cX9_expectNumber 31 = .ok (.iconst 2, 1) := by decide +kernel
theorem dX9_expectNumber_32 : decode cX9_expectNumber 32 = .ok (.invokevirtual 86, 3) := by decide +kernel
theorem dX9_expectNumber_35 : decode cX9_expectNumber 35 = .ok (.ireturn, 1) := by decide +kernel
theorem dX9_expectNumber_36 : decode cX9_expectNumber 36 = .ok (.aload_n 0, 1) := by decide +kernel
theorem dX9_expectNumber_37 : decode cX9_expectNumber 37 = .ok (.aload_n 0, 1) := by decide +kernel
theorem dX9_expectNumber_38 : decode cX9_expectNumber 38 = .ok (.getfield 151, 3) := by decide +kernel
theorem dX9_expectNumber_41 : decode cX9_expectNumber 41 = .ok (.putfield 96, 3) := by decide +kernel
theorem dX9_expectNumber_44 : decode cX9_expectNumber 44 = .ok (.aload_n 0, 1) := by decide +kernel
theorem dX9_expectNumber_45 : decode cX9_expectNumber 45 = .ok (.invokevirtual 38, 3) := by decide +kernel
theorem dX9_expectNumber_48 : decode cX9_expectNumber 48 = .ok (.iconst 1, 1) := by decide +kernel
theorem dX9_expectNumber_49 : decode cX9_expectNumber 49 = .ok (.ireturn, 1) := by decide +kernel
theorem dX9_expectOther_0 : decode cX9_expectOther 0 = .ok (.aload_n 0, 1) := by decide +kernel
theorem dX9_expectOther_1 : decode cX9_expectOther 1 = .ok (.getfield 41, 3) := by decide +kernel
theorem dX9_expectOther_4 : decode cX9_expectOther 4 = .ok (.iconst 2, 1) := by decide +kernel
theorem dX9_expectOther_5 : decode cX9_expectOther 5 = .ok (.if_icmp .ne 17, 3) := by decide +kernel
theorem dX9_expectOther_8 : decode cX9_expectOther 8 = .ok (.aload_n 0, 1) := by decide +kernel
theorem dX9_expectOther_9 : decode cX9_expectOther 9 = .ok (.getfield 151, 3) := by decide +kernel
theorem dX9_expectOther_12 : decode cX9_expectOther 12 = .ok (.iload_n 1, 1) := by decide +kernel
theorem dX9_expectOther_13 : decode cX9_expectOther 13 = .ok (.if_icmp .ne 9, 3) := by decide +kernel
theorem dX9_expectOther_16 : decode cX9_expectOther 16 = .ok (.aload_n 0, 1) := by decide +kernel
theorem dX9_expectOther_17 : decode cX9_expectOther 17 = .ok (.iconst 2, 1) := by decide +kernel
theorem dX9_expectOther_18 : decode cX9_expectOther 18 = .ok (.invokevirtual 86, 3) := by decide +kernel
theorem dX9_expectOther_21 : decode cX9_expectOther 21 = .ok (.ireturn, 1) := by decide +kernel
theorem dX9_expectOther_22 : decode cX9_expectOther 22 = .ok (.iconst 1, 1) := by decide +kernel
theorem dX9_expectOther_23 : decode cX9_expectOther 23 = .ok (.ireturn, 1) := by decide +kernel
theorem dX9_expectSign_0 : decode cX9_expectSign 0 = .ok (.aload_n 0, 1) := by decide +kernel
theorem dX9_expectSign_1 : decode cX9_expectSign 1 = .ok (.getfield 41, 3) := by decide +kernel
theorem dX9_expectSign_4 : decode cX9_expectSign 4 = .ok (.iconst 3, 1) := by decide +kernel
theorem dX9_expectSign_5 : decode cX9_expectSign 5 = .ok (.if_icmp .eq 9, 3) := by decide +kernel
theorem dX9_expectSign_8 : decode cX9_expectSign 8 = .ok (.aload_n 0, 1) := by decide +kernel
theorem dX9_expectSign_9 : decode cX9_expectSign 9 = .ok (.iconst 1, 1) := by decide +kernel
theorem dX9_expectSign_10 : decode cX9_expectSign 10 = .ok (.invokevirtual 86, 3) := by decide +kernel
theorem dX9_expectSign_13 : decode cX9_expectSign 13 = .ok (.ireturn, 1) := by decide +kernel
theorem dX9_expectSign_14 : decode cX9_expectSign 14 = .ok (.aload_n 0, 1) := by decide +kernel
theorem dX9_expectSign_15 : decode cX9_expectSign 15 = .ok (.invokevirtual 38, 3) := by decide +kernel
theorem dX9_expectSign_18 : decode cX9_expectSign 18 = .ok (.iconst 1, 1) := by decide +kernel
theorem dX9_expectSign_19 : decode cX9_expectSign 19 = .ok (.ireturn, 1) := by decide +kernel
theorem dX9_fail_0 : decode cX9_fail 0 = .ok (.aload_n 0, 1) := by decide +kernel
theorem dX9_fail_1 : decode cX9_fail 1 = .ok (.iload_n 1, 1) := by decide +kernel
theorem dX9_fail_2 : decode cX9_fail 2 = .ok (.putfield 32, 3) := by decide +kernel
theorem dX9_fail_5 : decode cX9_fail 5 = .ok (.aload_n 0, 1) := by decide +kernel
theorem dX9_fail_6 : decode cX9_fail 6 = .ok (.aload_n 0, 1) := by decide +kernel
theorem dX9_fail_7 : decode cX9_fail 7 = .ok (.getfield 161, 3) := by decide +kernel
theorem dX9_fail_10 : decode cX9_fail 10 = .ok (.putfield 22, 3) := by decide +kernel
theorem dX9_fail_13 : decode cX9_fail 13 = .ok (.iconst 0, 1) := by decide +kernel
theorem dX9_fail_14 : decode cX9_fail 14 = .ok (.ireturn, 1) := by decide +kernel
theorem dX9_isDigit_0 : decode cX9_isDigit 0 = .ok (.iload_n 0, 1) := by decide +kernel
theorem dX9_isDigit_1 : decode cX9_isDigit 1 = .ok (.bipush 48, 2) := by decide +kernel
theorem dX9_isDigit_3 : decode cX9_isDigit 3 = .ok (.if_icmp .lt 13, 3) := by decide +kernel
theorem dX9_isDigit_6 : decode cX9_isDigit 6 = .ok (.iload_n 0, 1) := by decide +kernel
theorem dX9_isDigit_7 : decode cX9_isDigit 7 = .ok (.bipush 57, 2) := by decide +kernel
theorem dX9_isDigit_9 : decode cX9_isDigit 9 = .ok (.if_icmp .gt 7, 3) := by decide +kernel
theorem dX9_isDigit_12 : decode cX9_isDigit 12 = .ok (.iconst 1, 1) := by decide +kernel
theorem dX9_isDigit_13 : decode cX9_isDigit 13 = .ok (.goto 4, 3) := by decide +kernel
theorem dX9_isDigit_16 : decode cX9_isDigit 16 = .ok (.iconst 0, 1) := by decide +kernel
theorem dX9_isDigit_17 : decode cX9_isDigit 17 = .ok (.ireturn, 1) := by decide +kernel
theorem dX9_isLetter_0 : decode cX9_isLetter 0 = .ok (.iload_n 0, 1) := by decide +kernel
theorem dX9_isLetter_1 : decode cX9_isLetter 1 = .ok (.bipush 97, 2) := by decide +kernel
theorem dX9_isLetter_3 : decode cX9_isLetter 3 = .ok (.if_icmp .lt 13, 3) := by decide +kernel
theorem dX9_isLetter_6 : decode cX9_isLetter 6 = .ok (.iload_n 0, 1) := by decide +kernel
theorem dX9_isLetter_7 : decode cX9_isLetter 7 = .ok (.bipush 122, 2) := by decide +kernel
theorem dX9_isLetter_9 : decode cX9_isLetter 9 = .ok (.if_icmp .gt 7, 3) := by decide +kernel
theorem dX9_isLetter_12 : decode cX9_isLetter 12 = .ok (.iconst 1, 1) := by decide +kernel
theorem dX9_isLetter_13 : decode cX9_isLetter 13 = .ok (.goto 4, 3) := by decide +kernel
theorem dX9_isLetter_16 : decode cX9_isLetter 16 = .ok (.iconst 0, 1) := by decide +kernel
theorem dX9_isLetter_17 : decode cX9_isLetter 17 = .ok (.ireturn, 1) := by decide +kernel
theorem dX9_isWord_0 : decode cX9_isWord 0 = .ok (.aload_n 0, 1) := by decide +kernel
theorem dX9_isWord_1 : decode cX9_isWord 1 = .ok (.getfield 41, 3) := by decide +kernel
theorem dX9_isWord_4 : decode cX9_isWord 4 = .ok (.iconst 1, 1) := by decide +kernel
theorem dX9_isWord_5 : decode cX9_isWord 5 = .ok (.if_icmp .ne 19, 3) := by decide +kernel
theorem dX9_isWord_8 : decode cX9_isWord 8 = .ok (.aload_n 0, 1) := by decide +kernel
theorem dX9_isWord_9 : decode cX9_isWord 9 = .ok (.getfield 35, 3) := by decide +kernel
theorem dX9_isWord_12 : decode cX9_isWord 12 = .ok (.aload_n 0, 1) := by decide +kernel
theorem dX9_isWord_13 : decode cX9_isWord 13 = .ok (.getfield 161, 3) := by decide +kernel
theorem dX9_isWord_16 : decode cX9_isWord 16 = .ok (.isub, 1) := by decide +kernel
theorem dX9_isWord_17 : decode cX9_isWord 17 = .ok (.aload_n 1, 1) := by decide +kernel
theorem dX9_isWord_18 : decode cX9_isWord 18 = .ok (.invokevirtual 164, 3) := by decide +kernel
theorem dX9_isWord_21 : decode cX9_isWord 21 = .ok (.if_icmp .eq 5, 3) := by decide +kernel
theorem dX9_isWord_24 : decode cX9_isWord 24 = .ok (.iconst 0, 1) := by decide +kernel
theorem dX9_isWord_25 : decode cX9_isWord 25 = .ok (.ireturn, 1) := by decide +kernel
theorem dX9_isWord_26 : decode cX9_isWord 26 = .ok (.iconst 0, 1) := by decide +kernel
theorem dX9_isWord_27 : decode cX9_isWord 27 = .ok (.istore_n 2, 1) := by decide +kernel
theorem dX9_isWord_28 : decode cX9_isWord 28 = .ok (.iload_n 2, 1) := by decide +kernel
theorem dX9_isWord_29 : decode cX9_isWord 29 = .ok (.aload_n 1, 1) := by decide +kernel
theorem dX9_isWord_30 : decode cX9_isWord 30 = .ok (.invokevirtual 164, 3) := by decide +kernel
theorem dX9_isWord_33 : decode cX9_isWord 33 = .ok (.if_icmp .ge 43, 3) := by decide +kernel
theorem dX9_isWord_36 : decode cX9_isWord 36 = .ok (.aload_n 0, 1) := by decide +kernel
theorem dX9_isWord_37 : decode cX9_isWord 37 = .ok (.getfield 161, 3) := by decide +kernel
theorem dX9_isWord_40 : decode cX9_isWord 40 = .ok (.iload_n 2, 1) := by decide +kernel
theorem dX9_isWord_41 : decode cX9_isWord 41 = .ok (.iadd, 1) := by decide +kernel
theorem dX9_isWord_42 : decode cX9_isWord 42 = .ok (.aload_n 0, 1) := by decide +kernel
theorem dX9_isWord_43 : decode cX9_isWord 43 = .ok (.getfield 26, 3) := by decide +kernel
theorem dX9_isWord_46 : decode cX9_isWord 46 = .ok (.if_icmp .ge 30, 3) := by decide +kernel
theorem dX9_isWord_49 : decode cX9_isWord 49 = .ok (.aload_n 0, 1) := by decide +kernel
theorem dX9_isWord_50 : decode cX9_isWord 50 = .ok (.getfield 9, 3) := by decide +kernel
theorem dX9_isWord_53 : decode cX9_isWord 53 = .ok (.aload_n 0, 1) := by decide +kernel
theorem dX9_isWord_54 : decode cX9_isWord 54 = .ok (.getfield 161, 3) := by decide +kernel
theorem dX9_isWord_57 : decode cX9_isWord 57 = .ok (.iload_n 2, 1) := by decide +kernel
theorem dX9_isWord_58 : decode cX9_isWord 58 = .ok (.iadd, 1) := by decide +kernel
theorem dX9_isWord_59 : decode cX9_isWord 59 = .ok (.iaload, 1) := by decide +kernel
theorem dX9_isWord_60 : decode cX9_isWord 60 = .ok (.aload_n 1, 1) := by decide +kernel
theorem dX9_isWord_61 : decode cX9_isWord 61 = .ok (.iload_n 2, 1) := by decide +kernel
theorem dX9_isWord_62 : decode cX9_isWord 62 = .ok (.invokevirtual 169, 3) := by decide +kernel
theorem dX9_isWord_65 : decode cX9_isWord 65 = .ok (.if_icmp .eq 5, 3) := by decide +kernel
theorem dX9_isWord_68 : decode cX9_isWord 68 = .ok (.iconst 0, 1) := by decide +kernel
theorem dX9_isWord_69 : decode cX9_isWord 69 = .ok (.ireturn, 1) := by decide +kernel
theorem dX9_isWord_70 : decode cX9_isWord 70 = .ok (.iinc 2 1, 3) := by decide +kernel
theorem dX9_isWord_73 : decode cX9_isWord 73 = .ok (.goto (-45), 3) := by decide +kernel
theorem dX9_isWord_76 : decode cX9_isWord 76 = .ok (.iconst 1, 1) := by decide +kernel
theorem dX9_isWord_77 : decode cX9_isWord 77 = .ok (.ireturn, 1) := by decide +kernel
theorem dX9_next_0 : decode cX9_next 0 = .ok (.aload_n 0, 1) := by decide +kernel
theorem dX9_next_1 : decode cX9_next 1 = .ok (.getfield 35, 3) := by decide +kernel
theorem dX9_next_4 : decode cX9_next 4 = .ok (.aload_n 0, 1) := by decide +kernel
theorem dX9_next_5 : decode cX9_next 5 = .ok (.getfield 26, 3) := by decide +kernel
theorem dX9_next_8 : decode cX9_next 8 = .ok (.if_icmp .ge 44, 3) := by decide +kernel
theorem dX9_next_11 : decode cX9_next 11 = .ok (.aload_n 0, 1) := by decide +kernel
theorem dX9_next_12 : decode cX9_next 12 = .ok (.getfield 9, 3) := by decide +kernel
theorem dX9_next_15 : decode cX9_next 15 = .ok (.aload_n 0, 1) := by decide +kernel
theorem dX9_next_16 : decode cX9_next 16 = .ok (.getfield 35, 3) := by decide +kernel
theorem dX9_next_19 : decode cX9_next 19 = .ok (.iaload, 1) := by decide +kernel
theorem dX9_next_20 : decode cX9_next 20 = .ok (.bipush 32, 2) := by decide +kernel
theorem dX9_next_22 : decode cX9_next 22 = .ok (.if_icmp .eq 17, 3) := by decide +kernel
theorem dX9_next_25 : decode cX9_next 25 = .ok (.aload_n 0, 1) := by decide +kernel
theorem dX9_next_26 : decode cX9_next 26 = .ok (.getfield 9, 3) := by decide +kernel
theorem dX9_next_29 : decode cX9_next 29 = .ok (.aload_n 0, 1) := by decide +kernel
theorem dX9_next_30 : decode cX9_next 30 = .ok (.getfield 35, 3) := by decide +kernel
theorem dX9_next_33 : decode cX9_next 33 = .ok (.iaload, 1) := by decide +kernel
theorem dX9_next_34 : decode cX9_next 34 = .ok (.bipush 10, 2) := by decide +kernel
theorem dX9_next_36 : decode cX9_next 36 = .ok (.if_icmp .ne 16, 3) := by decide +kernel
theorem dX9_next_39 : decode cX9_next 39 = .ok (.aload_n 0, 1) := by decide +kernel
theorem dX9_next_40 : decode cX9_next 40 = .ok (.dup, 1) := by decide +kernel
theorem dX9_next_41 : decode cX9_next 41 = .ok (.getfield 35, 3) := by decide +kernel
theorem dX9_next_44 : decode cX9_next 44 = .ok (.iconst 1, 1) := by decide +kernel
theorem dX9_next_45 : decode cX9_next 45 = .ok (.iadd, 1) := by decide +kernel
theorem dX9_next_46 : decode cX9_next 46 = .ok (.putfield 35, 3) := by decide +kernel
theorem dX9_next_49 : decode cX9_next 49 = .ok (.goto (-49), 3) := by decide +kernel
theorem dX9_next_52 : decode cX9_next 52 = .ok (.aload_n 0, 1) := by decide +kernel
theorem dX9_next_53 : decode cX9_next 53 = .ok (.aload_n 0, 1) := by decide +kernel
theorem dX9_next_54 : decode cX9_next 54 = .ok (.getfield 35, 3) := by decide +kernel
theorem dX9_next_57 : decode cX9_next 57 = .ok (.putfield 161, 3) := by decide +kernel
theorem dX9_next_60 : decode cX9_next 60 = .ok (.aload_n 0, 1) := by decide +kernel
theorem dX9_next_61 : decode cX9_next 61 = .ok (.getfield 35, 3) := by decide +kernel
theorem dX9_next_64 : decode cX9_next 64 = .ok (.aload_n 0, 1) := by decide +kernel
theorem dX9_next_65 : decode cX9_next 65 = .ok (.getfield 26, 3) := by decide +kernel
theorem dX9_next_68 : decode cX9_next 68 = .ok (.if_icmp .lt 9, 3) := by decide +kernel
theorem dX9_next_71 : decode cX9_next 71 = .ok (.aload_n 0, 1) := by decide +kernel
theorem dX9_next_72 : decode cX9_next 72 = .ok (.iconst 0, 1) := by decide +kernel
theorem dX9_next_73 : decode cX9_next 73 = .ok (.putfield 41, 3) := by decide +kernel
theorem dX9_next_76 : decode cX9_next 76 = .ok (.return_, 1) := by decide +kernel
theorem dX9_next_77 : decode cX9_next 77 = .ok (.aload_n 0, 1) := by decide +kernel
theorem dX9_next_78 : decode cX9_next 78 = .ok (.aload_n 0, 1) := by decide +kernel
theorem dX9_next_79 : decode cX9_next 79 = .ok (.getfield 9, 3) := by decide +kernel
theorem dX9_next_82 : decode cX9_next 82 = .ok (.aload_n 0, 1) := by decide +kernel
theorem dX9_next_83 : decode cX9_next 83 = .ok (.getfield 35, 3) := by decide +kernel
theorem dX9_next_86 : decode cX9_next 86 = .ok (.iaload, 1) := by decide +kernel
theorem dX9_next_87 : decode cX9_next 87 = .ok (.bipush 59, 2) := by decide +kernel
theorem dX9_next_89 : decode cX9_next 89 = .ok (.if_icmp .ne 7, 3) := by decide +kernel
theorem dX9_next_92 : decode cX9_next 92 = .ok (.iconst 3, 1) := by decide +kernel
theorem dX9_next_93 : decode cX9_next 93 = .ok (.goto 4, 3) := by decide +kernel
theorem dX9_next_96 : decode cX9_next 96 = .ok (.iconst 4, 1) := by decide +kernel
theorem dX9_next_97 : decode cX9_next 97 = .ok (.putfield 41, 3) := by decide +kernel
theorem dX9_next_100 : decode cX9_next 100 = .ok (.aload_n 0, 1) := by decide +kernel
theorem dX9_next_101 : decode cX9_next 101 = .ok (.dup, 1) := by decide +kernel
theorem dX9_next_102 : decode cX9_next 102 = .ok (.getfield 35, 3) := by decide +kernel
theorem dX9_next_105 : decode cX9_next 105 = .ok (.iconst 1, 1) := by decide +kernel
theorem dX9_next_106 : decode cX9_next 106 = .ok (.iadd, 1) := by decide +kernel
theorem dX9_next_107 : decode cX9_next 107 = .ok (.putfield 35, 3) := by decide +kernel
theorem dX9_next_110 : decode cX9_next 110 = .ok (.aload_n 0, 1) := by decide +kernel
theorem dX9_next_111 : decode cX9_next 111 = .ok (.getfield 9, 3) := by decide +kernel
theorem dX9_next_114 : decode cX9_next 114 = .ok (.aload_n 0, 1) := by decide +kernel
theorem dX9_next_115 : decode cX9_next 115 = .ok (.getfield 161, 3) := by decide +kernel
theorem dX9_next_118 : decode cX9_next 118 = .ok (.iaload, 1) := by decide +kernel
theorem dX9_next_119 : decode cX9_next 119 = .ok (.invokestatic 173, 3) := by decide +kernel
theorem dX9_next_122 : decode cX9_next 122 = .ok (.ifCond .eq 47, 3) := by decide +kernel
theorem dX9_next_125 : decode cX9_next 125 = .ok (.aload_n 0, 1) := by decide +kernel
theorem dX9_next_126 : decode cX9_next 126 = .ok (.iconst 1, 1) := by decide +kernel
theorem dX9_next_127 : decode cX9_next 127 = .ok (.putfield 41, 3) := by decide +kernel
theorem dX9_next_130 : decode cX9_next 130 = .ok (.aload_n 0, 1) := by decide +kernel
theorem dX9_next_131 : decode cX9_next 131 = .ok (.getfield 35, 3) := by decide +kernel
theorem dX9_next_134 : decode cX9_next 134 = .ok (.aload_n 0, 1) := by decide +kernel
theorem dX9_next_135 : decode cX9_next 135 = .ok (.getfield 26, 3) := by decide +kernel
theorem dX9_next_138 : decode cX9_next 138 = .ok (.if_icmp .ge 135, 3) := by decide +kernel
theorem dX9_next_141 : decode cX9_next 141 = .ok (.aload_n 0, 1) := by decide +kernel
theorem dX9_next_142 : decode cX9_next 142 = .ok (.getfield 9, 3) := by decide +kernel
theorem dX9_next_145 : decode cX9_next 145 = .ok (.aload_n 0, 1) := by decide +kernel
theorem dX9_next_146 : decode cX9_next 146 = .ok (.getfield 35, 3) := by decide +kernel
theorem dX9_next_149 : decode cX9_next 149 = .ok (.iaload, 1) := by decide +kernel
theorem dX9_next_150 : decode cX9_next 150 = .ok (.invokestatic 173, 3) := by decide +kernel
theorem dX9_next_153 : decode cX9_next 153 = .ok (.ifCond .eq 120, 3) := by decide +kernel
theorem dX9_next_156 : decode cX9_next 156 = .ok (.aload_n 0, 1) := by decide +kernel
theorem dX9_next_157 : decode cX9_next 157 = .ok (.dup, 1) := by decide +kernel
theorem dX9_next_158 : decode cX9_next 158 = .ok (.getfield 35, 3) := by decide +kernel
theorem dX9_next_161 : decode cX9_next 161 = .ok (.iconst 1, 1) := by decide +kernel
theorem dX9_next_162 : decode cX9_next 162 = .ok (.iadd, 1) := by decide +kernel
theorem dX9_next_163 : decode cX9_next 163 = .ok (.putfield 35, 3) := by decide +kernel
theorem dX9_next_166 : decode cX9_next 166 = .ok (.goto (-36), 3) := by decide +kernel
theorem dX9_next_169 : decode cX9_next 169 = .ok (.aload_n 0, 1) := by decide +kernel
theorem dX9_next_170 : decode cX9_next 170 = .ok (.getfield 9, 3) := by decide +kernel
theorem dX9_next_173 : decode cX9_next 173 = .ok (.aload_n 0, 1) := by decide +kernel
theorem dX9_next_174 : decode cX9_next 174 = .ok (.getfield 161, 3) := by decide +kernel
theorem dX9_next_177 : decode cX9_next 177 = .ok (.iaload, 1) := by decide +kernel
theorem dX9_next_178 : decode cX9_next 178 = .ok (.invokestatic 176, 3) := by decide +kernel
theorem dX9_next_181 : decode cX9_next 181 = .ok (.ifCond .eq 92, 3) := by decide +kernel
theorem dX9_next_184 : decode cX9_next 184 = .ok (.aload_n 0, 1) := by decide +kernel
theorem dX9_next_185 : decode cX9_next 185 = .ok (.iconst 2, 1) := by decide +kernel
theorem dX9_next_186 : decode cX9_next 186 = .ok (.putfield 41, 3) := by decide +kernel
theorem dX9_next_189 : decode cX9_next 189 = .ok (.aload_n 0, 1) := by decide +kernel
theorem dX9_next_190 : decode cX9_next 190 = .ok (.aload_n 0, 1) := by decide +kernel
theorem dX9_next_191 : decode cX9_next 191 = .ok (.getfield 9, 3) := by decide +kernel
theorem dX9_next_194 : decode cX9_next 194 = .ok (.aload_n 0, 1) := by decide +kernel
theorem dX9_next_195 : decode cX9_next 195 = .ok (.getfield 161, 3) := by decide +kernel
theorem dX9_next_198 : decode cX9_next 198 = .ok (.iaload, 1) := by decide +kernel
theorem dX9_next_199 : decode cX9_next 199 = .ok (.bipush 48, 2) := by decide +kernel
theorem dX9_next_201 : decode cX9_next 201 = .ok (.isub, 1) := by decide +kernel
theorem dX9_next_202 : decode cX9_next 202 = .ok (.putfield 151, 3) := by decide +kernel
theorem dX9_next_205 : decode cX9_next 205 = .ok (.aload_n 0, 1) := by decide +kernel
theorem dX9_next_206 : decode cX9_next 206 = .ok (.getfield 35, 3) := by decide +kernel
theorem dX9_next_209 : decode cX9_next 209 = .ok (.aload_n 0, 1) := by decide +kernel
theorem dX9_next_210 : decode cX9_next 210 = .ok (.getfield 26, 3) := by decide +kernel
theorem dX9_next_213 : decode cX9_next 213 = .ok (.if_icmp .ge 60, 3) := by decide +kernel
theorem dX9_next_216 : decode cX9_next 216 = .ok (.aload_n 0, 1) := by decide +kernel
theorem dX9_next_217 : decode cX9_next 217 = .ok (.getfield 9, 3) := by decide +kernel
theorem dX9_next_220 : decode cX9_next 220 = .ok (.aload_n 0, 1) := by decide +kernel
theorem dX9_next_221 : decode cX9_next 221 = .ok (.getfield 35, 3) := by decide +kernel
theorem dX9_next_224 : decode cX9_next 224 = .ok (.iaload, 1) := by decide +kernel
theorem dX9_next_225 : decode cX9_next 225 = .ok (.invokestatic 176, 3) := by decide +kernel
theorem dX9_next_228 : decode cX9_next 228 = .ok (.ifCond .eq 45, 3) := by decide +kernel
theorem dX9_next_231 : decode cX9_next 231 = .ok (.aload_n 0, 1) := by decide +kernel
theorem dX9_next_232 : decode cX9_next 232 = .ok (.ldc 179, 2) := by decide +kernel
theorem dX9_next_234 : decode cX9_next 234 = .ok (.aload_n 0, 1) := by decide +kernel
theorem dX9_next_235 : decode cX9_next 235 = .ok (.getfield 151, 3) := by decide +kernel
theorem dX9_next_238 : decode cX9_next 238 = .ok (.bipush 10, 2) := by decide +kernel
theorem dX9_next_240 : decode cX9_next 240 = .ok (.imul, 1) := by decide +kernel
theorem dX9_next_241 : decode cX9_next 241 = .ok (.aload_n 0, 1) := by decide +kernel
theorem dX9_next_242 : decode cX9_next 242 = .ok (.getfield 9, 3) := by decide +kernel
theorem dX9_next_245 : decode cX9_next 245 = .ok (.aload_n 0, 1) := by decide +kernel
theorem dX9_next_246 : decode cX9_next 246 = .ok (.getfield 35, 3) := by decide +kernel
theorem dX9_next_249 : decode cX9_next 249 = .ok (.iaload, 1) := by decide +kernel
theorem dX9_next_250 : decode cX9_next 250 = .ok (.iadd, 1) := by decide +kernel
theorem dX9_next_251 : decode cX9_next 251 = .ok (.bipush 48, 2) := by decide +kernel
theorem dX9_next_253 : decode cX9_next 253 = .ok (.isub, 1) := by decide +kernel
theorem dX9_next_254 : decode cX9_next 254 = .ok (.invokestatic 180, 3) := by decide +kernel
theorem dX9_next_257 : decode cX9_next 257 = .ok (.putfield 151, 3) := by decide +kernel
theorem dX9_next_260 : decode cX9_next 260 = .ok (.aload_n 0, 1) := by decide +kernel
theorem dX9_next_261 : decode cX9_next 261 = .ok (.dup, 1) := by decide +kernel
theorem dX9_next_262 : decode cX9_next 262 = .ok (.getfield 35, 3) := by decide +kernel
theorem dX9_next_265 : decode cX9_next 265 = .ok (.iconst 1, 1) := by decide +kernel
theorem dX9_next_266 : decode cX9_next 266 = .ok (.iadd, 1) := by decide +kernel
theorem dX9_next_267 : decode cX9_next 267 = .ok (.putfield 35, 3) := by decide +kernel
theorem dX9_next_270 : decode cX9_next 270 = .ok (.goto (-65), 3) := by decide +kernel
theorem dX9_next_273 : decode cX9_next 273 = .ok (.return_, 1) := by decide +kernel
theorem dX9_parse_0 : decode cX9_parse 0 = .ok (.aload_n 0, 1) := by decide +kernel
theorem dX9_parse_1 : decode cX9_parse 1 = .ok (.getfield 18, 3) := by decide +kernel
theorem dX9_parse_4 : decode cX9_parse 4 = .ok (.invokevirtual 29, 3) := by decide +kernel
theorem dX9_parse_7 : decode cX9_parse 7 = .ok (.aload_n 0, 1) := by decide +kernel
theorem dX9_parse_8 : decode cX9_parse 8 = .ok (.iconst 0, 1) := by decide +kernel
theorem dX9_parse_9 : decode cX9_parse 9 = .ok (.putfield 32, 3) := by decide +kernel
theorem dX9_parse_12 : decode cX9_parse 12 = .ok (.aload_n 0, 1) := by decide +kernel
theorem dX9_parse_13 : decode cX9_parse 13 = .ok (.iconst (-1), 1) := by decide +kernel
theorem dX9_parse_14 : decode cX9_parse 14 = .ok (.putfield 22, 3) := by decide +kernel
theorem dX9_parse_17 : decode cX9_parse 17 = .ok (.aload_n 0, 1) := by decide +kernel
theorem dX9_parse_18 : decode cX9_parse 18 = .ok (.iconst 0, 1) := by decide +kernel
theorem dX9_parse_19 : decode cX9_parse 19 = .ok (.putfield 35, 3) := by decide +kernel
theorem dX9_parse_22 : decode cX9_parse 22 = .ok (.aload_n 0, 1) := by decide +kernel
theorem dX9_parse_23 : decode cX9_parse 23 = .ok (.invokevirtual 38, 3) := by decide +kernel
theorem dX9_parse_26 : decode cX9_parse 26 = .ok (.iconst 0, 1) := by decide +kernel
theorem dX9_parse_27 : decode cX9_parse 27 = .ok (.istore_n 1, 1) := by decide +kernel
theorem dX9_parse_28 : decode cX9_parse 28 = .ok (.iload_n 1, 1) := by decide +kernel
theorem dX9_parse_29 : decode cX9_parse 29 = .ok (.sipush 700, 3) := by decide +kernel
theorem dX9_parse_32 : decode cX9_parse 32 = .ok (.if_icmp .ge 43, 3) := by decide +kernel
theorem dX9_parse_35 : decode cX9_parse 35 = .ok (.aload_n 0, 1) := by decide +kernel
theorem dX9_parse_36 : decode cX9_parse 36 = .ok (.getfield 41, 3) := by decide +kernel
theorem dX9_parse_39 : decode cX9_parse 39 = .ok (.ifCond .eq 36, 3) := by decide +kernel
theorem dX9_parse_42 : decode cX9_parse 42 = .ok (.aload_n 0, 1) := by decide +kernel
theorem dX9_parse_43 : decode cX9_parse 43 = .ok (.getfield 32, 3) := by decide +kernel
theorem dX9_parse_46 : decode cX9_parse 46 = .ok (.ifCond .ne 29, 3) := by decide +kernel
theorem dX9_parse_49 : decode cX9_parse 49 = .ok (.aload_n 0, 1) := by decide +kernel
theorem dX9_parse_50 : decode cX9_parse 50 = .ok (.invokevirtual 44, 3) := by decide +kernel
theorem dX9_parse_53 : decode cX9_parse 53 = .ok (.ifCond .eq 16, 3) := by decide +kernel
theorem dX9_parse_56 : decode cX9_parse 56 = .ok (.aload_n 0, 1) := by decide +kernel
theorem dX9_parse_57 : decode cX9_parse 57 = .ok (.getfield 18, 3) := by decide +kernel
theorem dX9_parse_60 : decode cX9_parse 60 = .ok (.dup, 1) := by decide +kernel
theorem dX9_parse_61 : decode cX9_parse 61 = .ok (.getfield 48, 3) := by decide +kernel
theorem dX9_parse_64 : decode cX9_parse 64 = .ok (.iconst 1, 1) := by decide +kernel
theorem dX9_parse_65 : decode cX9_parse 65 = .ok (.iadd, 1) := by decide +kernel
theorem dX9_parse_66 : decode cX9_parse 66 = .ok (.putfield 48, 3) := by decide +kernel
theorem dX9_parse_69 : decode cX9_parse 69 = .ok (.iinc 1 1, 3) := by decide +kernel
theorem dX9_parse_72 : decode cX9_parse 72 = .ok (.goto (-44), 3) := by decide +kernel
theorem dX9_parse_75 : decode cX9_parse 75 = .ok (.aload_n 0, 1) := by decide +kernel
theorem dX9_parse_76 : decode cX9_parse 76 = .ok (.getfield 32, 3) := by decide +kernel
theorem dX9_parse_79 : decode cX9_parse 79 = .ok (.ifCond .ne 7, 3) := by decide +kernel
theorem dX9_parse_82 : decode cX9_parse 82 = .ok (.iconst 1, 1) := by decide +kernel
theorem dX9_parse_83 : decode cX9_parse 83 = .ok (.goto 4, 3) := by decide +kernel
theorem dX9_parse_86 : decode cX9_parse 86 = .ok (.iconst 0, 1) := by decide +kernel
theorem dX9_parse_87 : decode cX9_parse 87 = .ok (.ireturn, 1) := by decide +kernel
theorem dX9_parseBridge_0 : decode cX9_parseBridge 0 = .ok (.aload_n 0, 1) := by decide +kernel
theorem dX9_parseBridge_1 : decode cX9_parseBridge 1 = .ok (.getfield 18, 3) := by decide +kernel
theorem dX9_parseBridge_4 : decode cX9_parseBridge 4 = .ok (.getfield 107, 3) := by decide +kernel
theorem dX9_parseBridge_7 : decode cX9_parseBridge 7 = .ok (.istore_n 1, 1) := by decide +kernel
theorem dX9_parseBridge_8 : decode cX9_parseBridge 8 = .ok (.iload_n 1, 1) := by decide +kernel
theorem dX9_parseBridge_9 : decode cX9_parseBridge 9 = .ok (.iconst 3, 1) := by decide +kernel
theorem dX9_parseBridge_10 : decode cX9_parseBridge 10 = .ok (.if_icmp .lt 9, 3) := by decide +kernel
theorem dX9_parseBridge_13 : decode cX9_parseBridge 13 = .ok (.aload_n 0, 1) := by decide +kernel
theorem dX9_parseBridge_14 : decode cX9_parseBridge 14 = .ok (.iconst 3, 1) := by decide +kernel
theorem dX9_parseBridge_15 : decode cX9_parseBridge 15 = .ok (.invokevirtual 86, 3) := by decide +kernel
theorem dX9_parseBridge_18 : decode cX9_parseBridge 18 = .ok (.ireturn, 1) := by decide +kernel
theorem dX9_parseBridge_19 : decode cX9_parseBridge 19 = .ok (.aload_n 0, 1) := by decide +kernel
theorem dX9_parseBridge_20 : decode cX9_parseBridge 20 = .ok (.invokevirtual 38, 3) := by decide +kernel
theorem dX9_parseBridge_23 : decode cX9_parseBridge 23 = .ok (.aload_n 0, 1) := by decide +kernel
theorem dX9_parseBridge_24 : decode cX9_parseBridge 24 = .ok (.ldc 110, 2) := by decide +kernel
theorem dX9_parseBridge_26 : decode cX9_parseBridge 26 = .ok (.invokevirtual 53, 3) := by decide +kernel
theorem dX9_parseBridge_29 : decode cX9_parseBridge 29 = .ok (.ifCond .eq 14, 3) := by decide +kernel
theorem dX9_parseBridge_32 : decode cX9_parseBridge 32 = .ok (.aload_n 0, 1) := by decide +kernel
theorem dX9_parseBridge_33 : decode cX9_parseBridge 33 = .ok (.iconst 1, 1) := by decide +kernel
theorem dX9_parseBridge_34 : decode cX9_parseBridge 34 = .ok (.sipush 300, 3) := by decide +kernel
theorem dX9_parseBridge_37 : decode cX9_parseBridge 37 = .ok (.invokevirtual 92, 3) := by decide +kernel
theorem dX9_parseBridge_40 : decode cX9_parseBridge 40 = .ok (.ifCond .ne 5, 3) := by decide +kernel
theorem dX9_parseBridge_43 : decode cX9_parseBridge 43 = .ok (.iconst 0, 1) := by decide +kernel
theorem dX9_parseBridge_44 : decode cX9_parseBridge 44 = .ok (.ireturn, 1) := by decide +kernel
theorem dX9_parseBridge_45 : decode cX9_parseBridge 45 = .ok (.aload_n 0, 1) := by decide +kernel
theorem dX9_parseBridge_46 : decode cX9_parseBridge 46 = .ok (.getfield 18, 3) := by decide +kernel
theorem dX9_parseBridge_49 : decode cX9_parseBridge 49 = .ok (.getfield 112, 3) := by decide +kernel
theorem dX9_parseBridge_52 : decode cX9_parseBridge 52 = .ok (.iload_n 1, 1) := by decide +kernel
theorem dX9_parseBridge_53 : decode cX9_parseBridge 53 = .ok (.aload_n 0, 1) := by decide +kernel
theorem dX9_parseBridge_54 : decode cX9_parseBridge 54 = .ok (.getfield 96, 3) := by decide +kernel
theorem dX9_parseBridge_57 : decode cX9_parseBridge 57 = .ok (.iastore, 1) := by decide +kernel
theorem dX9_parseBridge_58 : decode cX9_parseBridge 58 = .ok (.aload_n 0, 1) := by decide +kernel
theorem dX9_parseBridge_59 : decode cX9_parseBridge 59 = .ok (.ldc 114, 2) := by decide +kernel
theorem dX9_parseBridge_61 : decode cX9_parseBridge 61 = .ok (.invokevirtual 53, 3) := by decide +kernel
theorem dX9_parseBridge_64 : decode cX9_parseBridge 64 = .ok (.ifCond .eq 13, 3) := by decide +kernel
theorem dX9_parseBridge_67 : decode cX9_parseBridge 67 = .ok (.aload_n 0, 1) := by decide +kernel
theorem dX9_parseBridge_68 : decode cX9_parseBridge 68 = .ok (.iconst 0, 1) := by decide +kernel
theorem dX9_parseBridge_69 : decode cX9_parseBridge 69 = .ok (.bipush 9, 2) := by decide +kernel
theorem dX9_parseBridge_71 : decode cX9_parseBridge 71 = .ok (.invokevirtual 92, 3) := by decide +kernel
theorem dX9_parseBridge_74 : decode cX9_parseBridge 74 = .ok (.ifCond .ne 5, 3) := by decide +kernel
theorem dX9_parseBridge_77 : decode cX9_parseBridge 77 = .ok (.iconst 0, 1) := by decide +kernel
theorem dX9_parseBridge_78 : decode cX9_parseBridge 78 = .ok (.ireturn, 1) := by decide +kernel
theorem dX9_parseBridge_79 : decode cX9_parseBridge 79 = .ok (.aload_n 0, 1) := by decide +kernel
theorem dX9_parseBridge_80 : decode cX9_parseBridge 80 = .ok (.getfield 18, 3) := by decide +kernel
theorem dX9_parseBridge_83 : decode cX9_parseBridge 83 = .ok (.getfield 116, 3) := by decide +kernel
theorem dX9_parseBridge_86 : decode cX9_parseBridge 86 = .ok (.iload_n 1, 1) := by decide +kernel
theorem dX9_parseBridge_87 : decode cX9_parseBridge 87 = .ok (.aload_n 0, 1) := by decide +kernel
theorem dX9_parseBridge_88 : decode cX9_parseBridge 88 = .ok (.getfield 96, 3) := by decide +kernel
theorem dX9_parseBridge_91 : decode cX9_parseBridge 91 = .ok (.iastore, 1) := by decide +kernel
theorem dX9_parseBridge_92 : decode cX9_parseBridge 92 = .ok (.aload_n 0, 1) := by decide +kernel
theorem dX9_parseBridge_93 : decode cX9_parseBridge 93 = .ok (.getfield 18, 3) := by decide +kernel
theorem dX9_parseBridge_96 : decode cX9_parseBridge 96 = .ok (.dup, 1) := by decide +kernel
theorem dX9_parseBridge_97 : decode cX9_parseBridge 97 = .ok (.getfield 107, 3) := by decide +kernel
theorem dX9_parseBridge_100 : decode cX9_parseBridge 100 = .ok (.iconst 1, 1) := by decide +kernel
theorem dX9_parseBridge_101 : decode cX9_parseBridge 101 = .ok (.iadd, 1) := by decide +kernel
theorem dX9_parseBridge_102 : decode cX9_parseBridge 102 = .ok (.putfield 107, 3) := by decide +kernel
theorem dX9_parseBridge_105 : decode cX9_parseBridge 105 = .ok (.iconst 1, 1) := by decide +kernel
theorem dX9_parseBridge_106 : decode cX9_parseBridge 106 = .ok (.ireturn, 1) := by decide +kernel
theorem dX9_parseCart_0 : decode cX9_parseCart 0 = .ok (.aload_n 0, 1) := by decide +kernel
theorem dX9_parseCart_1 : decode cX9_parseCart 1 = .ok (.getfield 18, 3) := by decide +kernel
theorem dX9_parseCart_4 : decode cX9_parseCart 4 = .ok (.getfield 119, 3) := by decide +kernel
theorem dX9_parseCart_7 : decode cX9_parseCart 7 = .ok (.istore_n 1, 1) := by decide +kernel
theorem dX9_parseCart_8 : decode cX9_parseCart 8 = .ok (.iload_n 1, 1) := by decide +kernel
theorem dX9_parseCart_9 : decode cX9_parseCart 9 = .ok (.bipush 7, 2) := by decide +kernel
theorem dX9_parseCart_11 : decode cX9_parseCart 11 = .ok (.if_icmp .lt 9, 3) := by decide +kernel
theorem dX9_parseCart_14 : decode cX9_parseCart 14 = .ok (.aload_n 0, 1) := by decide +kernel
theorem dX9_parseCart_15 : decode cX9_parseCart 15 = .ok (.iconst 3, 1) := by decide +kernel
theorem dX9_parseCart_16 : decode cX9_parseCart 16 = .ok (.invokevirtual 86, 3) := by decide +kernel
theorem dX9_parseCart_19 : decode cX9_parseCart 19 = .ok (.ireturn, 1) := by decide +kernel
theorem dX9_parseCart_20 : decode cX9_parseCart 20 = .ok (.aload_n 0, 1) := by decide +kernel
theorem dX9_parseCart_21 : decode cX9_parseCart 21 = .ok (.invokevirtual 38, 3) := by decide +kernel
theorem dX9_parseCart_24 : decode cX9_parseCart 24 = .ok (.aload_n 0, 1) := by decide +kernel
theorem dX9_parseCart_25 : decode cX9_parseCart 25 = .ok (.iconst 1, 1) := by decide +kernel
theorem dX9_parseCart_26 : decode cX9_parseCart 26 = .ok (.bipush 99, 2) := by decide +kernel
theorem dX9_parseCart_28 : decode cX9_parseCart 28 = .ok (.invokevirtual 92, 3) := by decide +kernel
theorem dX9_parseCart_31 : decode cX9_parseCart 31 = .ok (.ifCond .ne 5, 3) := by decide +kernel
theorem dX9_parseCart_34 : decode cX9_parseCart 34 = .ok (.iconst 0, 1) := by decide +kernel
theorem dX9_parseCart_35 : decode cX9_parseCart 35 = .ok (.ireturn, 1) := by decide +kernel
theorem dX9_parseCart_36 : decode cX9_parseCart 36 = .ok (.aload_n 0, 1) := by decide +kernel
theorem dX9_parseCart_37 : decode cX9_parseCart 37 = .ok (.getfield 18, 3) := by decide +kernel
theorem dX9_parseCart_40 : decode cX9_parseCart 40 = .ok (.getfield 122, 3) := by decide +kernel
theorem dX9_parseCart_43 : decode cX9_parseCart 43 = .ok (.iload_n 1, 1) := by decide +kernel
theorem dX9_parseCart_44 : decode cX9_parseCart 44 = .ok (.aload_n 0, 1) := by decide +kernel
theorem dX9_parseCart_45 : decode cX9_parseCart 45 = .ok (.getfield 96, 3) := by decide +kernel
theorem dX9_parseCart_48 : decode cX9_parseCart 48 = .ok (.iastore, 1) := by decide +kernel
theorem dX9_parseCart_49 : decode cX9_parseCart 49 = .ok (.aload_n 0, 1) := by decide +kernel
theorem dX9_parseCart_50 : decode cX9_parseCart 50 = .ok (.ldc 125, 2) := by decide +kernel
theorem dX9_parseCart_52 : decode cX9_parseCart 52 = .ok (.invokevirtual 53, 3) := by decide +kernel
theorem dX9_parseCart_55 : decode cX9_parseCart 55 = .ok (.ifCond .eq 20, 3) := by decide +kernel
theorem dX9_parseCart_58 : decode cX9_parseCart 58 = .ok (.aload_n 0, 1) := by decide +kernel
theorem dX9_parseCart_59 : decode cX9_parseCart 59 = .ok (.iconst 0, 1) := by decide +kernel
theorem dX9_parseCart_60 : decode cX9_parseCart 60 = .ok (.aload_n 0, 1) := by decide +kernel
theorem dX9_parseCart_61 : decode cX9_parseCart 61 = .ok (.getfield 18, 3) := by decide +kernel
theorem dX9_parseCart_64 : decode cX9_parseCart 64 = .ok (.getfield 107, 3) := by decide +kernel
theorem dX9_parseCart_67 : decode cX9_parseCart 67 = .ok (.iconst 1, 1) := by decide +kernel
theorem dX9_parseCart_68 : decode cX9_parseCart 68 = .ok (.isub, 1) := by decide +kernel
theorem dX9_parseCart_69 : decode cX9_parseCart 69 = .ok (.invokevirtual 92, 3) := by decide +kernel
theorem dX9_parseCart_72 : decode cX9_parseCart 72 = .ok (.ifCond .ne 5, 3) := by decide +kernel
theorem dX9_parseCart_75 : decode cX9_parseCart 75 = .ok (.iconst 0, 1) := by decide +kernel
theorem dX9_parseCart_76 : decode cX9_parseCart 76 = .ok (.ireturn, 1) := by decide +kernel
theorem dX9_parseCart_77 : decode cX9_parseCart 77 = .ok (.aload_n 0, 1) := by decide +kernel
theorem dX9_parseCart_78 : decode cX9_parseCart 78 = .ok (.getfield 18, 3) := by decide +kernel
theorem dX9_parseCart_81 : decode cX9_parseCart 81 = .ok (.getfield 127, 3) := by decide +kernel
theorem dX9_parseCart_84 : decode cX9_parseCart 84 = .ok (.iload_n 1, 1) := by decide +kernel
theorem dX9_parseCart_85 : decode cX9_parseCart 85 = .ok (.aload_n 0, 1) := by decide +kernel
theorem dX9_parseCart_86 : decode cX9_parseCart 86 = .ok (.getfield 96, 3) := by decide +kernel
theorem dX9_parseCart_89 : decode cX9_parseCart 89 = .ok (.iastore, 1) := by decide +kernel
theorem dX9_parseCart_90 : decode cX9_parseCart 90 = .ok (.aload_n 0, 1) := by decide +kernel
theorem dX9_parseCart_91 : decode cX9_parseCart 91 = .ok (.getfield 18, 3) := by decide +kernel
theorem dX9_parseCart_94 : decode cX9_parseCart 94 = .ok (.dup, 1) := by decide +kernel
theorem dX9_parseCart_95 : decode cX9_parseCart 95 = .ok (.getfield 119, 3) := by decide +kernel
theorem dX9_parseCart_98 : decode cX9_parseCart 98 = .ok (.iconst 1, 1) := by decide +kernel
theorem dX9_parseCart_99 : decode cX9_parseCart 99 = .ok (.iadd, 1) := by decide +kernel
theorem dX9_parseCart_100 : decode cX9_parseCart 100 = .ok (.putfield 119, 3) := by decide +kernel
theorem dX9_parseCart_103 : decode cX9_parseCart 103 = .ok (.iconst 1, 1) := by decide +kernel
theorem dX9_parseCart_104 : decode cX9_parseCart 104 = .ok (.ireturn, 1) := by decide +kernel
theorem dX9_parseFrost_0 : decode cX9_parseFrost 0 = .ok (.aload_n 0, 1) := by decide +kernel
theorem dX9_parseFrost_1 : decode cX9_parseFrost 1 = .ok (.getfield 18, 3) := by decide +kernel
theorem dX9_parseFrost_4 : decode cX9_parseFrost 4 = .ok (.getfield 154, 3) := by decide +kernel
theorem dX9_parseFrost_7 : decode cX9_parseFrost 7 = .ok (.iconst 4, 1) := by decide +kernel
theorem dX9_parseFrost_8 : decode cX9_parseFrost 8 = .ok (.if_icmp .lt 9, 3) := by decide +kernel
theorem dX9_parseFrost_11 : decode cX9_parseFrost 11 = .ok (.aload_n 0, 1) := by decide +kernel
theorem dX9_parseFrost_12 : decode cX9_parseFrost 12 = .ok (.iconst 3, 1) := by decide +kernel
theorem dX9_parseFrost_13 : decode cX9_parseFrost 13 = .ok (.invokevirtual 86, 3) := by decide +kernel
theorem dX9_parseFrost_16 : decode cX9_parseFrost 16 = .ok (.ireturn, 1) := by decide +kernel
theorem dX9_parseFrost_17 : decode cX9_parseFrost 17 = .ok (.aload_n 0, 1) := by decide +kernel
theorem dX9_parseFrost_18 : decode cX9_parseFrost 18 = .ok (.invokevirtual 38, 3) := by decide +kernel
theorem dX9_parseFrost_21 : decode cX9_parseFrost 21 = .ok (.aload_n 0, 1) := by decide +kernel
theorem dX9_parseFrost_22 : decode cX9_parseFrost 22 = .ok (.ldc 157, 2) := by decide +kernel
theorem dX9_parseFrost_24 : decode cX9_parseFrost 24 = .ok (.invokevirtual 53, 3) := by decide +kernel
theorem dX9_parseFrost_27 : decode cX9_parseFrost 27 = .ok (.ifCond .eq 13, 3) := by decide +kernel
theorem dX9_parseFrost_30 : decode cX9_parseFrost 30 = .ok (.aload_n 0, 1) := by decide +kernel
theorem dX9_parseFrost_31 : decode cX9_parseFrost 31 = .ok (.iconst 0, 1) := by decide +kernel
theorem dX9_parseFrost_32 : decode cX9_parseFrost 32 = .ok (.bipush 6, 2) := by decide +kernel
theorem dX9_parseFrost_34 : decode cX9_parseFrost 34 = .ok (.invokevirtual 92, 3) := by decide +kernel
theorem dX9_parseFrost_37 : decode cX9_parseFrost 37 = .ok (.ifCond .ne 5, 3) := by decide +kernel
theorem dX9_parseFrost_40 : decode cX9_parseFrost 40 = .ok (.iconst 0, 1) := by decide +kernel
theorem dX9_parseFrost_41 : decode cX9_parseFrost 41 = .ok (.ireturn, 1) := by decide +kernel
theorem dX9_parseFrost_42 : decode cX9_parseFrost 42 = .ok (.aload_n 0, 1) := by decide +kernel
theorem dX9_parseFrost_43 : decode cX9_parseFrost 43 = .ok (.getfield 18, 3) := by decide +kernel
theorem dX9_parseFrost_46 : decode cX9_parseFrost 46 = .ok (.dup, 1) := by decide +kernel
theorem dX9_parseFrost_47 : decode cX9_parseFrost 47 = .ok (.getfield 158, 3) := by decide +kernel
theorem dX9_parseFrost_50 : decode cX9_parseFrost 50 = .ok (.iconst 1, 1) := by decide +kernel
theorem dX9_parseFrost_51 : decode cX9_parseFrost 51 = .ok (.aload_n 0, 1) := by decide +kernel
theorem dX9_parseFrost_52 : decode cX9_parseFrost 52 = .ok (.getfield 96, 3) := by decide +kernel
theorem dX9_parseFrost_55 : decode cX9_parseFrost 55 = .ok (.ishl, 1) := by decide +kernel
theorem dX9_parseFrost_56 : decode cX9_parseFrost 56 = .ok (.ior, 1) := by decide +kernel
theorem dX9_parseFrost_57 : decode cX9_parseFrost 57 = .ok (.putfield 158, 3) := by decide +kernel
theorem dX9_parseFrost_60 : decode cX9_parseFrost 60 = .ok (.aload_n 0, 1) := by decide +kernel
theorem dX9_parseFrost_61 : decode cX9_parseFrost 61 = .ok (.getfield 18, 3) := by decide +kernel
theorem dX9_parseFrost_64 : decode cX9_parseFrost 64 = .ok (.dup, 1) := by decide +kernel
theorem dX9_parseFrost_65 : decode cX9_parseFrost 65 = .ok (.getfield 154, 3) := by decide +kernel
theorem dX9_parseFrost_68 : decode cX9_parseFrost 68 = .ok (.iconst 1, 1) := by decide +kernel
theorem dX9_parseFrost_69 : decode cX9_parseFrost 69 = .ok (.iadd, 1) := by decide +kernel
theorem dX9_parseFrost_70 : decode cX9_parseFrost 70 = .ok (.putfield 154, 3) := by decide +kernel
theorem dX9_parseFrost_73 : decode cX9_parseFrost 73 = .ok (.iconst 1, 1) := by decide +kernel
theorem dX9_parseFrost_74 : decode cX9_parseFrost 74 = .ok (.ireturn, 1) := by decide +kernel
theorem dX9_parseLine_0 : decode cX9_parseLine 0 = .ok (.aload_n 0, 1) := by decide +kernel
theorem dX9_parseLine_1 : decode cX9_parseLine 1 = .ok (.getfield 18, 3) := by decide +kernel
theorem dX9_parseLine_4 : decode cX9_parseLine 4 = .ok (.getfield 48, 3) := by decide +kernel
theorem dX9_parseLine_7 : decode cX9_parseLine 7 = .ok (.ifCond .ne 32, 3) := by decide +kernel
theorem dX9_parseLine_10 : decode cX9_parseLine 10 = .ok (.aload_n 0, 1) := by decide +kernel
theorem dX9_parseLine_11 : decode cX9_parseLine 11 = .ok (.ldc 51, 2) := by decide +kernel
theorem dX9_parseLine_13 : decode cX9_parseLine 13 = .ok (.invokevirtual 53, 3) := by decide +kernel
theorem dX9_parseLine_16 : decode cX9_parseLine 16 = .ok (.ifCond .eq 21, 3) := by decide +kernel
theorem dX9_parseLine_19 : decode cX9_parseLine 19 = .ok (.aload_n 0, 1) := by decide +kernel
theorem dX9_parseLine_20 : decode cX9_parseLine 20 = .ok (.invokevirtual 57, 3) := by decide +kernel
theorem dX9_parseLine_23 : decode cX9_parseLine 23 = .ok (.ifCond .eq 14, 3) := by decide +kernel
theorem dX9_parseLine_26 : decode cX9_parseLine 26 = .ok (.aload_n 0, 1) := by decide +kernel
theorem dX9_parseLine_27 : decode cX9_parseLine 27 = .ok (.invokevirtual 60, 3) := by decide +kernel
theorem dX9_parseLine_30 : decode cX9_parseLine 30 = .ok (.ifCond .eq 7, 3) := by decide +kernel
theorem dX9_parseLine_33 : decode cX9_parseLine 33 = .ok (.iconst 1, 1) := by decide +kernel
theorem dX9_parseLine_34 : decode cX9_parseLine 34 = .ok (.goto 4, 3) := by decide +kernel
theorem dX9_parseLine_37 : decode cX9_parseLine 37 = .ok (.iconst 0, 1) := by decide +kernel
theorem dX9_parseLine_38 : decode cX9_parseLine 38 = .ok (.ireturn, 1) := by decide +kernel
theorem dX9_parseLine_39 : decode cX9_parseLine 39 = .ok (.aload_n 0, 1) := by decide +kernel
theorem dX9_parseLine_40 : decode cX9_parseLine 40 = .ok (.ldc 63, 2) := by decide +kernel
theorem dX9_parseLine_42 : decode cX9_parseLine 42 = .ok (.invokevirtual 65, 3) := by decide +kernel
theorem dX9_parseLine_45 : decode cX9_parseLine 45 = .ok (.ifCond .eq 23, 3) := by decide +kernel
theorem dX9_parseLine_48 : decode cX9_parseLine 48 = .ok (.aload_n 0, 1) := by decide +kernel
theorem dX9_parseLine_49 : decode cX9_parseLine 49 = .ok (.invokevirtual 68, 3) := by decide +kernel
theorem dX9_parseLine_52 : decode cX9_parseLine 52 = .ok (.ifCond .eq 14, 3) := by decide +kernel
theorem dX9_parseLine_55 : decode cX9_parseLine 55 = .ok (.aload_n 0, 1) := by decide +kernel
theorem dX9_parseLine_56 : decode cX9_parseLine 56 = .ok (.invokevirtual 60, 3) := by decide +kernel
theorem dX9_parseLine_59 : decode cX9_parseLine 59 = .ok (.ifCond .eq 7, 3) := by decide +kernel
theorem dX9_parseLine_62 : decode cX9_parseLine 62 = .ok (.iconst 1, 1) := by decide +kernel
theorem dX9_parseLine_63 : decode cX9_parseLine 63 = .ok (.goto 4, 3) := by decide +kernel
theorem dX9_parseLine_66 : decode cX9_parseLine 66 = .ok (.iconst 0, 1) := by decide +kernel
theorem dX9_parseLine_67 : decode cX9_parseLine 67 = .ok (.ireturn, 1) := by decide +kernel
theorem dX9_parseLine_68 : decode cX9_parseLine 68 = .ok (.aload_n 0, 1) := by decide +kernel
theorem dX9_parseLine_69 : decode cX9_parseLine 69 = .ok (.ldc 71, 2) := by decide +kernel
theorem dX9_parseLine_71 : decode cX9_parseLine 71 = .ok (.invokevirtual 65, 3) := by decide +kernel
theorem dX9_parseLine_74 : decode cX9_parseLine 74 = .ok (.ifCond .eq 23, 3) := by decide +kernel
theorem dX9_parseLine_77 : decode cX9_parseLine 77 = .ok (.aload_n 0, 1) := by decide +kernel
theorem dX9_parseLine_78 : decode cX9_parseLine 78 = .ok (.invokevirtual 73, 3) := by decide +kernel
theorem dX9_parseLine_81 : decode cX9_parseLine 81 = .ok (.ifCond .eq 14, 3) := by decide +kernel
theorem dX9_parseLine_84 : decode cX9_parseLine 84 = .ok (.aload_n 0, 1) := by decide +kernel
theorem dX9_parseLine_85 : decode cX9_parseLine 85 = .ok (.invokevirtual 60, 3) := by decide +kernel
theorem dX9_parseLine_88 : decode cX9_parseLine 88 = .ok (.ifCond .eq 7, 3) := by decide +kernel
theorem dX9_parseLine_91 : decode cX9_parseLine 91 = .ok (.iconst 1, 1) := by decide +kernel
theorem dX9_parseLine_92 : decode cX9_parseLine 92 = .ok (.goto 4, 3) := by decide +kernel
theorem dX9_parseLine_95 : decode cX9_parseLine 95 = .ok (.iconst 0, 1) := by decide +kernel
theorem dX9_parseLine_96 : decode cX9_parseLine 96 = .ok (.ireturn, 1) := by decide +kernel
theorem dX9_parseLine_97 : decode cX9_parseLine 97 = .ok (.aload_n 0, 1) := by decide +kernel
theorem dX9_parseLine_98 : decode cX9_parseLine 98 = .ok (.ldc 76, 2) := by decide +kernel
theorem dX9_parseLine_100 : decode cX9_parseLine 100 = .ok (.invokevirtual 65, 3) := by decide +kernel
theorem dX9_parseLine_103 : decode cX9_parseLine 103 = .ok (.ifCond .eq 23, 3) := by decide +kernel
theorem dX9_parseLine_106 : decode cX9_parseLine 106 = .ok (.aload_n 0, 1) := by decide +kernel
theorem dX9_parseLine_107 : decode cX9_parseLine 107 = .ok (.invokevirtual 78, 3) := by decide +kernel
theorem dX9_parseLine_110 : decode cX9_parseLine 110 = .ok (.ifCond .eq 14, 3) := by decide +kernel
theorem dX9_parseLine_113 : decode cX9_parseLine 113 = .ok (.aload_n 0, 1) := by decide +kernel
theorem dX9_parseLine_114 : decode cX9_parseLine 114 = .ok (.invokevirtual 60, 3) := by decide +kernel
theorem dX9_parseLine_117 : decode cX9_parseLine 117 = .ok (.ifCond .eq 7, 3) := by decide +kernel
theorem dX9_parseLine_120 : decode cX9_parseLine 120 = .ok (.iconst 1, 1) := by decide +kernel
theorem dX9_parseLine_121 : decode cX9_parseLine 121 = .ok (.goto 4, 3) := by decide +kernel
theorem dX9_parseLine_124 : decode cX9_parseLine 124 = .ok (.iconst 0, 1) := by decide +kernel
theorem dX9_parseLine_125 : decode cX9_parseLine 125 = .ok (.ireturn, 1) := by decide +kernel
theorem dX9_parseLine_126 : decode cX9_parseLine 126 = .ok (.aload_n 0, 1) := by decide +kernel
theorem dX9_parseLine_127 : decode cX9_parseLine 127 = .ok (.ldc 81, 2) := by decide +kernel
theorem dX9_parseLine_129 : decode cX9_parseLine 129 = .ok (.invokevirtual 65, 3) := by decide +kernel
theorem dX9_parseLine_132 : decode cX9_parseLine 132 = .ok (.ifCond .eq 23, 3) := by decide +kernel
theorem dX9_parseLine_135 : decode cX9_parseLine 135 = .ok (.aload_n 0, 1) := by decide +kernel
theorem dX9_parseLine_136 : decode cX9_parseLine 136 = .ok (.invokevirtual 83, 3) := by decide +kernel
theorem dX9_parseLine_139 : decode cX9_parseLine 139 = .ok (.ifCond .eq 14, 3) := by decide +kernel
theorem dX9_parseLine_142 : decode cX9_parseLine 142 = .ok (.aload_n 0, 1) := by decide +kernel
theorem dX9_parseLine_143 : decode cX9_parseLine 143 = .ok (.invokevirtual 60, 3) := by decide +kernel
theorem dX9_parseLine_146 : decode cX9_parseLine 146 = .ok (.ifCond .eq 7, 3) := by decide +kernel
theorem dX9_parseLine_149 : decode cX9_parseLine 149 = .ok (.iconst 1, 1) := by decide +kernel
theorem dX9_parseLine_150 : decode cX9_parseLine 150 = .ok (.goto 4, 3) := by decide +kernel
theorem dX9_parseLine_153 : decode cX9_parseLine 153 = .ok (.iconst 0, 1) := by decide +kernel
theorem dX9_parseLine_154 : decode cX9_parseLine 154 = .ok (.ireturn, 1) := by decide +kernel
theorem dX9_parseLine_155 : decode cX9_parseLine 155 = .ok (.aload_n 0, 1) := by decide +kernel
theorem dX9_parseLine_156 : decode cX9_parseLine 156 = .ok (.iconst 1, 1) := by decide +kernel
theorem dX9_parseLine_157 : decode cX9_parseLine 157 = .ok (.invokevirtual 86, 3) := by decide +kernel
theorem dX9_parseLine_160 : decode cX9_parseLine 160 = .ok (.ireturn, 1) := by decide +kernel
theorem dX9_parseValley_0 : decode cX9_parseValley 0 = .ok (.aload_n 0, 1) := by decide +kernel
theorem dX9_parseValley_1 : decode cX9_parseValley 1 = .ok (.ldc 90, 2) := by decide +kernel
theorem dX9_parseValley_3 : decode cX9_parseValley 3 = .ok (.invokevirtual 53, 3) := by decide +kernel
theorem dX9_parseValley_6 : decode cX9_parseValley 6 = .ok (.ifCond .eq 12, 3) := by decide +kernel
theorem dX9_parseValley_9 : decode cX9_parseValley 9 = .ok (.aload_n 0, 1) := by decide +kernel
theorem dX9_parseValley_10 : decode cX9_parseValley 10 = .ok (.iconst 0, 1) := by decide +kernel
theorem dX9_parseValley_11 : decode cX9_parseValley 11 = .ok (.iconst 3, 1) := by decide +kernel
theorem dX9_parseValley_12 : decode cX9_parseValley 12 = .ok (.invokevirtual 92, 3) := by decide +kernel
theorem dX9_parseValley_15 : decode cX9_parseValley 15 = .ok (.ifCond .ne 5, 3) := by decide +kernel
theorem dX9_parseValley_18 : decode cX9_parseValley 18 = .ok (.iconst 0, 1) := by decide +kernel
theorem dX9_parseValley_19 : decode cX9_parseValley 19 = .ok (.ireturn, 1) := by decide +kernel
theorem dX9_parseValley_20 : decode cX9_parseValley 20 = .ok (.aload_n 0, 1) := by decide +kernel
theorem dX9_parseValley_21 : decode cX9_parseValley 21 = .ok (.getfield 18, 3) := by decide +kernel
theorem dX9_parseValley_24 : decode cX9_parseValley 24 = .ok (.aload_n 0, 1) := by decide +kernel
theorem dX9_parseValley_25 : decode cX9_parseValley 25 = .ok (.getfield 96, 3) := by decide +kernel
theorem dX9_parseValley_28 : decode cX9_parseValley 28 = .ok (.putfield 99, 3) := by decide +kernel
theorem dX9_parseValley_31 : decode cX9_parseValley 31 = .ok (.aload_n 0, 1) := by decide +kernel
theorem dX9_parseValley_32 : decode cX9_parseValley 32 = .ok (.ldc 81, 2) := by decide +kernel
theorem dX9_parseValley_34 : decode cX9_parseValley 34 = .ok (.invokevirtual 53, 3) := by decide +kernel
theorem dX9_parseValley_37 : decode cX9_parseValley 37 = .ok (.ifCond .eq 13, 3) := by decide +kernel
theorem dX9_parseValley_40 : decode cX9_parseValley 40 = .ok (.aload_n 0, 1) := by decide +kernel
theorem dX9_parseValley_41 : decode cX9_parseValley 41 = .ok (.iconst 1, 1) := by decide +kernel
theorem dX9_parseValley_42 : decode cX9_parseValley 42 = .ok (.bipush 50, 2) := by decide +kernel
theorem dX9_parseValley_44 : decode cX9_parseValley 44 = .ok (.invokevirtual 92, 3) := by decide +kernel
theorem dX9_parseValley_47 : decode cX9_parseValley 47 = .ok (.ifCond .ne 5, 3) := by decide +kernel
theorem dX9_parseValley_50 : decode cX9_parseValley 50 = .ok (.iconst 0, 1) := by decide +kernel
theorem dX9_parseValley_51 : decode cX9_parseValley 51 = .ok (.ireturn, 1) := by decide +kernel
theorem dX9_parseValley_52 : decode cX9_parseValley 52 = .ok (.aload_n 0, 1) := by decide +kernel
theorem dX9_parseValley_53 : decode cX9_parseValley 53 = .ok (.getfield 18, 3) := by decide +kernel
theorem dX9_parseValley_56 : decode cX9_parseValley 56 = .ok (.aload_n 0, 1) := by decide +kernel
theorem dX9_parseValley_57 : decode cX9_parseValley 57 = .ok (.getfield 96, 3) := by decide +kernel
theorem dX9_parseValley_60 : decode cX9_parseValley 60 = .ok (.putfield 101, 3) := by decide +kernel
theorem dX9_parseValley_63 : decode cX9_parseValley 63 = .ok (.aload_n 0, 1) := by decide +kernel
theorem dX9_parseValley_64 : decode cX9_parseValley 64 = .ok (.ldc 103, 2) := by decide +kernel
theorem dX9_parseValley_66 : decode cX9_parseValley 66 = .ok (.invokevirtual 53, 3) := by decide +kernel
theorem dX9_parseValley_69 : decode cX9_parseValley 69 = .ok (.ifCond .eq 13, 3) := by decide +kernel
theorem dX9_parseValley_72 : decode cX9_parseValley 72 = .ok (.aload_n 0, 1) := by decide +kernel
theorem dX9_parseValley_73 : decode cX9_parseValley 73 = .ok (.iconst 0, 1) := by decide +kernel
theorem dX9_parseValley_74 : decode cX9_parseValley 74 = .ok (.bipush 10, 2) := by decide +kernel
theorem dX9_parseValley_76 : decode cX9_parseValley 76 = .ok (.invokevirtual 92, 3) := by decide +kernel
theorem dX9_parseValley_79 : decode cX9_parseValley 79 = .ok (.ifCond .ne 5, 3) := by decide +kernel
theorem dX9_parseValley_82 : decode cX9_parseValley 82 = .ok (.iconst 0, 1) := by decide +kernel
theorem dX9_parseValley_83 : decode cX9_parseValley 83 = .ok (.ireturn, 1) := by decide +kernel
theorem dX9_parseValley_84 : decode cX9_parseValley 84 = .ok (.aload_n 0, 1) := by decide +kernel
theorem dX9_parseValley_85 : decode cX9_parseValley 85 = .ok (.getfield 18, 3) := by decide +kernel
theorem dX9_parseValley_88 : decode cX9_parseValley 88 = .ok (.aload_n 0, 1) := by decide +kernel
theorem dX9_parseValley_89 : decode cX9_parseValley 89 = .ok (.getfield 96, 3) := by decide +kernel
theorem dX9_parseValley_92 : decode cX9_parseValley 92 = .ok (.putfield 105, 3) := by decide +kernel
theorem dX9_parseValley_95 : decode cX9_parseValley 95 = .ok (.iconst 1, 1) := by decide +kernel
theorem dX9_parseValley_96 : decode cX9_parseValley 96 = .ok (.ireturn, 1) := by decide +kernel
theorem dX9_parseWard_0 : decode cX9_parseWard 0 = .ok (.aload_n 0, 1) := by decide +kernel
theorem dX9_parseWard_1 : decode cX9_parseWard 1 = .ok (.getfield 18, 3) := by decide +kernel
theorem dX9_parseWard_4 : decode cX9_parseWard 4 = .ok (.getfield 130, 3) := by decide +kernel
theorem dX9_parseWard_7 : decode cX9_parseWard 7 = .ok (.istore_n 1, 1) := by decide +kernel
theorem dX9_parseWard_8 : decode cX9_parseWard 8 = .ok (.iload_n 1, 1) := by decide +kernel
theorem dX9_parseWard_9 : decode cX9_parseWard 9 = .ok (.iconst 5, 1) := by decide +kernel
theorem dX9_parseWard_10 : decode cX9_parseWard 10 = .ok (.if_icmp .lt 9, 3) := by decide +kernel
theorem dX9_parseWard_13 : decode cX9_parseWard 13 = .ok (.aload_n 0, 1) := by decide +kernel
theorem dX9_parseWard_14 : decode cX9_parseWard 14 = .ok (.iconst 3, 1) := by decide +kernel
theorem dX9_parseWard_15 : decode cX9_parseWard 15 = .ok (.invokevirtual 86, 3) := by decide +kernel
theorem dX9_parseWard_18 : decode cX9_parseWard 18 = .ok (.ireturn, 1) := by decide +kernel
theorem dX9_parseWard_19 : decode cX9_parseWard 19 = .ok (.aload_n 0, 1) := by decide +kernel
theorem dX9_parseWard_20 : decode cX9_parseWard 20 = .ok (.invokevirtual 38, 3) := by decide +kernel
theorem dX9_parseWard_23 : decode cX9_parseWard 23 = .ok (.aload_n 0, 1) := by decide +kernel
theorem dX9_parseWard_24 : decode cX9_parseWard 24 = .ok (.iconst 0, 1) := by decide +kernel
theorem dX9_parseWard_25 : decode cX9_parseWard 25 = .ok (.aload_n 0, 1) := by decide +kernel
theorem dX9_parseWard_26 : decode cX9_parseWard 26 = .ok (.getfield 18, 3) := by decide +kernel
theorem dX9_parseWard_29 : decode cX9_parseWard 29 = .ok (.getfield 107, 3) := by decide +kernel
theorem dX9_parseWard_32 : decode cX9_parseWard 32 = .ok (.iconst 1, 1) := by decide +kernel
theorem dX9_parseWard_33 : decode cX9_parseWard 33 = .ok (.isub, 1) := by decide +kernel
theorem dX9_parseWard_34 : decode cX9_parseWard 34 = .ok (.invokevirtual 92, 3) := by decide +kernel
theorem dX9_parseWard_37 : decode cX9_parseWard 37 = .ok (.ifCond .ne 5, 3) := by decide +kernel
theorem dX9_parseWard_40 : decode cX9_parseWard 40 = .ok (.iconst 0, 1) := by decide +kernel
theorem dX9_parseWard_41 : decode cX9_parseWard 41 = .ok (.ireturn, 1) := by decide +kernel
theorem dX9_parseWard_42 : decode cX9_parseWard 42 = .ok (.aload_n 0, 1) := by decide +kernel
theorem dX9_parseWard_43 : decode cX9_parseWard 43 = .ok (.getfield 18, 3) := by decide +kernel
theorem dX9_parseWard_46 : decode cX9_parseWard 46 = .ok (.getfield 133, 3) := by decide +kernel
theorem dX9_parseWard_49 : decode cX9_parseWard 49 = .ok (.iload_n 1, 1) := by decide +kernel
theorem dX9_parseWard_50 : decode cX9_parseWard 50 = .ok (.aload_n 0, 1) := by decide +kernel
theorem dX9_parseWard_51 : decode cX9_parseWard 51 = .ok (.getfield 96, 3) := by decide +kernel
theorem dX9_parseWard_54 : decode cX9_parseWard 54 = .ok (.iastore, 1) := by decide +kernel
theorem dX9_parseWard_55 : decode cX9_parseWard 55 = .ok (.aload_n 0, 1) := by decide +kernel
theorem dX9_parseWard_56 : decode cX9_parseWard 56 = .ok (.ldc 136, 2) := by decide +kernel
theorem dX9_parseWard_58 : decode cX9_parseWard 58 = .ok (.invokevirtual 53, 3) := by decide +kernel
theorem dX9_parseWard_61 : decode cX9_parseWard 61 = .ok (.ifCond .eq 13, 3) := by decide +kernel
theorem dX9_parseWard_64 : decode cX9_parseWard 64 = .ok (.aload_n 0, 1) := by decide +kernel
theorem dX9_parseWard_65 : decode cX9_parseWard 65 = .ok (.iconst 0, 1) := by decide +kernel
theorem dX9_parseWard_66 : decode cX9_parseWard 66 = .ok (.bipush 99, 2) := by decide +kernel
theorem dX9_parseWard_68 : decode cX9_parseWard 68 = .ok (.invokevirtual 92, 3) := by decide +kernel
theorem dX9_parseWard_71 : decode cX9_parseWard 71 = .ok (.ifCond .ne 5, 3) := by decide +kernel
theorem dX9_parseWard_74 : decode cX9_parseWard 74 = .ok (.iconst 0, 1) := by decide +kernel
theorem dX9_parseWard_75 : decode cX9_parseWard 75 = .ok (.ireturn, 1) := by decide +kernel
theorem dX9_parseWard_76 : decode cX9_parseWard 76 = .ok (.aload_n 0, 1) := by decide +kernel
theorem dX9_parseWard_77 : decode cX9_parseWard 77 = .ok (.getfield 18, 3) := by decide +kernel
theorem dX9_parseWard_80 : decode cX9_parseWard 80 = .ok (.getfield 138, 3) := by decide +kernel
theorem dX9_parseWard_83 : decode cX9_parseWard 83 = .ok (.iload_n 1, 1) := by decide +kernel
theorem dX9_parseWard_84 : decode cX9_parseWard 84 = .ok (.aload_n 0, 1) := by decide +kernel
theorem dX9_parseWard_85 : decode cX9_parseWard 85 = .ok (.getfield 96, 3) := by decide +kernel
theorem dX9_parseWard_88 : decode cX9_parseWard 88 = .ok (.iastore, 1) := by decide +kernel
theorem dX9_parseWard_89 : decode cX9_parseWard 89 = .ok (.aload_n 0, 1) := by decide +kernel
theorem dX9_parseWard_90 : decode cX9_parseWard 90 = .ok (.ldc 141, 2) := by decide +kernel
theorem dX9_parseWard_92 : decode cX9_parseWard 92 = .ok (.invokevirtual 53, 3) := by decide +kernel
theorem dX9_parseWard_95 : decode cX9_parseWard 95 = .ok (.ifCond .ne 5, 3) := by decide +kernel
theorem dX9_parseWard_98 : decode cX9_parseWard 98 = .ok (.iconst 0, 1) := by decide +kernel
theorem dX9_parseWard_99 : decode cX9_parseWard 99 = .ok (.ireturn, 1) := by decide +kernel
theorem dX9_parseWard_100 : decode cX9_parseWard 100 = .ok (.aload_n 0, 1) := by decide +kernel
theorem dX9_parseWard_101 : decode cX9_parseWard 101 = .ok (.ldc 143, 2) := by decide +kernel
theorem dX9_parseWard_103 : decode cX9_parseWard 103 = .ok (.invokevirtual 65, 3) := by decide +kernel
theorem dX9_parseWard_106 : decode cX9_parseWard 106 = .ok (.ifCond .eq 15, 3) := by decide +kernel
theorem dX9_parseWard_109 : decode cX9_parseWard 109 = .ok (.aload_n 0, 1) := by decide +kernel
theorem dX9_parseWard_110 : decode cX9_parseWard 110 = .ok (.iconst (-1), 1) := by decide +kernel
theorem dX9_parseWard_111 : decode cX9_parseWard 111 = .ok (.putfield 96, 3) := by decide +kernel
theorem dX9_parseWard_114 : decode cX9_parseWard 114 = .ok (.aload_n 0, 1) := by decide +kernel
theorem dX9_parseWard_115 : decode cX9_parseWard 115 = .ok (.invokevirtual 38, 3) := by decide +kernel
theorem dX9_parseWard_118 : decode cX9_parseWard 118 = .ok (.goto 38, 3) := by decide +kernel
theorem dX9_parseWard_121 : decode cX9_parseWard 121 = .ok (.aload_n 0, 1) := by decide +kernel
theorem dX9_parseWard_122 : decode cX9_parseWard 122 = .ok (.aload_n 0, 1) := by decide +kernel
theorem dX9_parseWard_123 : decode cX9_parseWard 123 = .ok (.getfield 18, 3) := by decide +kernel
theorem dX9_parseWard_126 : decode cX9_parseWard 126 = .ok (.getfield 133, 3) := by decide +kernel
theorem dX9_parseWard_129 : decode cX9_parseWard 129 = .ok (.iload_n 1, 1) := by decide +kernel
theorem dX9_parseWard_130 : decode cX9_parseWard 130 = .ok (.iaload, 1) := by decide +kernel
theorem dX9_parseWard_131 : decode cX9_parseWard 131 = .ok (.invokevirtual 145, 3) := by decide +kernel
theorem dX9_parseWard_134 : decode cX9_parseWard 134 = .ok (.ifCond .eq 20, 3) := by decide +kernel
theorem dX9_parseWard_137 : decode cX9_parseWard 137 = .ok (.aload_n 0, 1) := by decide +kernel
theorem dX9_parseWard_138 : decode cX9_parseWard 138 = .ok (.iconst 0, 1) := by decide +kernel
theorem dX9_parseWard_139 : decode cX9_parseWard 139 = .ok (.aload_n 0, 1) := by decide +kernel
theorem dX9_parseWard_140 : decode cX9_parseWard 140 = .ok (.getfield 18, 3) := by decide +kernel
theorem dX9_parseWard_143 : decode cX9_parseWard 143 = .ok (.getfield 107, 3) := by decide +kernel
theorem dX9_parseWard_146 : decode cX9_parseWard 146 = .ok (.iconst 1, 1) := by decide +kernel
theorem dX9_parseWard_147 : decode cX9_parseWard 147 = .ok (.isub, 1) := by decide +kernel
theorem dX9_parseWard_148 : decode cX9_parseWard 148 = .ok (.invokevirtual 92, 3) := by decide +kernel
theorem dX9_parseWard_151 : decode cX9_parseWard 151 = .ok (.ifCond .ne 5, 3) := by decide +kernel
theorem dX9_parseWard_154 : decode cX9_parseWard 154 = .ok (.iconst 0, 1) := by decide +kernel
theorem dX9_parseWard_155 : decode cX9_parseWard 155 = .ok (.ireturn, 1) := by decide +kernel
theorem dX9_parseWard_156 : decode cX9_parseWard 156 = .ok (.aload_n 0, 1) := by decide +kernel
theorem dX9_parseWard_157 : decode cX9_parseWard 157 = .ok (.getfield 18, 3) := by decide +kernel
theorem dX9_parseWard_160 : decode cX9_parseWard 160 = .ok (.getfield 148, 3) := by decide +kernel
theorem dX9_parseWard_163 : decode cX9_parseWard 163 = .ok (.iload_n 1, 1) := by decide +kernel
theorem dX9_parseWard_164 : decode cX9_parseWard 164 = .ok (.aload_n 0, 1) := by decide +kernel
theorem dX9_parseWard_165 : decode cX9_parseWard 165 = .ok (.getfield 96, 3) := by decide +kernel
theorem dX9_parseWard_168 : decode cX9_parseWard 168 = .ok (.iastore, 1) := by decide +kernel
theorem dX9_parseWard_169 : decode cX9_parseWard 169 = .ok (.aload_n 0, 1) := by decide +kernel
theorem dX9_parseWard_170 : decode cX9_parseWard 170 = .ok (.getfield 18, 3) := by decide +kernel
theorem dX9_parseWard_173 : decode cX9_parseWard 173 = .ok (.dup, 1) := by decide +kernel
theorem dX9_parseWard_174 : decode cX9_parseWard 174 = .ok (.getfield 130, 3) := by decide +kernel
theorem dX9_parseWard_177 : decode cX9_parseWard 177 = .ok (.iconst 1, 1) := by decide +kernel
theorem dX9_parseWard_178 : decode cX9_parseWard 178 = .ok (.iadd, 1) := by decide +kernel
theorem dX9_parseWard_179 : decode cX9_parseWard 179 = .ok (.putfield 130, 3) := by decide +kernel
theorem dX9_parseWard_182 : decode cX9_parseWard 182 = .ok (.iconst 1, 1) := by decide +kernel
theorem dX9_parseWard_183 : decode cX9_parseWard 183 = .ok (.ireturn, 1) := by decide +kernel
theorem dX9_put_0 : decode cX9_put 0 = .ok (.bipush 24, 2) := by decide +kernel
theorem dX9_put_2 : decode cX9_put 2 = .ok (.istore_n 2, 1) := by decide +kernel
theorem dX9_put_3 : decode cX9_put 3 = .ok (.iload_n 2, 1) := by decide +kernel
theorem dX9_put_4 : decode cX9_put 4 = .ok (.ifCond .lt 45, 3) := by decide +kernel
theorem dX9_put_7 : decode cX9_put 7 = .ok (.aload_n 0, 1) := by decide +kernel
theorem dX9_put_8 : decode cX9_put 8 = .ok (.getfield 26, 3) := by decide +kernel
theorem dX9_put_11 : decode cX9_put 11 = .ok (.sipush 700, 3) := by decide +kernel
theorem dX9_put_14 : decode cX9_put 14 = .ok (.if_icmp .ge 29, 3) := by decide +kernel
theorem dX9_put_17 : decode cX9_put 17 = .ok (.aload_n 0, 1) := by decide +kernel
theorem dX9_put_18 : decode cX9_put 18 = .ok (.getfield 9, 3) := by decide +kernel
theorem dX9_put_21 : decode cX9_put 21 = .ok (.aload_n 0, 1) := by decide +kernel
theorem dX9_put_22 : decode cX9_put 22 = .ok (.getfield 26, 3) := by decide +kernel
theorem dX9_put_25 : decode cX9_put 25 = .ok (.iload_n 1, 1) := by decide +kernel
theorem dX9_put_26 : decode cX9_put 26 = .ok (.iload_n 2, 1) := by decide +kernel
theorem dX9_put_27 : decode cX9_put 27 = .ok (.iushr, 1) := by decide +kernel
theorem dX9_put_28 : decode cX9_put 28 = .ok (.sipush 255, 3) := by decide +kernel
theorem dX9_put_31 : decode cX9_put 31 = .ok (.iand, 1) := by decide +kernel
theorem dX9_put_32 : decode cX9_put 32 = .ok (.iastore, 1) := by decide +kernel
theorem dX9_put_33 : decode cX9_put 33 = .ok (.aload_n 0, 1) := by decide +kernel
theorem dX9_put_34 : decode cX9_put 34 = .ok (.dup, 1) := by decide +kernel
theorem dX9_put_35 : decode cX9_put 35 = .ok (.getfield 26, 3) := by decide +kernel
theorem dX9_put_38 : decode cX9_put 38 = .ok (.iconst 1, 1) := by decide +kernel
theorem dX9_put_39 : decode cX9_put 39 = .ok (.iadd, 1) := by decide +kernel
theorem dX9_put_40 : decode cX9_put 40 = .ok (.putfield 26, 3) := by decide +kernel
theorem dX9_put_43 : decode cX9_put 43 = .ok (.iinc 2 (-8), 3) := by decide +kernel
theorem dX9_put_46 : decode cX9_put 46 = .ok (.goto (-43), 3) := by decide +kernel
theorem dX9_put_49 : decode cX9_put 49 = .ok (.return_, 1) := by decide +kernel
