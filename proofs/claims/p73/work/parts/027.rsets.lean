theorem dX5_add_0 : decode cX5_add 0 = .ok (.aload_n 0, 1) := by decide +kernel
theorem dX5_add_1 : decode cX5_add 1 = .ok (.getfield 55, 3) := by decide +kernel
theorem dX5_add_4 : decode cX5_add 4 = .ok (.ifCond .eq 17, 3) := by decide +kernel
theorem dX5_add_7 : decode cX5_add 7 = .ok (.iload_n 1, 1) := by decide +kernel
theorem dX5_add_8 : decode cX5_add 8 = .ok (.invokestatic 67, 3) := by decide +kernel
theorem dX5_add_11 : decode cX5_add 11 = .ok (.aload_n 0, 1) := by decide +kernel
theorem dX5_add_12 : decode cX5_add 12 = .ok (.getfield 64, 3) := by decide +kernel
theorem dX5_add_15 : decode cX5_add 15 = .ok (.invokestatic 67, 3) := by decide +kernel
theorem dX5_add_18 : decode cX5_add 18 = .ok (.if_icmp .ge 8, 3) := by decide +kernel
theorem dX5_add_21 : decode cX5_add 21 = .ok (.aload_n 0, 1) := by decide +kernel
theorem dX5_add_22 : decode cX5_add 22 = .ok (.iload_n 1, 1) := by decide +kernel
theorem dX5_add_23 : decode cX5_add 23 = .ok (.putfield 64, 3) := by decide +kernel
theorem dX5_add_26 : decode cX5_add 26 = .ok (.aload_n 0, 1) := by decide +kernel
theorem dX5_add_27 : decode cX5_add 27 = .ok (.dup, 1) := by decide +kernel
theorem dX5_add_28 : decode cX5_add 28 = .ok (.getfield 55, 3) := by decide +kernel
theorem dX5_add_31 : decode cX5_add 31 = .ok (.iconst 1, 1) := by decide +kernel
theorem dX5_add_32 : decode cX5_add 32 = .ok (.iadd, 1) := by decide +kernel
theorem dX5_add_33 : decode cX5_add 33 = .ok (.putfield 55, 3) := by decide +kernel
theorem dX5_add_36 : decode cX5_add 36 = .ok (.aload_n 0, 1) := by decide +kernel
theorem dX5_add_37 : decode cX5_add 37 = .ok (.dup, 1) := by decide +kernel
theorem dX5_add_38 : decode cX5_add 38 = .ok (.getfield 58, 3) := by decide +kernel
theorem dX5_add_41 : decode cX5_add 41 = .ok (.iload_n 1, 1) := by decide +kernel
theorem dX5_add_42 : decode cX5_add 42 = .ok (.iand, 1) := by decide +kernel
theorem dX5_add_43 : decode cX5_add 43 = .ok (.putfield 58, 3) := by decide +kernel
theorem dX5_add_46 : decode cX5_add 46 = .ok (.aload_n 0, 1) := by decide +kernel
theorem dX5_add_47 : decode cX5_add 47 = .ok (.dup, 1) := by decide +kernel
theorem dX5_add_48 : decode cX5_add 48 = .ok (.getfield 61, 3) := by decide +kernel
theorem dX5_add_51 : decode cX5_add 51 = .ok (.iload_n 1, 1) := by decide +kernel
theorem dX5_add_52 : decode cX5_add 52 = .ok (.ior, 1) := by decide +kernel
theorem dX5_add_53 : decode cX5_add 53 = .ok (.putfield 61, 3) := by decide +kernel
theorem dX5_add_56 : decode cX5_add 56 = .ok (.iconst 0, 1) := by decide +kernel
theorem dX5_add_57 : decode cX5_add 57 = .ok (.istore_n 2, 1) := by decide +kernel
theorem dX5_add_58 : decode cX5_add 58 = .ok (.iload_n 2, 1) := by decide +kernel
theorem dX5_add_59 : decode cX5_add 59 = .ok (.aload_n 0, 1) := by decide +kernel
theorem dX5_add_60 : decode cX5_add 60 = .ok (.getfield 29, 3) := by decide +kernel
theorem dX5_add_63 : decode cX5_add 63 = .ok (.if_icmp .ge 23, 3) := by decide +kernel
theorem dX5_add_66 : decode cX5_add 66 = .ok (.aload_n 0, 1) := by decide +kernel
theorem dX5_add_67 : decode cX5_add 67 = .ok (.getfield 9, 3) := by decide +kernel
theorem dX5_add_70 : decode cX5_add 70 = .ok (.iload_n 2, 1) := by decide +kernel
theorem dX5_add_71 : decode cX5_add 71 = .ok (.dup2, 1) := by decide +kernel
theorem dX5_add_72 : decode cX5_add 72 = .ok (.iaload, 1) := by decide +kernel
theorem dX5_add_73 : decode cX5_add 73 = .ok (.iload_n 1, 1) := by decide +kernel
theorem dX5_add_74 : decode cX5_add 74 = .ok (.iload_n 2, 1) := by decide +kernel
theorem dX5_add_75 : decode cX5_add 75 = .ok (.ishr, 1) := by decide +kernel
theorem dX5_add_76 : decode cX5_add 76 = .ok (.iconst 1, 1) := by decide +kernel
theorem dX5_add_77 : decode cX5_add 77 = .ok (.iand, 1) := by decide +kernel
theorem dX5_add_78 : decode cX5_add 78 = .ok (.iadd, 1) := by decide +kernel
theorem dX5_add_79 : decode cX5_add 79 = .ok (.iastore, 1) := by decide +kernel
theorem dX5_add_80 : decode cX5_add 80 = .ok (.iinc 2 1, 3) := by decide +kernel
theorem dX5_add_83 : decode cX5_add 83 = .ok (.goto (-25), 3) := by decide +kernel
theorem dX5_add_86 : decode cX5_add 86 = .ok (.return_, 1) := by decide +kernel
theorem dX5_begin_0 : decode cX5_begin 0 = .ok (.aload_n 0, 1) := by decide +kernel
theorem dX5_begin_1 : decode cX5_begin 1 = .ok (.iload_n 1, 1) := by decide +kernel
theorem dX5_begin_2 : decode cX5_begin 2 = .ok (.putfield 29, 3) := by decide +kernel
theorem dX5_begin_5 : decode cX5_begin 5 = .ok (.aload_n 0, 1) := by decide +kernel
theorem dX5_begin_6 : decode cX5_begin 6 = .ok (.iconst 0, 1) := by decide +kernel
theorem dX5_begin_7 : decode cX5_begin 7 = .ok (.putfield 55, 3) := by decide +kernel
theorem dX5_begin_10 : decode cX5_begin 10 = .ok (.aload_n 0, 1) := by decide +kernel
theorem dX5_begin_11 : decode cX5_begin 11 = .ok (.iload_n 2, 1) := by decide +kernel
theorem dX5_begin_12 : decode cX5_begin 12 = .ok (.putfield 58, 3) := by decide +kernel
theorem dX5_begin_15 : decode cX5_begin 15 = .ok (.aload_n 0, 1) := by decide +kernel
theorem dX5_begin_16 : decode cX5_begin 16 = .ok (.iconst 0, 1) := by decide +kernel
theorem dX5_begin_17 : decode cX5_begin 17 = .ok (.putfield 61, 3) := by decide +kernel
theorem dX5_begin_20 : decode cX5_begin 20 = .ok (.aload_n 0, 1) := by decide +kernel
theorem dX5_begin_21 : decode cX5_begin 21 = .ok (.iconst (-1), 1) := by decide +kernel
theorem dX5_begin_22 : decode cX5_begin 22 = .ok (.putfield 64, 3) := by decide +kernel
theorem dX5_begin_25 : decode cX5_begin 25 = .ok (.iconst 0, 1) := by decide +kernel
theorem dX5_begin_26 : decode cX5_begin 26 = .ok (.istore_n 3, 1) := by decide +kernel
theorem dX5_begin_27 : decode cX5_begin 27 = .ok (.iload_n 3, 1) := by decide +kernel
theorem dX5_begin_28 : decode cX5_begin 28 = .ok (.bipush 7, 2) := by decide +kernel
theorem dX5_begin_30 : decode cX5_begin 30 = .ok (.if_icmp .ge 16, 3) := by decide +kernel
theorem dX5_begin_33 : decode cX5_begin 33 = .ok (.aload_n 0, 1) := by decide +kernel
theorem dX5_begin_34 : decode cX5_begin 34 = .ok (.getfield 9, 3) := by decide +kernel
theorem dX5_begin_37 : decode cX5_begin 37 = .ok (.iload_n 3, 1) := by decide +kernel
theorem dX5_begin_38 : decode cX5_begin 38 = .ok (.iconst 0, 1) := by decide +kernel
theorem dX5_begin_39 : decode cX5_begin 39 = .ok (.iastore, 1) := by decide +kernel
theorem dX5_begin_40 : decode cX5_begin 40 = .ok (.iinc 3 1, 3) := by decide +kernel
theorem dX5_begin_43 : decode cX5_begin 43 = .ok (.goto (-16), 3) := by decide +kernel
theorem dX5_begin_46 : decode cX5_begin 46 = .ok (.return_, 1) := by decide +kernel
theorem dX5_leftBy_0 : decode cX5_leftBy 0 = .ok (.iload_n 1, 1) := by decide +kernel
theorem dX5_leftBy_1 : decode cX5_leftBy 1 = .ok (.ifCond .lt 11, 3) := by decide +kernel
theorem dX5_leftBy_4 : decode cX5_leftBy 4 = .ok (.iload_n 1, 1) := by decide +kernel
theorem dX5_leftBy_5 : decode cX5_leftBy 5 = .ok (.aload_n 0, 1) := by decide +kernel
theorem dX5_leftBy_6 : decode cX5_leftBy 6 = .ok (.getfield 29, 3) := by decide +kernel
theorem dX5_leftBy_9 : decode cX5_leftBy 9 = .ok (.if_icmp .lt 8, 3) := by decide +kernel
theorem dX5_leftBy_12 : decode cX5_leftBy 12 = .ok (.aload_n 0, 1) := by decide +kernel
theorem dX5_leftBy_13 : decode cX5_leftBy 13 = .ok (.getfield 55, 3) := by decide +kernel
theorem dX5_leftBy_16 : decode cX5_leftBy 16 = .ok (.ireturn, 1) := by decide +kernel
theorem dX5_leftBy_17 : decode cX5_leftBy 17 = .ok (.aload_n 0, 1) := by decide +kernel
theorem dX5_leftBy_18 : decode cX5_leftBy 18 = .ok (.getfield 9, 3) := by decide +kernel
theorem dX5_leftBy_21 : decode cX5_leftBy 21 = .ok (.iload_n 1, 1) := by decide +kernel
theorem dX5_leftBy_22 : decode cX5_leftBy 22 = .ok (.iaload, 1) := by decide +kernel
theorem dX5_leftBy_23 : decode cX5_leftBy 23 = .ok (.aload_n 0, 1) := by decide +kernel
theorem dX5_leftBy_24 : decode cX5_leftBy 24 = .ok (.getfield 55, 3) := by decide +kernel
theorem dX5_leftBy_27 : decode cX5_leftBy 27 = .ok (.aload_n 0, 1) := by decide +kernel
theorem dX5_leftBy_28 : decode cX5_leftBy 28 = .ok (.getfield 9, 3) := by decide +kernel
theorem dX5_leftBy_31 : decode cX5_leftBy 31 = .ok (.iload_n 1, 1) := by decide +kernel
theorem dX5_leftBy_32 : decode cX5_leftBy 32 = .ok (.iaload, 1) := by decide +kernel
theorem dX5_leftBy_33 : decode cX5_leftBy 33 = .ok (.isub, 1) := by decide +kernel
theorem dX5_leftBy_34 : decode cX5_leftBy 34 = .ok (.invokestatic 75, 3) := by decide +kernel
theorem dX5_leftBy_37 : decode cX5_leftBy 37 = .ok (.ireturn, 1) := by decide +kernel
theorem dX5_question_0 : decode cX5_question 0 = .ok (.iconst (-1), 1) := by decide +kernel
theorem dX5_question_1 : decode cX5_question 1 = .ok (.istore_n 1, 1) := by decide +kernel
theorem dX5_question_2 : decode cX5_question 2 = .ok (.iconst 0, 1) := by decide +kernel
theorem dX5_question_3 : decode cX5_question 3 = .ok (.istore_n 2, 1) := by decide +kernel
theorem dX5_question_4 : decode cX5_question 4 = .ok (.iload_n 2, 1) := by decide +kernel
theorem dX5_question_5 : decode cX5_question 5 = .ok (.aload_n 0, 1) := by decide +kernel
theorem dX5_question_6 : decode cX5_question 6 = .ok (.getfield 29, 3) := by decide +kernel
theorem dX5_question_9 : decode cX5_question 9 = .ok (.if_icmp .ge 24, 3) := by decide +kernel
theorem dX5_question_12 : decode cX5_question 12 = .ok (.aload_n 0, 1) := by decide +kernel
theorem dX5_question_13 : decode cX5_question 13 = .ok (.iload_n 2, 1) := by decide +kernel
theorem dX5_question_14 : decode cX5_question 14 = .ok (.invokevirtual 72, 3) := by decide +kernel
theorem dX5_question_17 : decode cX5_question 17 = .ok (.aload_n 0, 1) := by decide +kernel
theorem dX5_question_18 : decode cX5_question 18 = .ok (.iload_n 1, 1) := by decide +kernel
theorem dX5_question_19 : decode cX5_question 19 = .ok (.invokevirtual 72, 3) := by decide +kernel
theorem dX5_question_22 : decode cX5_question 22 = .ok (.if_icmp .ge 5, 3) := by decide +kernel
theorem dX5_question_25 : decode cX5_question 25 = .ok (.iload_n 2, 1) := by decide +kernel
theorem dX5_question_26 : decode cX5_question 26 = .ok (.istore_n 1, 1) := by decide +kernel
theorem dX5_question_27 : decode cX5_question 27 = .ok (.iinc 2 1, 3) := by decide +kernel
theorem dX5_question_30 : decode cX5_question 30 = .ok (.goto (-26), 3) := by decide +kernel
theorem dX5_question_33 : decode cX5_question 33 = .ok (.iload_n 1, 1) := by decide +kernel
theorem dX5_question_34 : decode cX5_question 34 = .ok (.ireturn, 1) := by decide +kernel
theorem dX5_seek_0 : decode cX5_seek 0 = .ok (.aload_n 1, 1) := by decide +kernel
theorem dX5_seek_1 : decode cX5_seek 1 = .ok (.iload_n 2, 1) := by decide +kernel
theorem dX5_seek_2 : decode cX5_seek 2 = .ok (.invokevirtual 15, 3) := by decide +kernel
theorem dX5_seek_5 : decode cX5_seek 5 = .ok (.istore 5, 2) := by decide +kernel
theorem dX5_seek_7 : decode cX5_seek 7 = .ok (.aload_n 0, 1) := by decide +kernel
theorem dX5_seek_8 : decode cX5_seek 8 = .ok (.aload_n 1, 1) := by decide +kernel
theorem dX5_seek_9 : decode cX5_seek 9 = .ok (.getfield 21, 3) := by decide +kernel
theorem dX5_seek_12 : decode cX5_seek 12 = .ok (.iload 5, 2) := by decide +kernel
theorem dX5_seek_14 : decode cX5_seek 14 = .ok (.invokevirtual 25, 3) := by decide +kernel
theorem dX5_seek_17 : decode cX5_seek 17 = .ok (.iconst 0, 1) := by decide +kernel
theorem dX5_seek_18 : decode cX5_seek 18 = .ok (.istore 6, 2) := by decide +kernel
theorem dX5_seek_20 : decode cX5_seek 20 = .ok (.iload 6, 2) := by decide +kernel
theorem dX5_seek_22 : decode cX5_seek 22 = .ok (.iconst 1, 1) := by decide +kernel
theorem dX5_seek_23 : decode cX5_seek 23 = .ok (.aload_n 0, 1) := by decide +kernel
theorem dX5_seek_24 : decode cX5_seek 24 = .ok (.getfield 29, 3) := by decide +kernel
theorem dX5_seek_27 : decode cX5_seek 27 = .ok (.ishl, 1) := by decide +kernel
theorem dX5_seek_28 : decode cX5_seek 28 = .ok (.if_icmp .ge 87, 3) := by decide +kernel
theorem dX5_seek_31 : decode cX5_seek 31 = .ok (.iload 6, 2) := by decide +kernel
theorem dX5_seek_33 : decode cX5_seek 33 = .ok (.iload 5, 2) := by decide +kernel
theorem dX5_seek_35 : decode cX5_seek 35 = .ok (.iconst (-1), 1) := by decide +kernel
theorem dX5_seek_36 : decode cX5_seek 36 = .ok (.ixor, 1) := by decide +kernel
theorem dX5_seek_37 : decode cX5_seek 37 = .ok (.iand, 1) := by decide +kernel
theorem dX5_seek_38 : decode cX5_seek 38 = .ok (.ifCond .ne 71, 3) := by decide +kernel
theorem dX5_seek_41 : decode cX5_seek 41 = .ok (.aload 4, 2) := by decide +kernel
theorem dX5_seek_43 : decode cX5_seek 43 = .ok (.iconst 0, 1) := by decide +kernel
theorem dX5_seek_44 : decode cX5_seek 44 = .ok (.putfield 30, 3) := by decide +kernel
theorem dX5_seek_47 : decode cX5_seek 47 = .ok (.iconst 0, 1) := by decide +kernel
theorem dX5_seek_48 : decode cX5_seek 48 = .ok (.istore 7, 2) := by decide +kernel
theorem dX5_seek_50 : decode cX5_seek 50 = .ok (.iload 7, 2) := by decide +kernel
theorem dX5_seek_52 : decode cX5_seek 52 = .ok (.aload_n 0, 1) := by decide +kernel
theorem dX5_seek_53 : decode cX5_seek 53 = .ok (.getfield 29, 3) := by decide +kernel
theorem dX5_seek_56 : decode cX5_seek 56 = .ok (.if_icmp .ge 38, 3) := by decide +kernel
theorem dX5_seek_59 : decode cX5_seek 59 = .ok (.iload 6, 2) := by decide +kernel
theorem dX5_seek_61 : decode cX5_seek 61 = .ok (.iload 7, 2) := by decide +kernel
theorem dX5_seek_63 : decode cX5_seek 63 = .ok (.ishr, 1) := by decide +kernel
theorem dX5_seek_64 : decode cX5_seek 64 = .ok (.iconst 1, 1) := by decide +kernel
theorem dX5_seek_65 : decode cX5_seek 65 = .ok (.iand, 1) := by decide +kernel
theorem dX5_seek_66 : decode cX5_seek 66 = .ok (.ifCond .eq 22, 3) := by decide +kernel
theorem dX5_seek_69 : decode cX5_seek 69 = .ok (.aload 4, 2) := by decide +kernel
theorem dX5_seek_71 : decode cX5_seek 71 = .ok (.aload_n 1, 1) := by decide +kernel
theorem dX5_seek_72 : decode cX5_seek 72 = .ok (.getfield 35, 3) := by decide +kernel
theorem dX5_seek_75 : decode cX5_seek 75 = .ok (.iload 7, 2) := by decide +kernel
theorem dX5_seek_77 : decode cX5_seek 77 = .ok (.iaload, 1) := by decide +kernel
theorem dX5_seek_78 : decode cX5_seek 78 = .ok (.iload 7, 2) := by decide +kernel
theorem dX5_seek_80 : decode cX5_seek 80 = .ok (.aload_n 1, 1) := by decide +kernel
theorem dX5_seek_81 : decode cX5_seek 81 = .ok (.getfield 38, 3) := by decide +kernel
theorem dX5_seek_84 : decode cX5_seek 84 = .ok (.invokevirtual 41, 3) := by decide +kernel
theorem dX5_seek_87 : decode cX5_seek 87 = .ok (.pop, 1) := by decide +kernel
theorem dX5_seek_88 : decode cX5_seek 88 = .ok (.iinc 7 1, 3) := by decide +kernel
theorem dX5_seek_91 : decode cX5_seek 91 = .ok (.goto (-41), 3) := by decide +kernel
theorem dX5_seek_94 : decode cX5_seek 94 = .ok (.aload_n 3, 1) := by decide +kernel
theorem dX5_seek_95 : decode cX5_seek 95 = .ok (.aload 4, 2) := by decide +kernel
theorem dX5_seek_97 : decode cX5_seek 97 = .ok (.invokevirtual 45, 3) := by decide +kernel
theorem dX5_seek_100 : decode cX5_seek 100 = .ok (.ifCond .eq 9, 3) := by decide +kernel
theorem dX5_seek_103 : decode cX5_seek 103 = .ok (.aload_n 0, 1) := by decide +kernel
theorem dX5_seek_104 : decode cX5_seek 104 = .ok (.iload 6, 2) := by decide +kernel
theorem dX5_seek_106 : decode cX5_seek 106 = .ok (.invokevirtual 51, 3) := by decide +kernel
theorem dX5_seek_109 : decode cX5_seek 109 = .ok (.iinc 6 1, 3) := by decide +kernel
theorem dX5_seek_112 : decode cX5_seek 112 = .ok (.goto (-92), 3) := by decide +kernel
theorem dX5_seek_115 : decode cX5_seek 115 = .ok (.return_, 1) := by decide +kernel
