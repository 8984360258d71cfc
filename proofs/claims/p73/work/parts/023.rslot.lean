theorem dX6_begin_0 : decode cX6_begin 0 = .ok (.aload_n 0, 1) := by decide +kernel
theorem dX6_begin_1 : decode cX6_begin 1 = .ok (.iconst 1, 1) := by decide +kernel
theorem dX6_begin_2 : decode cX6_begin 2 = .ok (.putfield 15, 3) := by decide +kernel
theorem dX6_begin_5 : decode cX6_begin 5 = .ok (.aload_n 0, 1) := by decide +kernel
theorem dX6_begin_6 : decode cX6_begin 6 = .ok (.iload_n 1, 1) := by decide +kernel
theorem dX6_begin_7 : decode cX6_begin 7 = .ok (.putfield 19, 3) := by decide +kernel
theorem dX6_begin_10 : decode cX6_begin 10 = .ok (.aload_n 0, 1) := by decide +kernel
theorem dX6_begin_11 : decode cX6_begin 11 = .ok (.iload_n 2, 1) := by decide +kernel
theorem dX6_begin_12 : decode cX6_begin 12 = .ok (.putfield 23, 3) := by decide +kernel
theorem dX6_begin_15 : decode cX6_begin 15 = .ok (.iconst 0, 1) := by decide +kernel
theorem dX6_begin_16 : decode cX6_begin 16 = .ok (.istore_n 3, 1) := by decide +kernel
theorem dX6_begin_17 : decode cX6_begin 17 = .ok (.iload_n 3, 1) := by decide +kernel
theorem dX6_begin_18 : decode cX6_begin 18 = .ok (.bipush 60, 2) := by decide +kernel
theorem dX6_begin_20 : decode cX6_begin 20 = .ok (.if_icmp .ge 16, 3) := by decide +kernel
theorem dX6_begin_23 : decode cX6_begin 23 = .ok (.aload_n 0, 1) := by decide +kernel
theorem dX6_begin_24 : decode cX6_begin 24 = .ok (.getfield 9, 3) := by decide +kernel
theorem dX6_begin_27 : decode cX6_begin 27 = .ok (.iload_n 3, 1) := by decide +kernel
theorem dX6_begin_28 : decode cX6_begin 28 = .ok (.lconst 0, 1) := by decide +kernel
theorem dX6_begin_29 : decode cX6_begin 29 = .ok (.lastore, 1) := by decide +kernel
theorem dX6_begin_30 : decode cX6_begin 30 = .ok (.iinc 3 1, 3) := by decide +kernel
theorem dX6_begin_33 : decode cX6_begin 33 = .ok (.goto (-16), 3) := by decide +kernel
theorem dX6_begin_36 : decode cX6_begin 36 = .ok (.return_, 1) := by decide +kernel
theorem dX6_cut_0 : decode cX6_cut 0 = .ok (.aload_n 0, 1) := by decide +kernel
theorem dX6_cut_1 : decode cX6_cut 1 = .ok (.getfield 19, 3) := by decide +kernel
theorem dX6_cut_4 : decode cX6_cut 4 = .ok (.tableswitch 42 0 2 #[28, 33, 38], 28) := by decide +kernel
theorem dX6_cut_32 : decode cX6_cut 32 = .ok (.lload_n 1, 1) := by decide +kernel
theorem dX6_cut_33 : decode cX6_cut 33 = .ok (.l2i, 1) := by decide +kernel
theorem dX6_cut_34 : decode cX6_cut 34 = .ok (.i2b, 1) := by decide +kernel
theorem dX6_cut_35 : decode cX6_cut 35 = .ok (.i2l, 1) := by decide +kernel
theorem dX6_cut_36 : decode cX6_cut 36 = .ok (.lreturn, 1) := by decide +kernel
theorem dX6_cut_37 : decode cX6_cut 37 = .ok (.lload_n 1, 1) := by decide +kernel
theorem dX6_cut_38 : decode cX6_cut 38 = .ok (.l2i, 1) := by decide +kernel
theorem dX6_cut_39 : decode cX6_cut 39 = .ok (.i2s, 1) := by decide +kernel
theorem dX6_cut_40 : decode cX6_cut 40 = .ok (.i2l, 1) := by decide +kernel
theorem dX6_cut_41 : decode cX6_cut 41 = .ok (.lreturn, 1) := by decide +kernel
theorem dX6_cut_42 : decode cX6_cut 42 = .ok (.lload_n 1, 1) := by decide +kernel
theorem dX6_cut_43 : decode cX6_cut 43 = .ok (.l2i, 1) := by decide +kernel
theorem dX6_cut_44 : decode cX6_cut 44 = .ok (.i2l, 1) := by decide +kernel
theorem dX6_cut_45 : decode cX6_cut 45 = .ok (.lreturn, 1) := by decide +kernel
theorem dX6_cut_46 : decode cX6_cut 46 = .ok (.lload_n 1, 1) := by decide +kernel
theorem dX6_cut_47 : decode cX6_cut 47 = .ok (.lreturn, 1) := by decide +kernel
theorem dX6_isBookOf_0 : decode cX6_isBookOf 0 = .ok (.aload_n 0, 1) := by decide +kernel
theorem dX6_isBookOf_1 : decode cX6_isBookOf 1 = .ok (.getfield 23, 3) := by decide +kernel
theorem dX6_isBookOf_4 : decode cX6_isBookOf 4 = .ok (.iconst 3, 1) := by decide +kernel
theorem dX6_isBookOf_5 : decode cX6_isBookOf 5 = .ok (.irem, 1) := by decide +kernel
theorem dX6_isBookOf_6 : decode cX6_isBookOf 6 = .ok (.ifCond .eq 5, 3) := by decide +kernel
theorem dX6_isBookOf_9 : decode cX6_isBookOf 9 = .ok (.iconst 0, 1) := by decide +kernel
theorem dX6_isBookOf_10 : decode cX6_isBookOf 10 = .ok (.ireturn, 1) := by decide +kernel
theorem dX6_isBookOf_11 : decode cX6_isBookOf 11 = .ok (.iconst 0, 1) := by decide +kernel
theorem dX6_isBookOf_12 : decode cX6_isBookOf 12 = .ok (.istore_n 2, 1) := by decide +kernel
theorem dX6_isBookOf_13 : decode cX6_isBookOf 13 = .ok (.iload_n 2, 1) := by decide +kernel
theorem dX6_isBookOf_14 : decode cX6_isBookOf 14 = .ok (.iconst 2, 1) := by decide +kernel
theorem dX6_isBookOf_15 : decode cX6_isBookOf 15 = .ok (.iadd, 1) := by decide +kernel
theorem dX6_isBookOf_16 : decode cX6_isBookOf 16 = .ok (.aload_n 0, 1) := by decide +kernel
theorem dX6_isBookOf_17 : decode cX6_isBookOf 17 = .ok (.getfield 23, 3) := by decide +kernel
theorem dX6_isBookOf_20 : decode cX6_isBookOf 20 = .ok (.if_icmp .ge 66, 3) := by decide +kernel
theorem dX6_isBookOf_23 : decode cX6_isBookOf 23 = .ok (.aload_n 0, 1) := by decide +kernel
theorem dX6_isBookOf_24 : decode cX6_isBookOf 24 = .ok (.getfield 9, 3) := by decide +kernel
theorem dX6_isBookOf_27 : decode cX6_isBookOf 27 = .ok (.iload_n 2, 1) := by decide +kernel
theorem dX6_isBookOf_28 : decode cX6_isBookOf 28 = .ok (.laload, 1) := by decide +kernel
theorem dX6_isBookOf_29 : decode cX6_isBookOf 29 = .ok (.aload_n 1, 1) := by decide +kernel
theorem dX6_isBookOf_30 : decode cX6_isBookOf 30 = .ok (.getfield 35, 3) := by decide +kernel
theorem dX6_isBookOf_33 : decode cX6_isBookOf 33 = .ok (.iconst 1, 1) := by decide +kernel
theorem dX6_isBookOf_34 : decode cX6_isBookOf 34 = .ok (.isub, 1) := by decide +kernel
theorem dX6_isBookOf_35 : decode cX6_isBookOf 35 = .ok (.invokestatic 40, 3) := by decide +kernel
theorem dX6_isBookOf_38 : decode cX6_isBookOf 38 = .ok (.ifCond .eq 40, 3) := by decide +kernel
theorem dX6_isBookOf_41 : decode cX6_isBookOf 41 = .ok (.aload_n 0, 1) := by decide +kernel
theorem dX6_isBookOf_42 : decode cX6_isBookOf 42 = .ok (.getfield 9, 3) := by decide +kernel
theorem dX6_isBookOf_45 : decode cX6_isBookOf 45 = .ok (.iload_n 2, 1) := by decide +kernel
theorem dX6_isBookOf_46 : decode cX6_isBookOf 46 = .ok (.iconst 1, 1) := by decide +kernel
theorem dX6_isBookOf_47 : decode cX6_isBookOf 47 = .ok (.iadd, 1) := by decide +kernel
theorem dX6_isBookOf_48 : decode cX6_isBookOf 48 = .ok (.laload, 1) := by decide +kernel
theorem dX6_isBookOf_49 : decode cX6_isBookOf 49 = .ok (.aload_n 1, 1) := by decide +kernel
theorem dX6_isBookOf_50 : decode cX6_isBookOf 50 = .ok (.getfield 44, 3) := by decide +kernel
theorem dX6_isBookOf_53 : decode cX6_isBookOf 53 = .ok (.iconst 1, 1) := by decide +kernel
theorem dX6_isBookOf_54 : decode cX6_isBookOf 54 = .ok (.isub, 1) := by decide +kernel
theorem dX6_isBookOf_55 : decode cX6_isBookOf 55 = .ok (.invokestatic 40, 3) := by decide +kernel
theorem dX6_isBookOf_58 : decode cX6_isBookOf 58 = .ok (.ifCond .eq 20, 3) := by decide +kernel
theorem dX6_isBookOf_61 : decode cX6_isBookOf 61 = .ok (.aload_n 0, 1) := by decide +kernel
theorem dX6_isBookOf_62 : decode cX6_isBookOf 62 = .ok (.getfield 9, 3) := by decide +kernel
theorem dX6_isBookOf_65 : decode cX6_isBookOf 65 = .ok (.iload_n 2, 1) := by decide +kernel
theorem dX6_isBookOf_66 : decode cX6_isBookOf 66 = .ok (.iconst 2, 1) := by decide +kernel
theorem dX6_isBookOf_67 : decode cX6_isBookOf 67 = .ok (.iadd, 1) := by decide +kernel
theorem dX6_isBookOf_68 : decode cX6_isBookOf 68 = .ok (.laload, 1) := by decide +kernel
theorem dX6_isBookOf_69 : decode cX6_isBookOf 69 = .ok (.sipush 999, 3) := by decide +kernel
theorem dX6_isBookOf_72 : decode cX6_isBookOf 72 = .ok (.invokestatic 40, 3) := by decide +kernel
theorem dX6_isBookOf_75 : decode cX6_isBookOf 75 = .ok (.ifCond .ne 5, 3) := by decide +kernel
theorem dX6_isBookOf_78 : decode cX6_isBookOf 78 = .ok (.iconst 0, 1) := by decide +kernel
theorem dX6_isBookOf_79 : decode cX6_isBookOf 79 = .ok (.ireturn, 1) := by decide +kernel
theorem dX6_isBookOf_80 : decode cX6_isBookOf 80 = .ok (.iinc 2 3, 3) := by decide +kernel
theorem dX6_isBookOf_83 : decode cX6_isBookOf 83 = .ok (.goto (-70), 3) := by decide +kernel
theorem dX6_isBookOf_86 : decode cX6_isBookOf 86 = .ok (.iconst 1, 1) := by decide +kernel
theorem dX6_isBookOf_87 : decode cX6_isBookOf 87 = .ok (.ireturn, 1) := by decide +kernel
theorem dX6_isLeftIn_0 : decode cX6_isLeftIn 0 = .ok (.aload_n 1, 1) := by decide +kernel
theorem dX6_isLeftIn_1 : decode cX6_isLeftIn 1 = .ok (.getfield 26, 3) := by decide +kernel
theorem dX6_isLeftIn_4 : decode cX6_isLeftIn 4 = .ok (.aload_n 0, 1) := by decide +kernel
theorem dX6_isLeftIn_5 : decode cX6_isLeftIn 5 = .ok (.getfield 23, 3) := by decide +kernel
theorem dX6_isLeftIn_8 : decode cX6_isLeftIn 8 = .ok (.if_icmp .eq 5, 3) := by decide +kernel
theorem dX6_isLeftIn_11 : decode cX6_isLeftIn 11 = .ok (.iconst 0, 1) := by decide +kernel
theorem dX6_isLeftIn_12 : decode cX6_isLeftIn 12 = .ok (.ireturn, 1) := by decide +kernel
theorem dX6_isLeftIn_13 : decode cX6_isLeftIn 13 = .ok (.iconst 0, 1) := by decide +kernel
theorem dX6_isLeftIn_14 : decode cX6_isLeftIn 14 = .ok (.istore_n 2, 1) := by decide +kernel
theorem dX6_isLeftIn_15 : decode cX6_isLeftIn 15 = .ok (.iload_n 2, 1) := by decide +kernel
theorem dX6_isLeftIn_16 : decode cX6_isLeftIn 16 = .ok (.aload_n 1, 1) := by decide +kernel
theorem dX6_isLeftIn_17 : decode cX6_isLeftIn 17 = .ok (.getfield 26, 3) := by decide +kernel
theorem dX6_isLeftIn_20 : decode cX6_isLeftIn 20 = .ok (.if_icmp .ge 28, 3) := by decide +kernel
theorem dX6_isLeftIn_23 : decode cX6_isLeftIn 23 = .ok (.aload_n 0, 1) := by decide +kernel
theorem dX6_isLeftIn_24 : decode cX6_isLeftIn 24 = .ok (.getfield 9, 3) := by decide +kernel
theorem dX6_isLeftIn_27 : decode cX6_isLeftIn 27 = .ok (.iload_n 2, 1) := by decide +kernel
theorem dX6_isLeftIn_28 : decode cX6_isLeftIn 28 = .ok (.laload, 1) := by decide +kernel
theorem dX6_isLeftIn_29 : decode cX6_isLeftIn 29 = .ok (.aload_n 1, 1) := by decide +kernel
theorem dX6_isLeftIn_30 : decode cX6_isLeftIn 30 = .ok (.getfield 31, 3) := by decide +kernel
theorem dX6_isLeftIn_33 : decode cX6_isLeftIn 33 = .ok (.iload_n 2, 1) := by decide +kernel
theorem dX6_isLeftIn_34 : decode cX6_isLeftIn 34 = .ok (.iaload, 1) := by decide +kernel
theorem dX6_isLeftIn_35 : decode cX6_isLeftIn 35 = .ok (.i2l, 1) := by decide +kernel
theorem dX6_isLeftIn_36 : decode cX6_isLeftIn 36 = .ok (.lcmp, 1) := by decide +kernel
theorem dX6_isLeftIn_37 : decode cX6_isLeftIn 37 = .ok (.ifCond .eq 5, 3) := by decide +kernel
theorem dX6_isLeftIn_40 : decode cX6_isLeftIn 40 = .ok (.iconst 0, 1) := by decide +kernel
theorem dX6_isLeftIn_41 : decode cX6_isLeftIn 41 = .ok (.ireturn, 1) := by decide +kernel
theorem dX6_isLeftIn_42 : decode cX6_isLeftIn 42 = .ok (.iinc 2 1, 3) := by decide +kernel
theorem dX6_isLeftIn_45 : decode cX6_isLeftIn 45 = .ok (.goto (-30), 3) := by decide +kernel
theorem dX6_isLeftIn_48 : decode cX6_isLeftIn 48 = .ok (.iconst 1, 1) := by decide +kernel
theorem dX6_isLeftIn_49 : decode cX6_isLeftIn 49 = .ok (.ireturn, 1) := by decide +kernel
theorem dX6_isWithin_0 : decode cX6_isWithin 0 = .ok (.lload_n 0, 1) := by decide +kernel
theorem dX6_isWithin_1 : decode cX6_isWithin 1 = .ok (.lconst 0, 1) := by decide +kernel
theorem dX6_isWithin_2 : decode cX6_isWithin 2 = .ok (.lcmp, 1) := by decide +kernel
theorem dX6_isWithin_3 : decode cX6_isWithin 3 = .ok (.ifCond .lt 14, 3) := by decide +kernel
theorem dX6_isWithin_6 : decode cX6_isWithin 6 = .ok (.lload_n 0, 1) := by decide +kernel
theorem dX6_isWithin_7 : decode cX6_isWithin 7 = .ok (.iload_n 2, 1) := by decide +kernel
theorem dX6_isWithin_8 : decode cX6_isWithin 8 = .ok (.i2l, 1) := by decide +kernel
theorem dX6_isWithin_9 : decode cX6_isWithin 9 = .ok (.lcmp, 1) := by decide +kernel
theorem dX6_isWithin_10 : decode cX6_isWithin 10 = .ok (.ifCond .gt 7, 3) := by decide +kernel
theorem dX6_isWithin_13 : decode cX6_isWithin 13 = .ok (.iconst 1, 1) := by decide +kernel
theorem dX6_isWithin_14 : decode cX6_isWithin 14 = .ok (.goto 4, 3) := by decide +kernel
theorem dX6_isWithin_17 : decode cX6_isWithin 17 = .ok (.iconst 0, 1) := by decide +kernel
theorem dX6_isWithin_18 : decode cX6_isWithin 18 = .ok (.ireturn, 1) := by decide +kernel
theorem dX6_spans_0 : decode cX6_spans 0 = .ok (.iload_n 1, 1) := by decide +kernel
theorem dX6_spans_1 : decode cX6_spans 1 = .ok (.ifCond .lt 25, 3) := by decide +kernel
theorem dX6_spans_4 : decode cX6_spans 4 = .ok (.iload_n 2, 1) := by decide +kernel
theorem dX6_spans_5 : decode cX6_spans 5 = .ok (.ifCond .lt 21, 3) := by decide +kernel
theorem dX6_spans_8 : decode cX6_spans 8 = .ok (.iload_n 1, 1) := by decide +kernel
theorem dX6_spans_9 : decode cX6_spans 9 = .ok (.i2l, 1) := by decide +kernel
theorem dX6_spans_10 : decode cX6_spans 10 = .ok (.iload_n 2, 1) := by decide +kernel
theorem dX6_spans_11 : decode cX6_spans 11 = .ok (.i2l, 1) := by decide +kernel
theorem dX6_spans_12 : decode cX6_spans 12 = .ok (.ladd, 1) := by decide +kernel
theorem dX6_spans_13 : decode cX6_spans 13 = .ok (.aload_n 0, 1) := by decide +kernel
theorem dX6_spans_14 : decode cX6_spans 14 = .ok (.getfield 23, 3) := by decide +kernel
theorem dX6_spans_17 : decode cX6_spans 17 = .ok (.i2l, 1) := by decide +kernel
theorem dX6_spans_18 : decode cX6_spans 18 = .ok (.lcmp, 1) := by decide +kernel
theorem dX6_spans_19 : decode cX6_spans 19 = .ok (.ifCond .gt 7, 3) := by decide +kernel
theorem dX6_spans_22 : decode cX6_spans 22 = .ok (.iconst 1, 1) := by decide +kernel
theorem dX6_spans_23 : decode cX6_spans 23 = .ok (.goto 4, 3) := by decide +kernel
theorem dX6_spans_26 : decode cX6_spans 26 = .ok (.iconst 0, 1) := by decide +kernel
theorem dX6_spans_27 : decode cX6_spans 27 = .ok (.ireturn, 1) := by decide +kernel
theorem dX6_tellsOf_0 : decode cX6_tellsOf 0 = .ok (.iconst 0, 1) := by decide +kernel
theorem dX6_tellsOf_1 : decode cX6_tellsOf 1 = .ok (.istore_n 2, 1) := by decide +kernel
theorem dX6_tellsOf_2 : decode cX6_tellsOf 2 = .ok (.iload_n 2, 1) := by decide +kernel
theorem dX6_tellsOf_3 : decode cX6_tellsOf 3 = .ok (.iconst 2, 1) := by decide +kernel
theorem dX6_tellsOf_4 : decode cX6_tellsOf 4 = .ok (.iadd, 1) := by decide +kernel
theorem dX6_tellsOf_5 : decode cX6_tellsOf 5 = .ok (.aload_n 0, 1) := by decide +kernel
theorem dX6_tellsOf_6 : decode cX6_tellsOf 6 = .ok (.getfield 23, 3) := by decide +kernel
theorem dX6_tellsOf_9 : decode cX6_tellsOf 9 = .ok (.if_icmp .ge 68, 3) := by decide +kernel
theorem dX6_tellsOf_12 : decode cX6_tellsOf 12 = .ok (.aload_n 0, 1) := by decide +kernel
theorem dX6_tellsOf_13 : decode cX6_tellsOf 13 = .ok (.getfield 9, 3) := by decide +kernel
theorem dX6_tellsOf_16 : decode cX6_tellsOf 16 = .ok (.iload_n 2, 1) := by decide +kernel
theorem dX6_tellsOf_17 : decode cX6_tellsOf 17 = .ok (.laload, 1) := by decide +kernel
theorem dX6_tellsOf_18 : decode cX6_tellsOf 18 = .ok (.l2i, 1) := by decide +kernel
theorem dX6_tellsOf_19 : decode cX6_tellsOf 19 = .ok (.istore_n 3, 1) := by decide +kernel
theorem dX6_tellsOf_20 : decode cX6_tellsOf 20 = .ok (.aload_n 0, 1) := by decide +kernel
theorem dX6_tellsOf_21 : decode cX6_tellsOf 21 = .ok (.getfield 9, 3) := by decide +kernel
theorem dX6_tellsOf_24 : decode cX6_tellsOf 24 = .ok (.iload_n 2, 1) := by decide +kernel
theorem dX6_tellsOf_25 : decode cX6_tellsOf 25 = .ok (.iconst 1, 1) := by decide +kernel
theorem dX6_tellsOf_26 : decode cX6_tellsOf 26 = .ok (.iadd, 1) := by decide +kernel
theorem dX6_tellsOf_27 : decode cX6_tellsOf 27 = .ok (.laload, 1) := by decide +kernel
theorem dX6_tellsOf_28 : decode cX6_tellsOf 28 = .ok (.l2i, 1) := by decide +kernel
theorem dX6_tellsOf_29 : decode cX6_tellsOf 29 = .ok (.istore 4, 2) := by decide +kernel
theorem dX6_tellsOf_31 : decode cX6_tellsOf 31 = .ok (.aload_n 1, 1) := by decide +kernel
theorem dX6_tellsOf_32 : decode cX6_tellsOf 32 = .ok (.getfield 47, 3) := by decide +kernel
theorem dX6_tellsOf_35 : decode cX6_tellsOf 35 = .ok (.iload_n 3, 1) := by decide +kernel
theorem dX6_tellsOf_36 : decode cX6_tellsOf 36 = .ok (.invokevirtual 53, 3) := by decide +kernel
theorem dX6_tellsOf_39 : decode cX6_tellsOf 39 = .ok (.ifCond .eq 30, 3) := by decide +kernel
theorem dX6_tellsOf_42 : decode cX6_tellsOf 42 = .ok (.aload_n 1, 1) := by decide +kernel
theorem dX6_tellsOf_43 : decode cX6_tellsOf 43 = .ok (.iload 4, 2) := by decide +kernel
theorem dX6_tellsOf_45 : decode cX6_tellsOf 45 = .ok (.invokevirtual 57, 3) := by decide +kernel
theorem dX6_tellsOf_48 : decode cX6_tellsOf 48 = .ok (.getfield 61, 3) := by decide +kernel
theorem dX6_tellsOf_51 : decode cX6_tellsOf 51 = .ok (.iload_n 3, 1) := by decide +kernel
theorem dX6_tellsOf_52 : decode cX6_tellsOf 52 = .ok (.aaload, 1) := by decide +kernel
theorem dX6_tellsOf_53 : decode cX6_tellsOf 53 = .ok (.invokevirtual 67, 3) := by decide +kernel
theorem dX6_tellsOf_56 : decode cX6_tellsOf 56 = .ok (.i2l, 1) := by decide +kernel
theorem dX6_tellsOf_57 : decode cX6_tellsOf 57 = .ok (.aload_n 0, 1) := by decide +kernel
theorem dX6_tellsOf_58 : decode cX6_tellsOf 58 = .ok (.getfield 9, 3) := by decide +kernel
theorem dX6_tellsOf_61 : decode cX6_tellsOf 61 = .ok (.iload_n 2, 1) := by decide +kernel
theorem dX6_tellsOf_62 : decode cX6_tellsOf 62 = .ok (.iconst 2, 1) := by decide +kernel
theorem dX6_tellsOf_63 : decode cX6_tellsOf 63 = .ok (.iadd, 1) := by decide +kernel
theorem dX6_tellsOf_64 : decode cX6_tellsOf 64 = .ok (.laload, 1) := by decide +kernel
theorem dX6_tellsOf_65 : decode cX6_tellsOf 65 = .ok (.lcmp, 1) := by decide +kernel
theorem dX6_tellsOf_66 : decode cX6_tellsOf 66 = .ok (.ifCond .eq 5, 3) := by decide +kernel
theorem dX6_tellsOf_69 : decode cX6_tellsOf 69 = .ok (.iconst 0, 1) := by decide +kernel
theorem dX6_tellsOf_70 : decode cX6_tellsOf 70 = .ok (.ireturn, 1) := by decide +kernel
theorem dX6_tellsOf_71 : decode cX6_tellsOf 71 = .ok (.iinc 2 3, 3) := by decide +kernel
theorem dX6_tellsOf_74 : decode cX6_tellsOf 74 = .ok (.goto (-72), 3) := by decide +kernel
theorem dX6_tellsOf_77 : decode cX6_tellsOf 77 = .ok (.iconst 1, 1) := by decide +kernel
theorem dX6_tellsOf_78 : decode cX6_tellsOf 78 = .ok (.ireturn, 1) := by decide +kernel
