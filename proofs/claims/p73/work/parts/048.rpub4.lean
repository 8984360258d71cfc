theorem dX11_anew_0 : decode cX11_anew 0 = .ok (.aload_n 0, 1) := by decide +kernel
theorem dX11_anew_1 : decode cX11_anew 1 = .ok (.invokevirtual 180, 3) := by decide +kernel
theorem dX11_anew_4 : decode cX11_anew 4 = .ok (.ifCond .eq 6, 3) := by decide +kernel
theorem dX11_anew_7 : decode cX11_anew 7 = .ok (.bipush (-2), 2) := by decide +kernel
theorem dX11_anew_9 : decode cX11_anew 9 = .ok (.ireturn, 1) := by decide +kernel
theorem dX11_anew_10 : decode cX11_anew 10 = .ok (.aload_n 0, 1) := by decide +kernel
theorem dX11_anew_11 : decode cX11_anew 11 = .ok (.getfield 26, 3) := by decide +kernel
theorem dX11_anew_14 : decode cX11_anew 14 = .ok (.getfield 116, 3) := by decide +kernel
theorem dX11_anew_17 : decode cX11_anew 17 = .ok (.istore_n 1, 1) := by decide +kernel
theorem dX11_anew_18 : decode cX11_anew 18 = .ok (.aload_n 0, 1) := by decide +kernel
theorem dX11_anew_19 : decode cX11_anew 19 = .ok (.getfield 26, 3) := by decide +kernel
theorem dX11_anew_22 : decode cX11_anew 22 = .ok (.iconst 0, 1) := by decide +kernel
theorem dX11_anew_23 : decode cX11_anew 23 = .ok (.putfield 116, 3) := by decide +kernel
theorem dX11_anew_26 : decode cX11_anew 26 = .ok (.aload_n 0, 1) := by decide +kernel
theorem dX11_anew_27 : decode cX11_anew 27 = .ok (.invokevirtual 119, 3) := by decide +kernel
theorem dX11_anew_30 : decode cX11_anew 30 = .ok (.iload_n 1, 1) := by decide +kernel
theorem dX11_anew_31 : decode cX11_anew 31 = .ok (.ireturn, 1) := by decide +kernel
theorem dX11_back_0 : decode cX11_back 0 = .ok (.iload_n 1, 1) := by decide +kernel
theorem dX11_back_1 : decode cX11_back 1 = .ok (.ifCond .lt 8, 3) := by decide +kernel
theorem dX11_back_4 : decode cX11_back 4 = .ok (.iload_n 1, 1) := by decide +kernel
theorem dX11_back_5 : decode cX11_back 5 = .ok (.iconst 3, 1) := by decide +kernel
theorem dX11_back_6 : decode cX11_back 6 = .ok (.if_icmp .lt 6, 3) := by decide +kernel
theorem dX11_back_9 : decode cX11_back 9 = .ok (.bipush (-2), 2) := by decide +kernel
theorem dX11_back_11 : decode cX11_back 11 = .ok (.ireturn, 1) := by decide +kernel
theorem dX11_back_12 : decode cX11_back 12 = .ok (.aload_n 0, 1) := by decide +kernel
theorem dX11_back_13 : decode cX11_back 13 = .ok (.getfield 91, 3) := by decide +kernel
theorem dX11_back_16 : decode cX11_back 16 = .ok (.iload_n 1, 1) := by decide +kernel
theorem dX11_back_17 : decode cX11_back 17 = .ok (.aaload, 1) := by decide +kernel
theorem dX11_back_18 : decode cX11_back 18 = .ok (.astore_n 2, 1) := by decide +kernel
theorem dX11_back_19 : decode cX11_back 19 = .ok (.aload_n 2, 1) := by decide +kernel
theorem dX11_back_20 : decode cX11_back 20 = .ok (.getfield 376, 3) := by decide +kernel
theorem dX11_back_23 : decode cX11_back 23 = .ok (.ifCond .ne 6, 3) := by decide +kernel
theorem dX11_back_26 : decode cX11_back 26 = .ok (.bipush (-6), 2) := by decide +kernel
theorem dX11_back_28 : decode cX11_back 28 = .ok (.ireturn, 1) := by decide +kernel
theorem dX11_back_29 : decode cX11_back 29 = .ok (.aload_n 0, 1) := by decide +kernel
theorem dX11_back_30 : decode cX11_back 30 = .ok (.getfield 19, 3) := by decide +kernel
theorem dX11_back_33 : decode cX11_back 33 = .ok (.aload_n 2, 1) := by decide +kernel
theorem dX11_back_34 : decode cX11_back 34 = .ok (.getfield 369, 3) := by decide +kernel
theorem dX11_back_37 : decode cX11_back 37 = .ok (.invokevirtual 112, 3) := by decide +kernel
theorem dX11_back_40 : decode cX11_back 40 = .ok (.aload_n 0, 1) := by decide +kernel
theorem dX11_back_41 : decode cX11_back 41 = .ok (.getfield 26, 3) := by decide +kernel
theorem dX11_back_44 : decode cX11_back 44 = .ok (.aload_n 2, 1) := by decide +kernel
theorem dX11_back_45 : decode cX11_back 45 = .ok (.getfield 372, 3) := by decide +kernel
theorem dX11_back_48 : decode cX11_back 48 = .ok (.invokevirtual 373, 3) := by decide +kernel
theorem dX11_back_51 : decode cX11_back 51 = .ok (.aload_n 0, 1) := by decide +kernel
theorem dX11_back_52 : decode cX11_back 52 = .ok (.invokevirtual 119, 3) := by decide +kernel
theorem dX11_back_55 : decode cX11_back 55 = .ok (.iconst 0, 1) := by decide +kernel
theorem dX11_back_56 : decode cX11_back 56 = .ok (.ireturn, 1) := by decide +kernel
theorem dX11_count_0 : decode cX11_count 0 = .ok (.iload_n 1, 1) := by decide +kernel
theorem dX11_count_1 : decode cX11_count 1 = .ok (.tableswitch 144 0 10 #[59, 67, 75, 83, 91, 99, 107, 115, 123, 131, 139], 59) := by decide +kernel
theorem dX11_count_60 : decode cX11_count 60 = .ok (.aload_n 0, 1) := by decide +kernel
theorem dX11_count_61 : decode cX11_count 61 = .ok (.getfield 19, 3) := by decide +kernel
theorem dX11_count_64 : decode cX11_count 64 = .ok (.getfield 354, 3) := by decide +kernel
theorem dX11_count_67 : decode cX11_count 67 = .ok (.ireturn, 1) := by decide +kernel
theorem dX11_count_68 : decode cX11_count 68 = .ok (.aload_n 0, 1) := by decide +kernel
theorem dX11_count_69 : decode cX11_count 69 = .ok (.getfield 19, 3) := by decide +kernel
theorem dX11_count_72 : decode cX11_count 72 = .ok (.getfield 357, 3) := by decide +kernel
theorem dX11_count_75 : decode cX11_count 75 = .ok (.ireturn, 1) := by decide +kernel
theorem dX11_count_76 : decode cX11_count 76 = .ok (.aload_n 0, 1) := by decide +kernel
theorem dX11_count_77 : decode cX11_count 77 = .ok (.getfield 19, 3) := by decide +kernel
theorem dX11_count_80 : decode cX11_count 80 = .ok (.getfield 360, 3) := by decide +kernel
theorem dX11_count_83 : decode cX11_count 83 = .ok (.ireturn, 1) := by decide +kernel
theorem dX11_count_84 : decode cX11_count 84 = .ok (.aload_n 0, 1) := by decide +kernel
theorem dX11_count_85 : decode cX11_count 85 = .ok (.getfield 19, 3) := by decide +kernel
theorem dX11_count_88 : decode cX11_count 88 = .ok (.getfield 212, 3) := by decide +kernel
theorem dX11_count_91 : decode cX11_count 91 = .ok (.ireturn, 1) := by decide +kernel
theorem dX11_count_92 : decode cX11_count 92 = .ok (.aload_n 0, 1) := by decide +kernel
theorem dX11_count_93 : decode cX11_count 93 = .ok (.getfield 19, 3) := by decide +kernel
theorem dX11_count_96 : decode cX11_count 96 = .ok (.getfield 177, 3) := by decide +kernel
theorem dX11_count_99 : decode cX11_count 99 = .ok (.ireturn, 1) := by decide +kernel
theorem dX11_count_100 : decode cX11_count 100 = .ok (.aload_n 0, 1) := by decide +kernel
theorem dX11_count_101 : decode cX11_count 101 = .ok (.getfield 19, 3) := by decide +kernel
theorem dX11_count_104 : decode cX11_count 104 = .ok (.getfield 150, 3) := by decide +kernel
theorem dX11_count_107 : decode cX11_count 107 = .ok (.ireturn, 1) := by decide +kernel
theorem dX11_count_108 : decode cX11_count 108 = .ok (.aload_n 0, 1) := by decide +kernel
theorem dX11_count_109 : decode cX11_count 109 = .ok (.getfield 19, 3) := by decide +kernel
theorem dX11_count_112 : decode cX11_count 112 = .ok (.getfield 363, 3) := by decide +kernel
theorem dX11_count_115 : decode cX11_count 115 = .ok (.ireturn, 1) := by decide +kernel
theorem dX11_count_116 : decode cX11_count 116 = .ok (.aload_n 0, 1) := by decide +kernel
theorem dX11_count_117 : decode cX11_count 117 = .ok (.getfield 26, 3) := by decide +kernel
theorem dX11_count_120 : decode cX11_count 120 = .ok (.getfield 116, 3) := by decide +kernel
theorem dX11_count_123 : decode cX11_count 123 = .ok (.ireturn, 1) := by decide +kernel
theorem dX11_count_124 : decode cX11_count 124 = .ok (.aload_n 0, 1) := by decide +kernel
theorem dX11_count_125 : decode cX11_count 125 = .ok (.getfield 19, 3) := by decide +kernel
theorem dX11_count_128 : decode cX11_count 128 = .ok (.getfield 122, 3) := by decide +kernel
theorem dX11_count_131 : decode cX11_count 131 = .ok (.ireturn, 1) := by decide +kernel
theorem dX11_count_132 : decode cX11_count 132 = .ok (.aload_n 0, 1) := by decide +kernel
theorem dX11_count_133 : decode cX11_count 133 = .ok (.getfield 10, 3) := by decide +kernel
theorem dX11_count_136 : decode cX11_count 136 = .ok (.getfield 97, 3) := by decide +kernel
theorem dX11_count_139 : decode cX11_count 139 = .ok (.ireturn, 1) := by decide +kernel
theorem dX11_count_140 : decode cX11_count 140 = .ok (.aload_n 0, 1) := by decide +kernel
theorem dX11_count_141 : decode cX11_count 141 = .ok (.invokevirtual 366, 3) := by decide +kernel
theorem dX11_count_144 : decode cX11_count 144 = .ok (.ireturn, 1) := by decide +kernel
theorem dX11_count_145 : decode cX11_count 145 = .ok (.iconst (-1), 1) := by decide +kernel
theorem dX11_count_146 : decode cX11_count 146 = .ok (.ireturn, 1) := by decide +kernel
theorem dX11_freeze_0 : decode cX11_freeze 0 = .ok (.aload_n 0, 1) := by decide +kernel
theorem dX11_freeze_1 : decode cX11_freeze 1 = .ok (.getfield 19, 3) := by decide +kernel
theorem dX11_freeze_4 : decode cX11_freeze 4 = .ok (.iload_n 1, 1) := by decide +kernel
theorem dX11_freeze_5 : decode cX11_freeze 5 = .ok (.invokevirtual 141, 3) := by decide +kernel
theorem dX11_freeze_8 : decode cX11_freeze 8 = .ok (.ifCond .eq 12, 3) := by decide +kernel
theorem dX11_freeze_11 : decode cX11_freeze 11 = .ok (.iload_n 2, 1) := by decide +kernel
theorem dX11_freeze_12 : decode cX11_freeze 12 = .ok (.ifCond .lt 8, 3) := by decide +kernel
theorem dX11_freeze_15 : decode cX11_freeze 15 = .ok (.iload_n 2, 1) := by decide +kernel
theorem dX11_freeze_16 : decode cX11_freeze 16 = .ok (.iconst 1, 1) := by decide +kernel
theorem dX11_freeze_17 : decode cX11_freeze 17 = .ok (.if_icmp .le 6, 3) := by decide +kernel
theorem dX11_freeze_20 : decode cX11_freeze 20 = .ok (.bipush (-2), 2) := by decide +kernel
theorem dX11_freeze_22 : decode cX11_freeze 22 = .ok (.ireturn, 1) := by decide +kernel
theorem dX11_freeze_23 : decode cX11_freeze 23 = .ok (.aload_n 0, 1) := by decide +kernel
theorem dX11_freeze_24 : decode cX11_freeze 24 = .ok (.getfield 33, 3) := by decide +kernel
theorem dX11_freeze_27 : decode cX11_freeze 27 = .ok (.getfield 162, 3) := by decide +kernel
theorem dX11_freeze_30 : decode cX11_freeze 30 = .ok (.iload_n 1, 1) := by decide +kernel
theorem dX11_freeze_31 : decode cX11_freeze 31 = .ok (.ishr, 1) := by decide +kernel
theorem dX11_freeze_32 : decode cX11_freeze 32 = .ok (.iconst 1, 1) := by decide +kernel
theorem dX11_freeze_33 : decode cX11_freeze 33 = .ok (.iand, 1) := by decide +kernel
theorem dX11_freeze_34 : decode cX11_freeze 34 = .ok (.istore_n 3, 1) := by decide +kernel
theorem dX11_freeze_35 : decode cX11_freeze 35 = .ok (.aload_n 0, 1) := by decide +kernel
theorem dX11_freeze_36 : decode cX11_freeze 36 = .ok (.getfield 26, 3) := by decide +kernel
theorem dX11_freeze_39 : decode cX11_freeze 39 = .ok (.iconst 1, 1) := by decide +kernel
theorem dX11_freeze_40 : decode cX11_freeze 40 = .ok (.iload_n 1, 1) := by decide +kernel
theorem dX11_freeze_41 : decode cX11_freeze 41 = .ok (.iload_n 2, 1) := by decide +kernel
theorem dX11_freeze_42 : decode cX11_freeze 42 = .ok (.invokevirtual 346, 3) := by decide +kernel
theorem dX11_freeze_45 : decode cX11_freeze 45 = .ok (.ifCond .ne 6, 3) := by decide +kernel
theorem dX11_freeze_48 : decode cX11_freeze 48 = .ok (.bipush (-5), 2) := by decide +kernel
theorem dX11_freeze_50 : decode cX11_freeze 50 = .ok (.ireturn, 1) := by decide +kernel
theorem dX11_freeze_51 : decode cX11_freeze 51 = .ok (.aload_n 0, 1) := by decide +kernel
theorem dX11_freeze_52 : decode cX11_freeze 52 = .ok (.invokevirtual 119, 3) := by decide +kernel
theorem dX11_freeze_55 : decode cX11_freeze 55 = .ok (.iload_n 3, 1) := by decide +kernel
theorem dX11_freeze_56 : decode cX11_freeze 56 = .ok (.ireturn, 1) := by decide +kernel
theorem dX11_image_0 : decode cX11_image 0 = .ok (.iload_n 1, 1) := by decide +kernel
theorem dX11_image_1 : decode cX11_image 1 = .ok (.ifCond .lt 8, 3) := by decide +kernel
theorem dX11_image_4 : decode cX11_image 4 = .ok (.iload_n 1, 1) := by decide +kernel
theorem dX11_image_5 : decode cX11_image 5 = .ok (.iconst 3, 1) := by decide +kernel
theorem dX11_image_6 : decode cX11_image 6 = .ok (.if_icmp .lt 6, 3) := by decide +kernel
theorem dX11_image_9 : decode cX11_image 9 = .ok (.bipush (-2), 2) := by decide +kernel
theorem dX11_image_11 : decode cX11_image 11 = .ok (.ireturn, 1) := by decide +kernel
theorem dX11_image_12 : decode cX11_image 12 = .ok (.aload_n 0, 1) := by decide +kernel
theorem dX11_image_13 : decode cX11_image 13 = .ok (.getfield 91, 3) := by decide +kernel
theorem dX11_image_16 : decode cX11_image 16 = .ok (.iload_n 1, 1) := by decide +kernel
theorem dX11_image_17 : decode cX11_image 17 = .ok (.aaload, 1) := by decide +kernel
theorem dX11_image_18 : decode cX11_image 18 = .ok (.astore_n 2, 1) := by decide +kernel
theorem dX11_image_19 : decode cX11_image 19 = .ok (.aload_n 2, 1) := by decide +kernel
theorem dX11_image_20 : decode cX11_image 20 = .ok (.getfield 369, 3) := by decide +kernel
theorem dX11_image_23 : decode cX11_image 23 = .ok (.aload_n 0, 1) := by decide +kernel
theorem dX11_image_24 : decode cX11_image 24 = .ok (.getfield 19, 3) := by decide +kernel
theorem dX11_image_27 : decode cX11_image 27 = .ok (.invokevirtual 112, 3) := by decide +kernel
theorem dX11_image_30 : decode cX11_image 30 = .ok (.aload_n 2, 1) := by decide +kernel
theorem dX11_image_31 : decode cX11_image 31 = .ok (.getfield 372, 3) := by decide +kernel
theorem dX11_image_34 : decode cX11_image 34 = .ok (.aload_n 0, 1) := by decide +kernel
theorem dX11_image_35 : decode cX11_image 35 = .ok (.getfield 26, 3) := by decide +kernel
theorem dX11_image_38 : decode cX11_image 38 = .ok (.invokevirtual 373, 3) := by decide +kernel
theorem dX11_image_41 : decode cX11_image 41 = .ok (.aload_n 2, 1) := by decide +kernel
theorem dX11_image_42 : decode cX11_image 42 = .ok (.iconst 1, 1) := by decide +kernel
theorem dX11_image_43 : decode cX11_image 43 = .ok (.putfield 376, 3) := by decide +kernel
theorem dX11_image_46 : decode cX11_image 46 = .ok (.iconst 0, 1) := by decide +kernel
theorem dX11_image_47 : decode cX11_image 47 = .ok (.ireturn, 1) := by decide +kernel
theorem dX11_paste_0 : decode cX11_paste 0 = .ok (.iload_n 1, 1) := by decide +kernel
theorem dX11_paste_1 : decode cX11_paste 1 = .ok (.invokestatic 380, 3) := by decide +kernel
theorem dX11_paste_4 : decode cX11_paste 4 = .ok (.ifCond .eq 10, 3) := by decide +kernel
theorem dX11_paste_7 : decode cX11_paste 7 = .ok (.iload_n 3, 1) := by decide +kernel
theorem dX11_paste_8 : decode cX11_paste 8 = .ok (.invokestatic 380, 3) := by decide +kernel
theorem dX11_paste_11 : decode cX11_paste 11 = .ok (.ifCond .ne 6, 3) := by decide +kernel
theorem dX11_paste_14 : decode cX11_paste 14 = .ok (.bipush (-2), 2) := by decide +kernel
theorem dX11_paste_16 : decode cX11_paste 16 = .ok (.ireturn, 1) := by decide +kernel
theorem dX11_paste_17 : decode cX11_paste 17 = .ok (.aload_n 0, 1) := by decide +kernel
theorem dX11_paste_18 : decode cX11_paste 18 = .ok (.getfield 85, 3) := by decide +kernel
theorem dX11_paste_21 : decode cX11_paste 21 = .ok (.iload_n 1, 1) := by decide +kernel
theorem dX11_paste_22 : decode cX11_paste 22 = .ok (.aaload, 1) := by decide +kernel
theorem dX11_paste_23 : decode cX11_paste 23 = .ok (.astore 6, 2) := by decide +kernel
theorem dX11_paste_25 : decode cX11_paste 25 = .ok (.aload_n 0, 1) := by decide +kernel
theorem dX11_paste_26 : decode cX11_paste 26 = .ok (.getfield 85, 3) := by decide +kernel
theorem dX11_paste_29 : decode cX11_paste 29 = .ok (.iload_n 3, 1) := by decide +kernel
theorem dX11_paste_30 : decode cX11_paste 30 = .ok (.aaload, 1) := by decide +kernel
theorem dX11_paste_31 : decode cX11_paste 31 = .ok (.astore 7, 2) := by decide +kernel
theorem dX11_paste_33 : decode cX11_paste 33 = .ok (.aload 6, 2) := by decide +kernel
theorem dX11_paste_35 : decode cX11_paste 35 = .ok (.getfield 386, 3) := by decide +kernel
theorem dX11_paste_38 : decode cX11_paste 38 = .ok (.ifCond .eq 11, 3) := by decide +kernel
theorem dX11_paste_41 : decode cX11_paste 41 = .ok (.aload 7, 2) := by decide +kernel
theorem dX11_paste_43 : decode cX11_paste 43 = .ok (.getfield 386, 3) := by decide +kernel
theorem dX11_paste_46 : decode cX11_paste 46 = .ok (.ifCond .ne 6, 3) := by decide +kernel
theorem dX11_paste_49 : decode cX11_paste 49 = .ok (.bipush (-6), 2) := by decide +kernel
theorem dX11_paste_51 : decode cX11_paste 51 = .ok (.ireturn, 1) := by decide +kernel
theorem dX11_paste_52 : decode cX11_paste 52 = .ok (.aload 6, 2) := by decide +kernel
theorem dX11_paste_54 : decode cX11_paste 54 = .ok (.getfield 396, 3) := by decide +kernel
theorem dX11_paste_57 : decode cX11_paste 57 = .ok (.aload 7, 2) := by decide +kernel
theorem dX11_paste_59 : decode cX11_paste 59 = .ok (.getfield 396, 3) := by decide +kernel
theorem dX11_paste_62 : decode cX11_paste 62 = .ok (.if_icmp .eq 6, 3) := by decide +kernel
theorem dX11_paste_65 : decode cX11_paste 65 = .ok (.bipush (-8), 2) := by decide +kernel
theorem dX11_paste_67 : decode cX11_paste 67 = .ok (.ireturn, 1) := by decide +kernel
theorem dX11_paste_68 : decode cX11_paste 68 = .ok (.aload 6, 2) := by decide +kernel
theorem dX11_paste_70 : decode cX11_paste 70 = .ok (.iload_n 2, 1) := by decide +kernel
theorem dX11_paste_71 : decode cX11_paste 71 = .ok (.iload 5, 2) := by decide +kernel
theorem dX11_paste_73 : decode cX11_paste 73 = .ok (.invokevirtual 399, 3) := by decide +kernel
theorem dX11_paste_76 : decode cX11_paste 76 = .ok (.ifCond .eq 15, 3) := by decide +kernel
theorem dX11_paste_79 : decode cX11_paste 79 = .ok (.aload 7, 2) := by decide +kernel
theorem dX11_paste_81 : decode cX11_paste 81 = .ok (.iload 4, 2) := by decide +kernel
theorem dX11_paste_83 : decode cX11_paste 83 = .ok (.iload 5, 2) := by decide +kernel
theorem dX11_paste_85 : decode cX11_paste 85 = .ok (.invokevirtual 399, 3) := by decide +kernel
theorem dX11_paste_88 : decode cX11_paste 88 = .ok (.ifCond .ne 6, 3) := by decide +kernel
theorem dX11_paste_91 : decode cX11_paste 91 = .ok (.bipush (-7), 2) := by decide +kernel
theorem dX11_paste_93 : decode cX11_paste 93 = .ok (.ireturn, 1) := by decide +kernel
theorem dX11_paste_94 : decode cX11_paste 94 = .ok (.aload 6, 2) := by decide +kernel
theorem dX11_paste_96 : decode cX11_paste 96 = .ok (.getfield 388, 3) := by decide +kernel
theorem dX11_paste_99 : decode cX11_paste 99 = .ok (.iload_n 2, 1) := by decide +kernel
theorem dX11_paste_100 : decode cX11_paste 100 = .ok (.aload 7, 2) := by decide +kernel
theorem dX11_paste_102 : decode cX11_paste 102 = .ok (.getfield 388, 3) := by decide +kernel
theorem dX11_paste_105 : decode cX11_paste 105 = .ok (.iload 4, 2) := by decide +kernel
theorem dX11_paste_107 : decode cX11_paste 107 = .ok (.iload 5, 2) := by decide +kernel
theorem dX11_paste_109 : decode cX11_paste 109 = .ok (.invokestatic 402, 3) := by decide +kernel
theorem dX11_paste_112 : decode cX11_paste 112 = .ok (.iconst 0, 1) := by decide +kernel
theorem dX11_paste_113 : decode cX11_paste 113 = .ok (.ireturn, 1) := by decide +kernel
theorem dX11_rate_0 : decode cX11_rate 0 = .ok (.aload_n 0, 1) := by decide +kernel
theorem dX11_rate_1 : decode cX11_rate 1 = .ok (.getfield 19, 3) := by decide +kernel
theorem dX11_rate_4 : decode cX11_rate 4 = .ok (.iload_n 1, 1) := by decide +kernel
theorem dX11_rate_5 : decode cX11_rate 5 = .ok (.invokevirtual 131, 3) := by decide +kernel
theorem dX11_rate_8 : decode cX11_rate 8 = .ok (.ifCond .eq 15, 3) := by decide +kernel
theorem dX11_rate_11 : decode cX11_rate 11 = .ok (.iload_n 2, 1) := by decide +kernel
theorem dX11_rate_12 : decode cX11_rate 12 = .ok (.iconst 1, 1) := by decide +kernel
theorem dX11_rate_13 : decode cX11_rate 13 = .ok (.if_icmp .lt 10, 3) := by decide +kernel
theorem dX11_rate_16 : decode cX11_rate 16 = .ok (.iload_n 2, 1) := by decide +kernel
theorem dX11_rate_17 : decode cX11_rate 17 = .ok (.sipush 300, 3) := by decide +kernel
theorem dX11_rate_20 : decode cX11_rate 20 = .ok (.if_icmp .le 6, 3) := by decide +kernel
theorem dX11_rate_23 : decode cX11_rate 23 = .ok (.bipush (-2), 2) := by decide +kernel
theorem dX11_rate_25 : decode cX11_rate 25 = .ok (.ireturn, 1) := by decide +kernel
theorem dX11_rate_26 : decode cX11_rate 26 = .ok (.aload_n 0, 1) := by decide +kernel
theorem dX11_rate_27 : decode cX11_rate 27 = .ok (.getfield 26, 3) := by decide +kernel
theorem dX11_rate_30 : decode cX11_rate 30 = .ok (.getfield 116, 3) := by decide +kernel
theorem dX11_rate_33 : decode cX11_rate 33 = .ok (.ifCond .le 6, 3) := by decide +kernel
theorem dX11_rate_36 : decode cX11_rate 36 = .ok (.bipush (-5), 2) := by decide +kernel
theorem dX11_rate_38 : decode cX11_rate 38 = .ok (.ireturn, 1) := by decide +kernel
theorem dX11_rate_39 : decode cX11_rate 39 = .ok (.aload_n 0, 1) := by decide +kernel
theorem dX11_rate_40 : decode cX11_rate 40 = .ok (.getfield 19, 3) := by decide +kernel
theorem dX11_rate_43 : decode cX11_rate 43 = .ok (.getfield 135, 3) := by decide +kernel
theorem dX11_rate_46 : decode cX11_rate 46 = .ok (.iload_n 1, 1) := by decide +kernel
theorem dX11_rate_47 : decode cX11_rate 47 = .ok (.iaload, 1) := by decide +kernel
theorem dX11_rate_48 : decode cX11_rate 48 = .ok (.istore_n 3, 1) := by decide +kernel
theorem dX11_rate_49 : decode cX11_rate 49 = .ok (.aload_n 0, 1) := by decide +kernel
theorem dX11_rate_50 : decode cX11_rate 50 = .ok (.getfield 19, 3) := by decide +kernel
theorem dX11_rate_53 : decode cX11_rate 53 = .ok (.getfield 135, 3) := by decide +kernel
theorem dX11_rate_56 : decode cX11_rate 56 = .ok (.iload_n 1, 1) := by decide +kernel
theorem dX11_rate_57 : decode cX11_rate 57 = .ok (.iload_n 2, 1) := by decide +kernel
theorem dX11_rate_58 : decode cX11_rate 58 = .ok (.iastore, 1) := by decide +kernel
theorem dX11_rate_59 : decode cX11_rate 59 = .ok (.aload_n 0, 1) := by decide +kernel
theorem dX11_rate_60 : decode cX11_rate 60 = .ok (.invokevirtual 119, 3) := by decide +kernel
theorem dX11_rate_63 : decode cX11_rate 63 = .ok (.iload_n 3, 1) := by decide +kernel
theorem dX11_rate_64 : decode cX11_rate 64 = .ok (.ireturn, 1) := by decide +kernel
theorem dX11_row_0 : decode cX11_row 0 = .ok (.iload_n 1, 1) := by decide +kernel
theorem dX11_row_1 : decode cX11_row 1 = .ok (.invokestatic 380, 3) := by decide +kernel
theorem dX11_row_4 : decode cX11_row 4 = .ok (.ifCond .eq 18, 3) := by decide +kernel
theorem dX11_row_7 : decode cX11_row 7 = .ok (.iload_n 2, 1) := by decide +kernel
theorem dX11_row_8 : decode cX11_row 8 = .ok (.ifCond .lt 14, 3) := by decide +kernel
theorem dX11_row_11 : decode cX11_row 11 = .ok (.iload_n 2, 1) := by decide +kernel
theorem dX11_row_12 : decode cX11_row 12 = .ok (.iconst 4, 1) := by decide +kernel
theorem dX11_row_13 : decode cX11_row 13 = .ok (.if_icmp .ge 9, 3) := by decide +kernel
theorem dX11_row_16 : decode cX11_row 16 = .ok (.iload_n 3, 1) := by decide +kernel
theorem dX11_row_17 : decode cX11_row 17 = .ok (.bipush 60, 2) := by decide +kernel
theorem dX11_row_19 : decode cX11_row 19 = .ok (.if_icmp .le 6, 3) := by decide +kernel
theorem dX11_row_22 : decode cX11_row 22 = .ok (.bipush (-2), 2) := by decide +kernel
theorem dX11_row_24 : decode cX11_row 24 = .ok (.ireturn, 1) := by decide +kernel
theorem dX11_row_25 : decode cX11_row 25 = .ok (.iload_n 3, 1) := by decide +kernel
theorem dX11_row_26 : decode cX11_row 26 = .ok (.ifCond .ge 6, 3) := by decide +kernel
theorem dX11_row_29 : decode cX11_row 29 = .ok (.bipush (-3), 2) := by decide +kernel
theorem dX11_row_31 : decode cX11_row 31 = .ok (.ireturn, 1) := by decide +kernel
theorem dX11_row_32 : decode cX11_row 32 = .ok (.aload_n 0, 1) := by decide +kernel
theorem dX11_row_33 : decode cX11_row 33 = .ok (.getfield 85, 3) := by decide +kernel
theorem dX11_row_36 : decode cX11_row 36 = .ok (.iload_n 1, 1) := by decide +kernel
theorem dX11_row_37 : decode cX11_row 37 = .ok (.aaload, 1) := by decide +kernel
theorem dX11_row_38 : decode cX11_row 38 = .ok (.iload_n 2, 1) := by decide +kernel
theorem dX11_row_39 : decode cX11_row 39 = .ok (.iload_n 3, 1) := by decide +kernel
theorem dX11_row_40 : decode cX11_row 40 = .ok (.invokevirtual 383, 3) := by decide +kernel
theorem dX11_row_43 : decode cX11_row 43 = .ok (.iconst 0, 1) := by decide +kernel
theorem dX11_row_44 : decode cX11_row 44 = .ok (.ireturn, 1) := by decide +kernel
theorem dX11_send_0 : decode cX11_send 0 = .ok (.aload_n 0, 1) := by decide +kernel
theorem dX11_send_1 : decode cX11_send 1 = .ok (.getfield 19, 3) := by decide +kernel
theorem dX11_send_4 : decode cX11_send 4 = .ok (.iload_n 1, 1) := by decide +kernel
theorem dX11_send_5 : decode cX11_send 5 = .ok (.invokevirtual 141, 3) := by decide +kernel
theorem dX11_send_8 : decode cX11_send 8 = .ok (.ifCond .eq 19, 3) := by decide +kernel
theorem dX11_send_11 : decode cX11_send 11 = .ok (.iload_n 2, 1) := by decide +kernel
theorem dX11_send_12 : decode cX11_send 12 = .ok (.iconst (-1), 1) := by decide +kernel
theorem dX11_send_13 : decode cX11_send 13 = .ok (.if_icmp .eq 17, 3) := by decide +kernel
theorem dX11_send_16 : decode cX11_send 16 = .ok (.aload_n 0, 1) := by decide +kernel
theorem dX11_send_17 : decode cX11_send 17 = .ok (.getfield 19, 3) := by decide +kernel
theorem dX11_send_20 : decode cX11_send 20 = .ok (.iload_n 2, 1) := by decide +kernel
theorem dX11_send_21 : decode cX11_send 21 = .ok (.invokevirtual 131, 3) := by decide +kernel
theorem dX11_send_24 : decode cX11_send 24 = .ok (.ifCond .ne 6, 3) := by decide +kernel
theorem dX11_send_27 : decode cX11_send 27 = .ok (.bipush (-2), 2) := by decide +kernel
theorem dX11_send_29 : decode cX11_send 29 = .ok (.ireturn, 1) := by decide +kernel
theorem dX11_send_30 : decode cX11_send 30 = .ok (.aload_n 0, 1) := by decide +kernel
theorem dX11_send_31 : decode cX11_send 31 = .ok (.getfield 33, 3) := by decide +kernel
theorem dX11_send_34 : decode cX11_send 34 = .ok (.getfield 345, 3) := by decide +kernel
theorem dX11_send_37 : decode cX11_send 37 = .ok (.iload_n 1, 1) := by decide +kernel
theorem dX11_send_38 : decode cX11_send 38 = .ok (.iaload, 1) := by decide +kernel
theorem dX11_send_39 : decode cX11_send 39 = .ok (.istore_n 3, 1) := by decide +kernel
theorem dX11_send_40 : decode cX11_send 40 = .ok (.aload_n 0, 1) := by decide +kernel
theorem dX11_send_41 : decode cX11_send 41 = .ok (.getfield 26, 3) := by decide +kernel
theorem dX11_send_44 : decode cX11_send 44 = .ok (.iconst 0, 1) := by decide +kernel
theorem dX11_send_45 : decode cX11_send 45 = .ok (.iload_n 1, 1) := by decide +kernel
theorem dX11_send_46 : decode cX11_send 46 = .ok (.iload_n 2, 1) := by decide +kernel
theorem dX11_send_47 : decode cX11_send 47 = .ok (.invokevirtual 346, 3) := by decide +kernel
theorem dX11_send_50 : decode cX11_send 50 = .ok (.ifCond .ne 6, 3) := by decide +kernel
theorem dX11_send_53 : decode cX11_send 53 = .ok (.bipush (-5), 2) := by decide +kernel
theorem dX11_send_55 : decode cX11_send 55 = .ok (.ireturn, 1) := by decide +kernel
theorem dX11_send_56 : decode cX11_send 56 = .ok (.aload_n 0, 1) := by decide +kernel
theorem dX11_send_57 : decode cX11_send 57 = .ok (.invokevirtual 119, 3) := by decide +kernel
theorem dX11_send_60 : decode cX11_send 60 = .ok (.iload_n 3, 1) := by decide +kernel
theorem dX11_send_61 : decode cX11_send 61 = .ok (.ireturn, 1) := by decide +kernel
theorem dX11_undo_0 : decode cX11_undo 0 = .ok (.aload_n 0, 1) := by decide +kernel
theorem dX11_undo_1 : decode cX11_undo 1 = .ok (.invokevirtual 180, 3) := by decide +kernel
theorem dX11_undo_4 : decode cX11_undo 4 = .ok (.ifCond .eq 6, 3) := by decide +kernel
theorem dX11_undo_7 : decode cX11_undo 7 = .ok (.bipush (-2), 2) := by decide +kernel
theorem dX11_undo_9 : decode cX11_undo 9 = .ok (.ireturn, 1) := by decide +kernel
theorem dX11_undo_10 : decode cX11_undo 10 = .ok (.aload_n 0, 1) := by decide +kernel
theorem dX11_undo_11 : decode cX11_undo 11 = .ok (.getfield 26, 3) := by decide +kernel
theorem dX11_undo_14 : decode cX11_undo 14 = .ok (.getfield 116, 3) := by decide +kernel
theorem dX11_undo_17 : decode cX11_undo 17 = .ok (.ifCond .ne 6, 3) := by decide +kernel
theorem dX11_undo_20 : decode cX11_undo 20 = .ok (.bipush (-5), 2) := by decide +kernel
theorem dX11_undo_22 : decode cX11_undo 22 = .ok (.ireturn, 1) := by decide +kernel
theorem dX11_undo_23 : decode cX11_undo 23 = .ok (.aload_n 0, 1) := by decide +kernel
theorem dX11_undo_24 : decode cX11_undo 24 = .ok (.getfield 26, 3) := by decide +kernel
theorem dX11_undo_27 : decode cX11_undo 27 = .ok (.dup, 1) := by decide +kernel
theorem dX11_undo_28 : decode cX11_undo 28 = .ok (.getfield 116, 3) := by decide +kernel
theorem dX11_undo_31 : decode cX11_undo 31 = .ok (.iconst 1, 1) := by decide +kernel
theorem dX11_undo_32 : decode cX11_undo 32 = .ok (.isub, 1) := by decide +kernel
theorem dX11_undo_33 : decode cX11_undo 33 = .ok (.putfield 116, 3) := by decide +kernel
theorem dX11_undo_36 : decode cX11_undo 36 = .ok (.aload_n 0, 1) := by decide +kernel
theorem dX11_undo_37 : decode cX11_undo 37 = .ok (.invokevirtual 119, 3) := by decide +kernel
theorem dX11_undo_40 : decode cX11_undo 40 = .ok (.aload_n 0, 1) := by decide +kernel
theorem dX11_undo_41 : decode cX11_undo 41 = .ok (.getfield 26, 3) := by decide +kernel
theorem dX11_undo_44 : decode cX11_undo 44 = .ok (.getfield 116, 3) := by decide +kernel
theorem dX11_undo_47 : decode cX11_undo 47 = .ok (.ireturn, 1) := by decide +kernel
theorem dX11_valley_0 : decode cX11_valley 0 = .ok (.aload_n 0, 1) := by decide +kernel
theorem dX11_valley_1 : decode cX11_valley 1 = .ok (.getfield 10, 3) := by decide +kernel
theorem dX11_valley_4 : decode cX11_valley 4 = .ok (.invokevirtual 105, 3) := by decide +kernel
theorem dX11_valley_7 : decode cX11_valley 7 = .ok (.ifCond .ne 6, 3) := by decide +kernel
theorem dX11_valley_10 : decode cX11_valley 10 = .ok (.bipush (-4), 2) := by decide +kernel
theorem dX11_valley_12 : decode cX11_valley 12 = .ok (.ireturn, 1) := by decide +kernel
theorem dX11_valley_13 : decode cX11_valley 13 = .ok (.aload_n 0, 1) := by decide +kernel
theorem dX11_valley_14 : decode cX11_valley 14 = .ok (.getfield 19, 3) := by decide +kernel
theorem dX11_valley_17 : decode cX11_valley 17 = .ok (.aload_n 0, 1) := by decide +kernel
theorem dX11_valley_18 : decode cX11_valley 18 = .ok (.getfield 10, 3) := by decide +kernel
theorem dX11_valley_21 : decode cX11_valley 21 = .ok (.getfield 109, 3) := by decide +kernel
theorem dX11_valley_24 : decode cX11_valley 24 = .ok (.invokevirtual 112, 3) := by decide +kernel
theorem dX11_valley_27 : decode cX11_valley 27 = .ok (.aload_n 0, 1) := by decide +kernel
theorem dX11_valley_28 : decode cX11_valley 28 = .ok (.getfield 26, 3) := by decide +kernel
theorem dX11_valley_31 : decode cX11_valley 31 = .ok (.iconst 0, 1) := by decide +kernel
theorem dX11_valley_32 : decode cX11_valley 32 = .ok (.putfield 116, 3) := by decide +kernel
theorem dX11_valley_35 : decode cX11_valley 35 = .ok (.aload_n 0, 1) := by decide +kernel
theorem dX11_valley_36 : decode cX11_valley 36 = .ok (.getfield 10, 3) := by decide +kernel
theorem dX11_valley_39 : decode cX11_valley 39 = .ok (.iconst 0, 1) := by decide +kernel
theorem dX11_valley_40 : decode cX11_valley 40 = .ok (.putfield 97, 3) := by decide +kernel
theorem dX11_valley_43 : decode cX11_valley 43 = .ok (.aload_n 0, 1) := by decide +kernel
theorem dX11_valley_44 : decode cX11_valley 44 = .ok (.invokevirtual 119, 3) := by decide +kernel
theorem dX11_valley_47 : decode cX11_valley 47 = .ok (.aload_n 0, 1) := by decide +kernel
theorem dX11_valley_48 : decode cX11_valley 48 = .ok (.getfield 19, 3) := by decide +kernel
theorem dX11_valley_51 : decode cX11_valley 51 = .ok (.getfield 122, 3) := by decide +kernel
theorem dX11_valley_54 : decode cX11_valley 54 = .ok (.ireturn, 1) := by decide +kernel
theorem dX11_write_0 : decode cX11_write 0 = .ok (.iload_n 1, 1) := by decide +kernel
theorem dX11_write_1 : decode cX11_write 1 = .ok (.invokestatic 380, 3) := by decide +kernel
theorem dX11_write_4 : decode cX11_write 4 = .ok (.ifCond .ne 6, 3) := by decide +kernel
theorem dX11_write_7 : decode cX11_write 7 = .ok (.bipush (-2), 2) := by decide +kernel
theorem dX11_write_9 : decode cX11_write 9 = .ok (.ireturn, 1) := by decide +kernel
theorem dX11_write_10 : decode cX11_write 10 = .ok (.aload_n 0, 1) := by decide +kernel
theorem dX11_write_11 : decode cX11_write 11 = .ok (.getfield 85, 3) := by decide +kernel
theorem dX11_write_14 : decode cX11_write 14 = .ok (.iload_n 1, 1) := by decide +kernel
theorem dX11_write_15 : decode cX11_write 15 = .ok (.aaload, 1) := by decide +kernel
theorem dX11_write_16 : decode cX11_write 16 = .ok (.astore 5, 2) := by decide +kernel
theorem dX11_write_18 : decode cX11_write 18 = .ok (.aload 5, 2) := by decide +kernel
theorem dX11_write_20 : decode cX11_write 20 = .ok (.getfield 386, 3) := by decide +kernel
theorem dX11_write_23 : decode cX11_write 23 = .ok (.ifCond .ne 6, 3) := by decide +kernel
theorem dX11_write_26 : decode cX11_write 26 = .ok (.bipush (-6), 2) := by decide +kernel
theorem dX11_write_28 : decode cX11_write 28 = .ok (.ireturn, 1) := by decide +kernel
theorem dX11_write_29 : decode cX11_write 29 = .ok (.iload_n 2, 1) := by decide +kernel
theorem dX11_write_30 : decode cX11_write 30 = .ok (.ifCond .lt 12, 3) := by decide +kernel
theorem dX11_write_33 : decode cX11_write 33 = .ok (.iload_n 2, 1) := by decide +kernel
theorem dX11_write_34 : decode cX11_write 34 = .ok (.aload 5, 2) := by decide +kernel
theorem dX11_write_36 : decode cX11_write 36 = .ok (.getfield 387, 3) := by decide +kernel
theorem dX11_write_39 : decode cX11_write 39 = .ok (.if_icmp .lt 6, 3) := by decide +kernel
theorem dX11_write_42 : decode cX11_write 42 = .ok (.bipush (-7), 2) := by decide +kernel
theorem dX11_write_44 : decode cX11_write 44 = .ok (.ireturn, 1) := by decide +kernel
theorem dX11_write_45 : decode cX11_write 45 = .ok (.aload 5, 2) := by decide +kernel
theorem dX11_write_47 : decode cX11_write 47 = .ok (.getfield 388, 3) := by decide +kernel
theorem dX11_write_50 : decode cX11_write 50 = .ok (.iload_n 2, 1) := by decide +kernel
theorem dX11_write_51 : decode cX11_write 51 = .ok (.aload 5, 2) := by decide +kernel
theorem dX11_write_53 : decode cX11_write 53 = .ok (.lload_n 3, 1) := by decide +kernel
theorem dX11_write_54 : decode cX11_write 54 = .ok (.invokevirtual 392, 3) := by decide +kernel
theorem dX11_write_57 : decode cX11_write 57 = .ok (.lastore, 1) := by decide +kernel
theorem dX11_write_58 : decode cX11_write 58 = .ok (.iconst 0, 1) := by decide +kernel
theorem dX11_write_59 : decode cX11_write 59 = .ok (.ireturn, 1) := by decide +kernel
