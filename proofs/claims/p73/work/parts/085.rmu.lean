theorem dX12_anew_0 : decode cX12_anew 0 = .ok (.aload_n 0, 1) := by decide +kernel
theorem dX12_anew_1 : decode cX12_anew 1 = .ok (.iconst 0, 1) := by decide +kernel
theorem dX12_anew_2 : decode cX12_anew 2 = .ok (.putfield 116, 3) := by decide +kernel
theorem dX12_anew_5 : decode cX12_anew 5 = .ok (.aload_n 0, 1) := by decide +kernel
theorem dX12_anew_6 : decode cX12_anew 6 = .ok (.invokevirtual 350, 3) := by decide +kernel
theorem dX12_anew_9 : decode cX12_anew 9 = .ok (.ifCond .ne 6, 3) := by decide +kernel
theorem dX12_anew_12 : decode cX12_anew 12 = .ok (.bipush (-2), 2) := by decide +kernel
theorem dX12_anew_14 : decode cX12_anew 14 = .ok (.ireturn, 1) := by decide +kernel
theorem dX12_anew_15 : decode cX12_anew 15 = .ok (.aload_n 0, 1) := by decide +kernel
theorem dX12_anew_16 : decode cX12_anew 16 = .ok (.getfield 34, 3) := by decide +kernel
theorem dX12_anew_19 : decode cX12_anew 19 = .ok (.bipush 7, 2) := by decide +kernel
theorem dX12_anew_21 : decode cX12_anew 21 = .ok (.iaload, 1) := by decide +kernel
theorem dX12_anew_22 : decode cX12_anew 22 = .ok (.istore_n 1, 1) := by decide +kernel
theorem dX12_anew_23 : decode cX12_anew 23 = .ok (.aload_n 0, 1) := by decide +kernel
theorem dX12_anew_24 : decode cX12_anew 24 = .ok (.getfield 34, 3) := by decide +kernel
theorem dX12_anew_27 : decode cX12_anew 27 = .ok (.bipush 7, 2) := by decide +kernel
theorem dX12_anew_29 : decode cX12_anew 29 = .ok (.iconst 0, 1) := by decide +kernel
theorem dX12_anew_30 : decode cX12_anew 30 = .ok (.iastore, 1) := by decide +kernel
theorem dX12_anew_31 : decode cX12_anew 31 = .ok (.iload_n 1, 1) := by decide +kernel
theorem dX12_anew_32 : decode cX12_anew 32 = .ok (.ireturn, 1) := by decide +kernel
theorem dX12_back_0 : decode cX12_back 0 = .ok (.aload_n 0, 1) := by decide +kernel
theorem dX12_back_1 : decode cX12_back 1 = .ok (.iconst 0, 1) := by decide +kernel
theorem dX12_back_2 : decode cX12_back 2 = .ok (.putfield 116, 3) := by decide +kernel
theorem dX12_back_5 : decode cX12_back 5 = .ok (.iload_n 1, 1) := by decide +kernel
theorem dX12_back_6 : decode cX12_back 6 = .ok (.i2l, 1) := by decide +kernel
theorem dX12_back_7 : decode cX12_back 7 = .ok (.lconst 0, 1) := by decide +kernel
theorem dX12_back_8 : decode cX12_back 8 = .ok (.ldc2_w 345, 3) := by decide +kernel
theorem dX12_back_11 : decode cX12_back 11 = .ok (.invokestatic 121, 3) := by decide +kernel
theorem dX12_back_14 : decode cX12_back 14 = .ok (.ifCond .ne 6, 3) := by decide +kernel
theorem dX12_back_17 : decode cX12_back 17 = .ok (.bipush (-2), 2) := by decide +kernel
theorem dX12_back_19 : decode cX12_back 19 = .ok (.ireturn, 1) := by decide +kernel
theorem dX12_back_20 : decode cX12_back 20 = .ok (.aload_n 0, 1) := by decide +kernel
theorem dX12_back_21 : decode cX12_back 21 = .ok (.getfield 52, 3) := by decide +kernel
theorem dX12_back_24 : decode cX12_back 24 = .ok (.iload_n 1, 1) := by decide +kernel
theorem dX12_back_25 : decode cX12_back 25 = .ok (.baload, 1) := by decide +kernel
theorem dX12_back_26 : decode cX12_back 26 = .ok (.ifCond .ne 6, 3) := by decide +kernel
theorem dX12_back_29 : decode cX12_back 29 = .ok (.bipush (-6), 2) := by decide +kernel
theorem dX12_back_31 : decode cX12_back 31 = .ok (.ireturn, 1) := by decide +kernel
theorem dX12_back_32 : decode cX12_back 32 = .ok (.aload_n 0, 1) := by decide +kernel
theorem dX12_back_33 : decode cX12_back 33 = .ok (.iconst 1, 1) := by decide +kernel
theorem dX12_back_34 : decode cX12_back 34 = .ok (.iload_n 1, 1) := by decide +kernel
theorem dX12_back_35 : decode cX12_back 35 = .ok (.iadd, 1) := by decide +kernel
theorem dX12_back_36 : decode cX12_back 36 = .ok (.iconst 0, 1) := by decide +kernel
theorem dX12_back_37 : decode cX12_back 37 = .ok (.invokevirtual 276, 3) := by decide +kernel
theorem dX12_back_40 : decode cX12_back 40 = .ok (.iconst 0, 1) := by decide +kernel
theorem dX12_back_41 : decode cX12_back 41 = .ok (.ireturn, 1) := by decide +kernel
theorem dX12_count_0 : decode cX12_count 0 = .ok (.aload_n 0, 1) := by decide +kernel
theorem dX12_count_1 : decode cX12_count 1 = .ok (.iconst 0, 1) := by decide +kernel
theorem dX12_count_2 : decode cX12_count 2 = .ok (.putfield 116, 3) := by decide +kernel
theorem dX12_count_5 : decode cX12_count 5 = .ok (.iload_n 1, 1) := by decide +kernel
theorem dX12_count_6 : decode cX12_count 6 = .ok (.i2l, 1) := by decide +kernel
theorem dX12_count_7 : decode cX12_count 7 = .ok (.lconst 0, 1) := by decide +kernel
theorem dX12_count_8 : decode cX12_count 8 = .ok (.ldc2_w 508, 3) := by decide +kernel
theorem dX12_count_11 : decode cX12_count 11 = .ok (.invokestatic 121, 3) := by decide +kernel
theorem dX12_count_14 : decode cX12_count 14 = .ok (.ifCond .eq 10, 3) := by decide +kernel
theorem dX12_count_17 : decode cX12_count 17 = .ok (.aload_n 0, 1) := by decide +kernel
theorem dX12_count_18 : decode cX12_count 18 = .ok (.getfield 34, 3) := by decide +kernel
theorem dX12_count_21 : decode cX12_count 21 = .ok (.iload_n 1, 1) := by decide +kernel
theorem dX12_count_22 : decode cX12_count 22 = .ok (.iaload, 1) := by decide +kernel
theorem dX12_count_23 : decode cX12_count 23 = .ok (.ireturn, 1) := by decide +kernel
theorem dX12_count_24 : decode cX12_count 24 = .ok (.iconst 0, 1) := by decide +kernel
theorem dX12_count_25 : decode cX12_count 25 = .ok (.istore_n 2, 1) := by decide +kernel
theorem dX12_count_26 : decode cX12_count 26 = .ok (.iload_n 1, 1) := by decide +kernel
theorem dX12_count_27 : decode cX12_count 27 = .ok (.tableswitch 70 8 10 #[25, 32, 37], 25) := by decide +kernel
theorem dX12_count_52 : decode cX12_count 52 = .ok (.aload_n 0, 1) := by decide +kernel
theorem dX12_count_53 : decode cX12_count 53 = .ok (.getfield 31, 3) := by decide +kernel
theorem dX12_count_56 : decode cX12_count 56 = .ok (.iconst 0, 1) := by decide +kernel
theorem dX12_count_57 : decode cX12_count 57 = .ok (.iaload, 1) := by decide +kernel
theorem dX12_count_58 : decode cX12_count 58 = .ok (.ireturn, 1) := by decide +kernel
theorem dX12_count_59 : decode cX12_count 59 = .ok (.aload_n 0, 1) := by decide +kernel
theorem dX12_count_60 : decode cX12_count 60 = .ok (.getfield 133, 3) := by decide +kernel
theorem dX12_count_63 : decode cX12_count 63 = .ok (.ireturn, 1) := by decide +kernel
theorem dX12_count_64 : decode cX12_count 64 = .ok (.iconst 0, 1) := by decide +kernel
theorem dX12_count_65 : decode cX12_count 65 = .ok (.istore_n 3, 1) := by decide +kernel
theorem dX12_count_66 : decode cX12_count 66 = .ok (.iload_n 3, 1) := by decide +kernel
theorem dX12_count_67 : decode cX12_count 67 = .ok (.iconst 4, 1) := by decide +kernel
theorem dX12_count_68 : decode cX12_count 68 = .ok (.if_icmp .ge 27, 3) := by decide +kernel
theorem dX12_count_71 : decode cX12_count 71 = .ok (.iload_n 2, 1) := by decide +kernel
theorem dX12_count_72 : decode cX12_count 72 = .ok (.aload_n 0, 1) := by decide +kernel
theorem dX12_count_73 : decode cX12_count 73 = .ok (.getfield 7, 3) := by decide +kernel
theorem dX12_count_76 : decode cX12_count 76 = .ok (.iload_n 3, 1) := by decide +kernel
theorem dX12_count_77 : decode cX12_count 77 = .ok (.iaload, 1) := by decide +kernel
theorem dX12_count_78 : decode cX12_count 78 = .ok (.iconst (-1), 1) := by decide +kernel
theorem dX12_count_79 : decode cX12_count 79 = .ok (.if_icmp .ne 7, 3) := by decide +kernel
theorem dX12_count_82 : decode cX12_count 82 = .ok (.iconst 0, 1) := by decide +kernel
theorem dX12_count_83 : decode cX12_count 83 = .ok (.goto 4, 3) := by decide +kernel
theorem dX12_count_86 : decode cX12_count 86 = .ok (.iconst 1, 1) := by decide +kernel
theorem dX12_count_87 : decode cX12_count 87 = .ok (.iadd, 1) := by decide +kernel
theorem dX12_count_88 : decode cX12_count 88 = .ok (.istore_n 2, 1) := by decide +kernel
theorem dX12_count_89 : decode cX12_count 89 = .ok (.iinc 3 1, 3) := by decide +kernel
theorem dX12_count_92 : decode cX12_count 92 = .ok (.goto (-26), 3) := by decide +kernel
theorem dX12_count_95 : decode cX12_count 95 = .ok (.iload_n 2, 1) := by decide +kernel
theorem dX12_count_96 : decode cX12_count 96 = .ok (.ireturn, 1) := by decide +kernel
theorem dX12_count_97 : decode cX12_count 97 = .ok (.iconst (-1), 1) := by decide +kernel
theorem dX12_count_98 : decode cX12_count 98 = .ok (.ireturn, 1) := by decide +kernel
theorem dX12_does_0 : decode cX12_does 0 = .ok (.iconst 3, 1) := by decide +kernel
theorem dX12_does_1 : decode cX12_does 1 = .ok (.aload_n 0, 1) := by decide +kernel
theorem dX12_does_2 : decode cX12_does 2 = .ok (.getfield 34, 3) := by decide +kernel
theorem dX12_does_5 : decode cX12_does 5 = .ok (.bipush 7, 2) := by decide +kernel
theorem dX12_does_7 : decode cX12_does 7 = .ok (.iaload, 1) := by decide +kernel
theorem dX12_does_8 : decode cX12_does 8 = .ok (.imul, 1) := by decide +kernel
theorem dX12_does_9 : decode cX12_does 9 = .ok (.istore 4, 2) := by decide +kernel
theorem dX12_does_11 : decode cX12_does 11 = .ok (.aload_n 0, 1) := by decide +kernel
theorem dX12_does_12 : decode cX12_does 12 = .ok (.getfield 49, 3) := by decide +kernel
theorem dX12_does_15 : decode cX12_does 15 = .ok (.iload 4, 2) := by decide +kernel
theorem dX12_does_17 : decode cX12_does 17 = .ok (.iload_n 1, 1) := by decide +kernel
theorem dX12_does_18 : decode cX12_does 18 = .ok (.iastore, 1) := by decide +kernel
theorem dX12_does_19 : decode cX12_does 19 = .ok (.aload_n 0, 1) := by decide +kernel
theorem dX12_does_20 : decode cX12_does 20 = .ok (.getfield 49, 3) := by decide +kernel
theorem dX12_does_23 : decode cX12_does 23 = .ok (.iload 4, 2) := by decide +kernel
theorem dX12_does_25 : decode cX12_does 25 = .ok (.iconst 1, 1) := by decide +kernel
theorem dX12_does_26 : decode cX12_does 26 = .ok (.iadd, 1) := by decide +kernel
theorem dX12_does_27 : decode cX12_does 27 = .ok (.iload_n 2, 1) := by decide +kernel
theorem dX12_does_28 : decode cX12_does 28 = .ok (.iastore, 1) := by decide +kernel
theorem dX12_does_29 : decode cX12_does 29 = .ok (.aload_n 0, 1) := by decide +kernel
theorem dX12_does_30 : decode cX12_does 30 = .ok (.getfield 49, 3) := by decide +kernel
theorem dX12_does_33 : decode cX12_does 33 = .ok (.iload 4, 2) := by decide +kernel
theorem dX12_does_35 : decode cX12_does 35 = .ok (.iconst 2, 1) := by decide +kernel
theorem dX12_does_36 : decode cX12_does 36 = .ok (.iadd, 1) := by decide +kernel
theorem dX12_does_37 : decode cX12_does 37 = .ok (.iload_n 3, 1) := by decide +kernel
theorem dX12_does_38 : decode cX12_does 38 = .ok (.iastore, 1) := by decide +kernel
theorem dX12_does_39 : decode cX12_does 39 = .ok (.aload_n 0, 1) := by decide +kernel
theorem dX12_does_40 : decode cX12_does 40 = .ok (.getfield 34, 3) := by decide +kernel
theorem dX12_does_43 : decode cX12_does 43 = .ok (.bipush 7, 2) := by decide +kernel
theorem dX12_does_45 : decode cX12_does 45 = .ok (.dup2, 1) := by decide +kernel
theorem dX12_does_46 : decode cX12_does 46 = .ok (.iaload, 1) := by decide +kernel
theorem dX12_does_47 : decode cX12_does 47 = .ok (.iconst 1, 1) := by decide +kernel
theorem dX12_does_48 : decode cX12_does 48 = .ok (.iadd, 1) := by decide +kernel
theorem dX12_does_49 : decode cX12_does 49 = .ok (.iastore, 1) := by decide +kernel
theorem dX12_does_50 : decode cX12_does 50 = .ok (.return_, 1) := by decide +kernel
theorem dX12_freeze_0 : decode cX12_freeze 0 = .ok (.aload_n 0, 1) := by decide +kernel
theorem dX12_freeze_1 : decode cX12_freeze 1 = .ok (.iconst 0, 1) := by decide +kernel
theorem dX12_freeze_2 : decode cX12_freeze 2 = .ok (.putfield 116, 3) := by decide +kernel
theorem dX12_freeze_5 : decode cX12_freeze 5 = .ok (.aload_n 0, 1) := by decide +kernel
theorem dX12_freeze_6 : decode cX12_freeze 6 = .ok (.iload_n 1, 1) := by decide +kernel
theorem dX12_freeze_7 : decode cX12_freeze 7 = .ok (.i2l, 1) := by decide +kernel
theorem dX12_freeze_8 : decode cX12_freeze 8 = .ok (.invokevirtual 289, 3) := by decide +kernel
theorem dX12_freeze_11 : decode cX12_freeze 11 = .ok (.ifCond .eq 10, 3) := by decide +kernel
theorem dX12_freeze_14 : decode cX12_freeze 14 = .ok (.iload_n 2, 1) := by decide +kernel
theorem dX12_freeze_15 : decode cX12_freeze 15 = .ok (.invokestatic 342, 3) := by decide +kernel
theorem dX12_freeze_18 : decode cX12_freeze 18 = .ok (.ifCond .ne 6, 3) := by decide +kernel
theorem dX12_freeze_21 : decode cX12_freeze 21 = .ok (.bipush (-2), 2) := by decide +kernel
theorem dX12_freeze_23 : decode cX12_freeze 23 = .ok (.ireturn, 1) := by decide +kernel
theorem dX12_freeze_24 : decode cX12_freeze 24 = .ok (.aload_n 0, 1) := by decide +kernel
theorem dX12_freeze_25 : decode cX12_freeze 25 = .ok (.getfield 34, 3) := by decide +kernel
theorem dX12_freeze_28 : decode cX12_freeze 28 = .ok (.bipush 7, 2) := by decide +kernel
theorem dX12_freeze_30 : decode cX12_freeze 30 = .ok (.iaload, 1) := by decide +kernel
theorem dX12_freeze_31 : decode cX12_freeze 31 = .ok (.bipush 30, 2) := by decide +kernel
theorem dX12_freeze_33 : decode cX12_freeze 33 = .ok (.if_icmp .ne 6, 3) := by decide +kernel
theorem dX12_freeze_36 : decode cX12_freeze 36 = .ok (.bipush (-5), 2) := by decide +kernel
theorem dX12_freeze_38 : decode cX12_freeze 38 = .ok (.ireturn, 1) := by decide +kernel
theorem dX12_freeze_39 : decode cX12_freeze 39 = .ok (.aload_n 0, 1) := by decide +kernel
theorem dX12_freeze_40 : decode cX12_freeze 40 = .ok (.invokevirtual 330, 3) := by decide +kernel
theorem dX12_freeze_43 : decode cX12_freeze 43 = .ok (.aload_n 0, 1) := by decide +kernel
theorem dX12_freeze_44 : decode cX12_freeze 44 = .ok (.iload_n 2, 1) := by decide +kernel
theorem dX12_freeze_45 : decode cX12_freeze 45 = .ok (.iconst 1, 1) := by decide +kernel
theorem dX12_freeze_46 : decode cX12_freeze 46 = .ok (.if_icmp .ne 7, 3) := by decide +kernel
theorem dX12_freeze_49 : decode cX12_freeze 49 = .ok (.iconst 1, 1) := by decide +kernel
theorem dX12_freeze_50 : decode cX12_freeze 50 = .ok (.goto 4, 3) := by decide +kernel
theorem dX12_freeze_53 : decode cX12_freeze 53 = .ok (.iconst 2, 1) := by decide +kernel
theorem dX12_freeze_54 : decode cX12_freeze 54 = .ok (.iload_n 1, 1) := by decide +kernel
theorem dX12_freeze_55 : decode cX12_freeze 55 = .ok (.iconst 0, 1) := by decide +kernel
theorem dX12_freeze_56 : decode cX12_freeze 56 = .ok (.invokevirtual 502, 3) := by decide +kernel
theorem dX12_freeze_59 : decode cX12_freeze 59 = .ok (.aload_n 0, 1) := by decide +kernel
theorem dX12_freeze_60 : decode cX12_freeze 60 = .ok (.getfield 298, 3) := by decide +kernel
theorem dX12_freeze_63 : decode cX12_freeze 63 = .ok (.iload_n 1, 1) := by decide +kernel
theorem dX12_freeze_64 : decode cX12_freeze 64 = .ok (.invokestatic 307, 3) := by decide +kernel
theorem dX12_freeze_67 : decode cX12_freeze 67 = .ok (.ifCond .eq 7, 3) := by decide +kernel
theorem dX12_freeze_70 : decode cX12_freeze 70 = .ok (.iconst 1, 1) := by decide +kernel
theorem dX12_freeze_71 : decode cX12_freeze 71 = .ok (.goto 4, 3) := by decide +kernel
theorem dX12_freeze_74 : decode cX12_freeze 74 = .ok (.iconst 0, 1) := by decide +kernel
theorem dX12_freeze_75 : decode cX12_freeze 75 = .ok (.ireturn, 1) := by decide +kernel
theorem dX12_image_0 : decode cX12_image 0 = .ok (.aload_n 0, 1) := by decide +kernel
theorem dX12_image_1 : decode cX12_image 1 = .ok (.iconst 0, 1) := by decide +kernel
theorem dX12_image_2 : decode cX12_image 2 = .ok (.putfield 116, 3) := by decide +kernel
theorem dX12_image_5 : decode cX12_image 5 = .ok (.iload_n 1, 1) := by decide +kernel
theorem dX12_image_6 : decode cX12_image 6 = .ok (.i2l, 1) := by decide +kernel
theorem dX12_image_7 : decode cX12_image 7 = .ok (.lconst 0, 1) := by decide +kernel
theorem dX12_image_8 : decode cX12_image 8 = .ok (.ldc2_w 345, 3) := by decide +kernel
theorem dX12_image_11 : decode cX12_image 11 = .ok (.invokestatic 121, 3) := by decide +kernel
theorem dX12_image_14 : decode cX12_image 14 = .ok (.ifCond .ne 6, 3) := by decide +kernel
theorem dX12_image_17 : decode cX12_image 17 = .ok (.bipush (-2), 2) := by decide +kernel
theorem dX12_image_19 : decode cX12_image 19 = .ok (.ireturn, 1) := by decide +kernel
theorem dX12_image_20 : decode cX12_image 20 = .ok (.aload_n 0, 1) := by decide +kernel
theorem dX12_image_21 : decode cX12_image 21 = .ok (.iconst 0, 1) := by decide +kernel
theorem dX12_image_22 : decode cX12_image 22 = .ok (.iconst 1, 1) := by decide +kernel
theorem dX12_image_23 : decode cX12_image 23 = .ok (.iload_n 1, 1) := by decide +kernel
theorem dX12_image_24 : decode cX12_image 24 = .ok (.iadd, 1) := by decide +kernel
theorem dX12_image_25 : decode cX12_image 25 = .ok (.invokevirtual 276, 3) := by decide +kernel
theorem dX12_image_28 : decode cX12_image 28 = .ok (.aload_n 0, 1) := by decide +kernel
theorem dX12_image_29 : decode cX12_image 29 = .ok (.getfield 52, 3) := by decide +kernel
theorem dX12_image_32 : decode cX12_image 32 = .ok (.iload_n 1, 1) := by decide +kernel
theorem dX12_image_33 : decode cX12_image 33 = .ok (.iconst 1, 1) := by decide +kernel
theorem dX12_image_34 : decode cX12_image 34 = .ok (.bastore, 1) := by decide +kernel
theorem dX12_image_35 : decode cX12_image 35 = .ok (.iconst 0, 1) := by decide +kernel
theorem dX12_image_36 : decode cX12_image 36 = .ok (.ireturn, 1) := by decide +kernel
theorem dX12_rate_0 : decode cX12_rate 0 = .ok (.aload_n 0, 1) := by decide +kernel
theorem dX12_rate_1 : decode cX12_rate 1 = .ok (.iconst 0, 1) := by decide +kernel
theorem dX12_rate_2 : decode cX12_rate 2 = .ok (.putfield 116, 3) := by decide +kernel
theorem dX12_rate_5 : decode cX12_rate 5 = .ok (.aload_n 0, 1) := by decide +kernel
theorem dX12_rate_6 : decode cX12_rate 6 = .ok (.iload_n 1, 1) := by decide +kernel
theorem dX12_rate_7 : decode cX12_rate 7 = .ok (.i2l, 1) := by decide +kernel
theorem dX12_rate_8 : decode cX12_rate 8 = .ok (.invokevirtual 292, 3) := by decide +kernel
theorem dX12_rate_11 : decode cX12_rate 11 = .ok (.ifCond .eq 15, 3) := by decide +kernel
theorem dX12_rate_14 : decode cX12_rate 14 = .ok (.iload_n 2, 1) := by decide +kernel
theorem dX12_rate_15 : decode cX12_rate 15 = .ok (.i2l, 1) := by decide +kernel
theorem dX12_rate_16 : decode cX12_rate 16 = .ok (.lconst 1, 1) := by decide +kernel
theorem dX12_rate_17 : decode cX12_rate 17 = .ok (.ldc2_w 506, 3) := by decide +kernel
theorem dX12_rate_20 : decode cX12_rate 20 = .ok (.invokestatic 121, 3) := by decide +kernel
theorem dX12_rate_23 : decode cX12_rate 23 = .ok (.ifCond .ne 6, 3) := by decide +kernel
theorem dX12_rate_26 : decode cX12_rate 26 = .ok (.bipush (-2), 2) := by decide +kernel
theorem dX12_rate_28 : decode cX12_rate 28 = .ok (.ireturn, 1) := by decide +kernel
theorem dX12_rate_29 : decode cX12_rate 29 = .ok (.aload_n 0, 1) := by decide +kernel
theorem dX12_rate_30 : decode cX12_rate 30 = .ok (.getfield 34, 3) := by decide +kernel
theorem dX12_rate_33 : decode cX12_rate 33 = .ok (.bipush 7, 2) := by decide +kernel
theorem dX12_rate_35 : decode cX12_rate 35 = .ok (.iaload, 1) := by decide +kernel
theorem dX12_rate_36 : decode cX12_rate 36 = .ok (.ifCond .le 6, 3) := by decide +kernel
theorem dX12_rate_39 : decode cX12_rate 39 = .ok (.bipush (-5), 2) := by decide +kernel
theorem dX12_rate_41 : decode cX12_rate 41 = .ok (.ireturn, 1) := by decide +kernel
theorem dX12_rate_42 : decode cX12_rate 42 = .ok (.aload_n 0, 1) := by decide +kernel
theorem dX12_rate_43 : decode cX12_rate 43 = .ok (.getfield 37, 3) := by decide +kernel
theorem dX12_rate_46 : decode cX12_rate 46 = .ok (.iconst 2, 1) := by decide +kernel
theorem dX12_rate_47 : decode cX12_rate 47 = .ok (.iload_n 1, 1) := by decide +kernel
theorem dX12_rate_48 : decode cX12_rate 48 = .ok (.imul, 1) := by decide +kernel
theorem dX12_rate_49 : decode cX12_rate 49 = .ok (.iaload, 1) := by decide +kernel
theorem dX12_rate_50 : decode cX12_rate 50 = .ok (.istore_n 3, 1) := by decide +kernel
theorem dX12_rate_51 : decode cX12_rate 51 = .ok (.aload_n 0, 1) := by decide +kernel
theorem dX12_rate_52 : decode cX12_rate 52 = .ok (.getfield 37, 3) := by decide +kernel
theorem dX12_rate_55 : decode cX12_rate 55 = .ok (.iconst 2, 1) := by decide +kernel
theorem dX12_rate_56 : decode cX12_rate 56 = .ok (.iload_n 1, 1) := by decide +kernel
theorem dX12_rate_57 : decode cX12_rate 57 = .ok (.imul, 1) := by decide +kernel
theorem dX12_rate_58 : decode cX12_rate 58 = .ok (.iload_n 2, 1) := by decide +kernel
theorem dX12_rate_59 : decode cX12_rate 59 = .ok (.iastore, 1) := by decide +kernel
theorem dX12_rate_60 : decode cX12_rate 60 = .ok (.iload_n 3, 1) := by decide +kernel
theorem dX12_rate_61 : decode cX12_rate 61 = .ok (.ireturn, 1) := by decide +kernel
theorem dX12_send_0 : decode cX12_send 0 = .ok (.aload_n 0, 1) := by decide +kernel
theorem dX12_send_1 : decode cX12_send 1 = .ok (.iconst 0, 1) := by decide +kernel
theorem dX12_send_2 : decode cX12_send 2 = .ok (.putfield 116, 3) := by decide +kernel
theorem dX12_send_5 : decode cX12_send 5 = .ok (.aload_n 0, 1) := by decide +kernel
theorem dX12_send_6 : decode cX12_send 6 = .ok (.iload_n 1, 1) := by decide +kernel
theorem dX12_send_7 : decode cX12_send 7 = .ok (.i2l, 1) := by decide +kernel
theorem dX12_send_8 : decode cX12_send 8 = .ok (.invokevirtual 289, 3) := by decide +kernel
theorem dX12_send_11 : decode cX12_send 11 = .ok (.ifCond .eq 17, 3) := by decide +kernel
theorem dX12_send_14 : decode cX12_send 14 = .ok (.iload_n 2, 1) := by decide +kernel
theorem dX12_send_15 : decode cX12_send 15 = .ok (.iconst (-1), 1) := by decide +kernel
theorem dX12_send_16 : decode cX12_send 16 = .ok (.if_icmp .eq 15, 3) := by decide +kernel
theorem dX12_send_19 : decode cX12_send 19 = .ok (.aload_n 0, 1) := by decide +kernel
theorem dX12_send_20 : decode cX12_send 20 = .ok (.iload_n 2, 1) := by decide +kernel
theorem dX12_send_21 : decode cX12_send 21 = .ok (.i2l, 1) := by decide +kernel
theorem dX12_send_22 : decode cX12_send 22 = .ok (.invokevirtual 292, 3) := by decide +kernel
theorem dX12_send_25 : decode cX12_send 25 = .ok (.ifCond .ne 6, 3) := by decide +kernel
theorem dX12_send_28 : decode cX12_send 28 = .ok (.bipush (-2), 2) := by decide +kernel
theorem dX12_send_30 : decode cX12_send 30 = .ok (.ireturn, 1) := by decide +kernel
theorem dX12_send_31 : decode cX12_send 31 = .ok (.aload_n 0, 1) := by decide +kernel
theorem dX12_send_32 : decode cX12_send 32 = .ok (.getfield 34, 3) := by decide +kernel
theorem dX12_send_35 : decode cX12_send 35 = .ok (.bipush 7, 2) := by decide +kernel
theorem dX12_send_37 : decode cX12_send 37 = .ok (.iaload, 1) := by decide +kernel
theorem dX12_send_38 : decode cX12_send 38 = .ok (.bipush 30, 2) := by decide +kernel
theorem dX12_send_40 : decode cX12_send 40 = .ok (.if_icmp .ne 6, 3) := by decide +kernel
theorem dX12_send_43 : decode cX12_send 43 = .ok (.bipush (-5), 2) := by decide +kernel
theorem dX12_send_45 : decode cX12_send 45 = .ok (.ireturn, 1) := by decide +kernel
theorem dX12_send_46 : decode cX12_send 46 = .ok (.aload_n 0, 1) := by decide +kernel
theorem dX12_send_47 : decode cX12_send 47 = .ok (.invokevirtual 330, 3) := by decide +kernel
theorem dX12_send_50 : decode cX12_send 50 = .ok (.aload_n 0, 1) := by decide +kernel
theorem dX12_send_51 : decode cX12_send 51 = .ok (.iconst 0, 1) := by decide +kernel
theorem dX12_send_52 : decode cX12_send 52 = .ok (.iload_n 1, 1) := by decide +kernel
theorem dX12_send_53 : decode cX12_send 53 = .ok (.iload_n 2, 1) := by decide +kernel
theorem dX12_send_54 : decode cX12_send 54 = .ok (.invokevirtual 502, 3) := by decide +kernel
theorem dX12_send_57 : decode cX12_send 57 = .ok (.aload_n 0, 1) := by decide +kernel
theorem dX12_send_58 : decode cX12_send 58 = .ok (.getfield 59, 3) := by decide +kernel
theorem dX12_send_61 : decode cX12_send 61 = .ok (.iload_n 1, 1) := by decide +kernel
theorem dX12_send_62 : decode cX12_send 62 = .ok (.iaload, 1) := by decide +kernel
theorem dX12_send_63 : decode cX12_send 63 = .ok (.ireturn, 1) := by decide +kernel
theorem dX12_undo_0 : decode cX12_undo 0 = .ok (.aload_n 0, 1) := by decide +kernel
theorem dX12_undo_1 : decode cX12_undo 1 = .ok (.iconst 0, 1) := by decide +kernel
theorem dX12_undo_2 : decode cX12_undo 2 = .ok (.putfield 116, 3) := by decide +kernel
theorem dX12_undo_5 : decode cX12_undo 5 = .ok (.aload_n 0, 1) := by decide +kernel
theorem dX12_undo_6 : decode cX12_undo 6 = .ok (.invokevirtual 350, 3) := by decide +kernel
theorem dX12_undo_9 : decode cX12_undo 9 = .ok (.ifCond .ne 6, 3) := by decide +kernel
theorem dX12_undo_12 : decode cX12_undo 12 = .ok (.bipush (-2), 2) := by decide +kernel
theorem dX12_undo_14 : decode cX12_undo 14 = .ok (.ireturn, 1) := by decide +kernel
theorem dX12_undo_15 : decode cX12_undo 15 = .ok (.aload_n 0, 1) := by decide +kernel
theorem dX12_undo_16 : decode cX12_undo 16 = .ok (.getfield 34, 3) := by decide +kernel
theorem dX12_undo_19 : decode cX12_undo 19 = .ok (.bipush 7, 2) := by decide +kernel
theorem dX12_undo_21 : decode cX12_undo 21 = .ok (.iaload, 1) := by decide +kernel
theorem dX12_undo_22 : decode cX12_undo 22 = .ok (.ifCond .ne 6, 3) := by decide +kernel
theorem dX12_undo_25 : decode cX12_undo 25 = .ok (.bipush (-5), 2) := by decide +kernel
theorem dX12_undo_27 : decode cX12_undo 27 = .ok (.ireturn, 1) := by decide +kernel
theorem dX12_undo_28 : decode cX12_undo 28 = .ok (.aload_n 0, 1) := by decide +kernel
theorem dX12_undo_29 : decode cX12_undo 29 = .ok (.getfield 34, 3) := by decide +kernel
theorem dX12_undo_32 : decode cX12_undo 32 = .ok (.bipush 7, 2) := by decide +kernel
theorem dX12_undo_34 : decode cX12_undo 34 = .ok (.dup2, 1) := by decide +kernel
theorem dX12_undo_35 : decode cX12_undo 35 = .ok (.iaload, 1) := by decide +kernel
theorem dX12_undo_36 : decode cX12_undo 36 = .ok (.iconst 1, 1) := by decide +kernel
theorem dX12_undo_37 : decode cX12_undo 37 = .ok (.isub, 1) := by decide +kernel
theorem dX12_undo_38 : decode cX12_undo 38 = .ok (.iastore, 1) := by decide +kernel
theorem dX12_undo_39 : decode cX12_undo 39 = .ok (.aload_n 0, 1) := by decide +kernel
theorem dX12_undo_40 : decode cX12_undo 40 = .ok (.getfield 34, 3) := by decide +kernel
theorem dX12_undo_43 : decode cX12_undo 43 = .ok (.bipush 7, 2) := by decide +kernel
theorem dX12_undo_45 : decode cX12_undo 45 = .ok (.iaload, 1) := by decide +kernel
theorem dX12_undo_46 : decode cX12_undo 46 = .ok (.ireturn, 1) := by decide +kernel
