theorem dX12_ask_0 : decode cX12_ask 0 = .ok (.aload_n 0, 1) := by decide +kernel
theorem dX12_ask_1 : decode cX12_ask 1 = .ok (.iconst 0, 1) := by decide +kernel
theorem dX12_ask_2 : decode cX12_ask 2 = .ok (.putfield 116, 3) := by decide +kernel
theorem dX12_ask_5 : decode cX12_ask 5 = .ok (.aload_n 0, 1) := by decide +kernel
theorem dX12_ask_6 : decode cX12_ask 6 = .ok (.iload_n 1, 1) := by decide +kernel
theorem dX12_ask_7 : decode cX12_ask 7 = .ok (.iload_n 2, 1) := by decide +kernel
theorem dX12_ask_8 : decode cX12_ask 8 = .ok (.invokevirtual 416, 3) := by decide +kernel
theorem dX12_ask_11 : decode cX12_ask 11 = .ok (.istore_n 3, 1) := by decide +kernel
theorem dX12_ask_12 : decode cX12_ask 12 = .ok (.iload_n 3, 1) := by decide +kernel
theorem dX12_ask_13 : decode cX12_ask 13 = .ok (.ifCond .eq 5, 3) := by decide +kernel
theorem dX12_ask_16 : decode cX12_ask 16 = .ok (.iload_n 3, 1) := by decide +kernel
theorem dX12_ask_17 : decode cX12_ask 17 = .ok (.ireturn, 1) := by decide +kernel
theorem dX12_ask_18 : decode cX12_ask 18 = .ok (.aload_n 0, 1) := by decide +kernel
theorem dX12_ask_19 : decode cX12_ask 19 = .ok (.iload_n 1, 1) := by decide +kernel
theorem dX12_ask_20 : decode cX12_ask 20 = .ok (.iload_n 2, 1) := by decide +kernel
theorem dX12_ask_21 : decode cX12_ask 21 = .ok (.invokevirtual 419, 3) := by decide +kernel
theorem dX12_ask_24 : decode cX12_ask 24 = .ok (.aload_n 0, 1) := by decide +kernel
theorem dX12_ask_25 : decode cX12_ask 25 = .ok (.getfield 410, 3) := by decide +kernel
theorem dX12_ask_28 : decode cX12_ask 28 = .ok (.ireturn, 1) := by decide +kernel
theorem dX12_fewest_0 : decode cX12_fewest 0 = .ok (.aload_n 0, 1) := by decide +kernel
theorem dX12_fewest_1 : decode cX12_fewest 1 = .ok (.iconst 0, 1) := by decide +kernel
theorem dX12_fewest_2 : decode cX12_fewest 2 = .ok (.putfield 116, 3) := by decide +kernel
theorem dX12_fewest_5 : decode cX12_fewest 5 = .ok (.aload_n 0, 1) := by decide +kernel
theorem dX12_fewest_6 : decode cX12_fewest 6 = .ok (.iload_n 1, 1) := by decide +kernel
theorem dX12_fewest_7 : decode cX12_fewest 7 = .ok (.iload_n 2, 1) := by decide +kernel
theorem dX12_fewest_8 : decode cX12_fewest 8 = .ok (.invokevirtual 416, 3) := by decide +kernel
theorem dX12_fewest_11 : decode cX12_fewest 11 = .ok (.istore_n 3, 1) := by decide +kernel
theorem dX12_fewest_12 : decode cX12_fewest 12 = .ok (.iload_n 3, 1) := by decide +kernel
theorem dX12_fewest_13 : decode cX12_fewest 13 = .ok (.ifCond .eq 5, 3) := by decide +kernel
theorem dX12_fewest_16 : decode cX12_fewest 16 = .ok (.iload_n 3, 1) := by decide +kernel
theorem dX12_fewest_17 : decode cX12_fewest 17 = .ok (.ireturn, 1) := by decide +kernel
theorem dX12_fewest_18 : decode cX12_fewest 18 = .ok (.aload_n 0, 1) := by decide +kernel
theorem dX12_fewest_19 : decode cX12_fewest 19 = .ok (.iload_n 1, 1) := by decide +kernel
theorem dX12_fewest_20 : decode cX12_fewest 20 = .ok (.iload_n 2, 1) := by decide +kernel
theorem dX12_fewest_21 : decode cX12_fewest 21 = .ok (.invokevirtual 419, 3) := by decide +kernel
theorem dX12_fewest_24 : decode cX12_fewest 24 = .ok (.aload_n 0, 1) := by decide +kernel
theorem dX12_fewest_25 : decode cX12_fewest 25 = .ok (.getfield 401, 3) := by decide +kernel
theorem dX12_fewest_28 : decode cX12_fewest 28 = .ok (.ireturn, 1) := by decide +kernel
theorem dX12_forget_0 : decode cX12_forget 0 = .ok (.aload_n 0, 1) := by decide +kernel
theorem dX12_forget_1 : decode cX12_forget 1 = .ok (.iconst 0, 1) := by decide +kernel
theorem dX12_forget_2 : decode cX12_forget 2 = .ok (.putfield 116, 3) := by decide +kernel
theorem dX12_forget_5 : decode cX12_forget 5 = .ok (.aload_n 0, 1) := by decide +kernel
theorem dX12_forget_6 : decode cX12_forget 6 = .ok (.invokevirtual 350, 3) := by decide +kernel
theorem dX12_forget_9 : decode cX12_forget 9 = .ok (.ifCond .ne 6, 3) := by decide +kernel
theorem dX12_forget_12 : decode cX12_forget 12 = .ok (.bipush (-2), 2) := by decide +kernel
theorem dX12_forget_14 : decode cX12_forget 14 = .ok (.ireturn, 1) := by decide +kernel
theorem dX12_forget_15 : decode cX12_forget 15 = .ok (.iconst (-1), 1) := by decide +kernel
theorem dX12_forget_16 : decode cX12_forget 16 = .ok (.istore_n 1, 1) := by decide +kernel
theorem dX12_forget_17 : decode cX12_forget 17 = .ok (.aload_n 0, 1) := by decide +kernel
theorem dX12_forget_18 : decode cX12_forget 18 = .ok (.invokevirtual 386, 3) := by decide +kernel
theorem dX12_forget_21 : decode cX12_forget 21 = .ok (.istore_n 2, 1) := by decide +kernel
theorem dX12_forget_22 : decode cX12_forget 22 = .ok (.iconst 0, 1) := by decide +kernel
theorem dX12_forget_23 : decode cX12_forget 23 = .ok (.istore_n 3, 1) := by decide +kernel
theorem dX12_forget_24 : decode cX12_forget 24 = .ok (.iload_n 3, 1) := by decide +kernel
theorem dX12_forget_25 : decode cX12_forget 25 = .ok (.aload_n 0, 1) := by decide +kernel
theorem dX12_forget_26 : decode cX12_forget 26 = .ok (.invokevirtual 286, 3) := by decide +kernel
theorem dX12_forget_29 : decode cX12_forget 29 = .ok (.if_icmp .ge 47, 3) := by decide +kernel
theorem dX12_forget_32 : decode cX12_forget 32 = .ok (.aload_n 0, 1) := by decide +kernel
theorem dX12_forget_33 : decode cX12_forget 33 = .ok (.invokevirtual 330, 3) := by decide +kernel
theorem dX12_forget_36 : decode cX12_forget 36 = .ok (.aload_n 0, 1) := by decide +kernel
theorem dX12_forget_37 : decode cX12_forget 37 = .ok (.dup, 1) := by decide +kernel
theorem dX12_forget_38 : decode cX12_forget 38 = .ok (.getfield 298, 3) := by decide +kernel
theorem dX12_forget_41 : decode cX12_forget 41 = .ok (.iconst 1, 1) := by decide +kernel
theorem dX12_forget_42 : decode cX12_forget 42 = .ok (.iload_n 3, 1) := by decide +kernel
theorem dX12_forget_43 : decode cX12_forget 43 = .ok (.ishl, 1) := by decide +kernel
theorem dX12_forget_44 : decode cX12_forget 44 = .ok (.ior, 1) := by decide +kernel
theorem dX12_forget_45 : decode cX12_forget 45 = .ok (.putfield 298, 3) := by decide +kernel
theorem dX12_forget_48 : decode cX12_forget 48 = .ok (.aload_n 0, 1) := by decide +kernel
theorem dX12_forget_49 : decode cX12_forget 49 = .ok (.invokevirtual 333, 3) := by decide +kernel
theorem dX12_forget_52 : decode cX12_forget 52 = .ok (.aload_n 0, 1) := by decide +kernel
theorem dX12_forget_53 : decode cX12_forget 53 = .ok (.invokevirtual 339, 3) := by decide +kernel
theorem dX12_forget_56 : decode cX12_forget 56 = .ok (.iload_n 2, 1) := by decide +kernel
theorem dX12_forget_57 : decode cX12_forget 57 = .ok (.if_icmp .lt 6, 3) := by decide +kernel
theorem dX12_forget_60 : decode cX12_forget 60 = .ok (.goto 10, 3) := by decide +kernel
theorem dX12_forget_63 : decode cX12_forget 63 = .ok (.iload_n 3, 1) := by decide +kernel
theorem dX12_forget_64 : decode cX12_forget 64 = .ok (.istore_n 1, 1) := by decide +kernel
theorem dX12_forget_65 : decode cX12_forget 65 = .ok (.aload_n 0, 1) := by decide +kernel
theorem dX12_forget_66 : decode cX12_forget 66 = .ok (.invokevirtual 339, 3) := by decide +kernel
theorem dX12_forget_69 : decode cX12_forget 69 = .ok (.istore_n 2, 1) := by decide +kernel
theorem dX12_forget_70 : decode cX12_forget 70 = .ok (.iinc 3 1, 3) := by decide +kernel
theorem dX12_forget_73 : decode cX12_forget 73 = .ok (.goto (-49), 3) := by decide +kernel
theorem dX12_forget_76 : decode cX12_forget 76 = .ok (.iload_n 1, 1) := by decide +kernel
theorem dX12_forget_77 : decode cX12_forget 77 = .ok (.ireturn, 1) := by decide +kernel
theorem dX12_isLeft_0 : decode cX12_isLeft 0 = .ok (.aload_n 0, 1) := by decide +kernel
theorem dX12_isLeft_1 : decode cX12_isLeft 1 = .ok (.invokevirtual 324, 3) := by decide +kernel
theorem dX12_isLeft_4 : decode cX12_isLeft 4 = .ok (.iconst 0, 1) := by decide +kernel
theorem dX12_isLeft_5 : decode cX12_isLeft 5 = .ok (.istore 4, 2) := by decide +kernel
theorem dX12_isLeft_7 : decode cX12_isLeft 7 = .ok (.iload 4, 2) := by decide +kernel
theorem dX12_isLeft_9 : decode cX12_isLeft 9 = .ok (.aload_n 0, 1) := by decide +kernel
theorem dX12_isLeft_10 : decode cX12_isLeft 10 = .ok (.invokevirtual 286, 3) := by decide +kernel
theorem dX12_isLeft_13 : decode cX12_isLeft 13 = .ok (.if_icmp .ge 33, 3) := by decide +kernel
theorem dX12_isLeft_16 : decode cX12_isLeft 16 = .ok (.iload_n 3, 1) := by decide +kernel
theorem dX12_isLeft_17 : decode cX12_isLeft 17 = .ok (.iload 4, 2) := by decide +kernel
theorem dX12_isLeft_19 : decode cX12_isLeft 19 = .ok (.invokestatic 307, 3) := by decide +kernel
theorem dX12_isLeft_22 : decode cX12_isLeft 22 = .ok (.ifCond .eq 18, 3) := by decide +kernel
theorem dX12_isLeft_25 : decode cX12_isLeft 25 = .ok (.aload_n 0, 1) := by decide +kernel
theorem dX12_isLeft_26 : decode cX12_isLeft 26 = .ok (.iload_n 2, 1) := by decide +kernel
theorem dX12_isLeft_27 : decode cX12_isLeft 27 = .ok (.aload_n 0, 1) := by decide +kernel
theorem dX12_isLeft_28 : decode cX12_isLeft 28 = .ok (.getfield 56, 3) := by decide +kernel
theorem dX12_isLeft_31 : decode cX12_isLeft 31 = .ok (.iload 4, 2) := by decide +kernel
theorem dX12_isLeft_33 : decode cX12_isLeft 33 = .ok (.iaload, 1) := by decide +kernel
theorem dX12_isLeft_34 : decode cX12_isLeft 34 = .ok (.iload 4, 2) := by decide +kernel
theorem dX12_isLeft_36 : decode cX12_isLeft 36 = .ok (.invokevirtual 320, 3) := by decide +kernel
theorem dX12_isLeft_39 : decode cX12_isLeft 39 = .ok (.pop, 1) := by decide +kernel
theorem dX12_isLeft_40 : decode cX12_isLeft 40 = .ok (.iinc 4 1, 3) := by decide +kernel
theorem dX12_isLeft_43 : decode cX12_isLeft 43 = .ok (.goto (-36), 3) := by decide +kernel
theorem dX12_isLeft_46 : decode cX12_isLeft 46 = .ok (.aload_n 0, 1) := by decide +kernel
theorem dX12_isLeft_47 : decode cX12_isLeft 47 = .ok (.getfield 13, 3) := by decide +kernel
theorem dX12_isLeft_50 : decode cX12_isLeft 50 = .ok (.iload_n 1, 1) := by decide +kernel
theorem dX12_isLeft_51 : decode cX12_isLeft 51 = .ok (.iaload, 1) := by decide +kernel
theorem dX12_isLeft_52 : decode cX12_isLeft 52 = .ok (.aload_n 0, 1) := by decide +kernel
theorem dX12_isLeft_53 : decode cX12_isLeft 53 = .ok (.getfield 71, 3) := by decide +kernel
theorem dX12_isLeft_56 : decode cX12_isLeft 56 = .ok (.iload_n 2, 1) := by decide +kernel
theorem dX12_isLeft_57 : decode cX12_isLeft 57 = .ok (.iaload, 1) := by decide +kernel
theorem dX12_isLeft_58 : decode cX12_isLeft 58 = .ok (.if_icmp .eq 5, 3) := by decide +kernel
theorem dX12_isLeft_61 : decode cX12_isLeft 61 = .ok (.iconst 0, 1) := by decide +kernel
theorem dX12_isLeft_62 : decode cX12_isLeft 62 = .ok (.ireturn, 1) := by decide +kernel
theorem dX12_isLeft_63 : decode cX12_isLeft 63 = .ok (.iconst 0, 1) := by decide +kernel
theorem dX12_isLeft_64 : decode cX12_isLeft 64 = .ok (.istore 4, 2) := by decide +kernel
theorem dX12_isLeft_66 : decode cX12_isLeft 66 = .ok (.iload 4, 2) := by decide +kernel
theorem dX12_isLeft_68 : decode cX12_isLeft 68 = .ok (.aload_n 0, 1) := by decide +kernel
theorem dX12_isLeft_69 : decode cX12_isLeft 69 = .ok (.getfield 71, 3) := by decide +kernel
theorem dX12_isLeft_72 : decode cX12_isLeft 72 = .ok (.iload_n 2, 1) := by decide +kernel
theorem dX12_isLeft_73 : decode cX12_isLeft 73 = .ok (.iaload, 1) := by decide +kernel
theorem dX12_isLeft_74 : decode cX12_isLeft 74 = .ok (.if_icmp .ge 40, 3) := by decide +kernel
theorem dX12_isLeft_77 : decode cX12_isLeft 77 = .ok (.aload_n 0, 1) := by decide +kernel
theorem dX12_isLeft_78 : decode cX12_isLeft 78 = .ok (.getfield 16, 3) := by decide +kernel
theorem dX12_isLeft_81 : decode cX12_isLeft 81 = .ok (.bipush 60, 2) := by decide +kernel
theorem dX12_isLeft_83 : decode cX12_isLeft 83 = .ok (.iload_n 1, 1) := by decide +kernel
theorem dX12_isLeft_84 : decode cX12_isLeft 84 = .ok (.imul, 1) := by decide +kernel
theorem dX12_isLeft_85 : decode cX12_isLeft 85 = .ok (.iload 4, 2) := by decide +kernel
theorem dX12_isLeft_87 : decode cX12_isLeft 87 = .ok (.iadd, 1) := by decide +kernel
theorem dX12_isLeft_88 : decode cX12_isLeft 88 = .ok (.laload, 1) := by decide +kernel
theorem dX12_isLeft_89 : decode cX12_isLeft 89 = .ok (.aload_n 0, 1) := by decide +kernel
theorem dX12_isLeft_90 : decode cX12_isLeft 90 = .ok (.getfield 65, 3) := by decide +kernel
theorem dX12_isLeft_93 : decode cX12_isLeft 93 = .ok (.bipush 8, 2) := by decide +kernel
theorem dX12_isLeft_95 : decode cX12_isLeft 95 = .ok (.iload_n 2, 1) := by decide +kernel
theorem dX12_isLeft_96 : decode cX12_isLeft 96 = .ok (.imul, 1) := by decide +kernel
theorem dX12_isLeft_97 : decode cX12_isLeft 97 = .ok (.iload 4, 2) := by decide +kernel
theorem dX12_isLeft_99 : decode cX12_isLeft 99 = .ok (.iadd, 1) := by decide +kernel
theorem dX12_isLeft_100 : decode cX12_isLeft 100 = .ok (.iaload, 1) := by decide +kernel
theorem dX12_isLeft_101 : decode cX12_isLeft 101 = .ok (.i2l, 1) := by decide +kernel
theorem dX12_isLeft_102 : decode cX12_isLeft 102 = .ok (.lcmp, 1) := by decide +kernel
theorem dX12_isLeft_103 : decode cX12_isLeft 103 = .ok (.ifCond .eq 5, 3) := by decide +kernel
theorem dX12_isLeft_106 : decode cX12_isLeft 106 = .ok (.iconst 0, 1) := by decide +kernel
theorem dX12_isLeft_107 : decode cX12_isLeft 107 = .ok (.ireturn, 1) := by decide +kernel
theorem dX12_isLeft_108 : decode cX12_isLeft 108 = .ok (.iinc 4 1, 3) := by decide +kernel
theorem dX12_isLeft_111 : decode cX12_isLeft 111 = .ok (.goto (-45), 3) := by decide +kernel
theorem dX12_isLeft_114 : decode cX12_isLeft 114 = .ok (.iconst 1, 1) := by decide +kernel
theorem dX12_isLeft_115 : decode cX12_isLeft 115 = .ok (.ireturn, 1) := by decide +kernel
theorem dX12_laysSets_0 : decode cX12_laysSets 0 = .ok (.aload_n 0, 1) := by decide +kernel
theorem dX12_laysSets_1 : decode cX12_laysSets 1 = .ok (.invokevirtual 330, 3) := by decide +kernel
theorem dX12_laysSets_4 : decode cX12_laysSets 4 = .ok (.iconst 0, 1) := by decide +kernel
theorem dX12_laysSets_5 : decode cX12_laysSets 5 = .ok (.istore_n 3, 1) := by decide +kernel
theorem dX12_laysSets_6 : decode cX12_laysSets 6 = .ok (.iconst 0, 1) := by decide +kernel
theorem dX12_laysSets_7 : decode cX12_laysSets 7 = .ok (.istore 4, 2) := by decide +kernel
theorem dX12_laysSets_9 : decode cX12_laysSets 9 = .ok (.iload 4, 2) := by decide +kernel
theorem dX12_laysSets_11 : decode cX12_laysSets 11 = .ok (.aload_n 0, 1) := by decide +kernel
theorem dX12_laysSets_12 : decode cX12_laysSets 12 = .ok (.invokevirtual 286, 3) := by decide +kernel
theorem dX12_laysSets_15 : decode cX12_laysSets 15 = .ok (.if_icmp .ge 43, 3) := by decide +kernel
theorem dX12_laysSets_18 : decode cX12_laysSets 18 = .ok (.iload_n 3, 1) := by decide +kernel
theorem dX12_laysSets_19 : decode cX12_laysSets 19 = .ok (.aload_n 0, 1) := by decide +kernel
theorem dX12_laysSets_20 : decode cX12_laysSets 20 = .ok (.getfield 40, 3) := by decide +kernel
theorem dX12_laysSets_23 : decode cX12_laysSets 23 = .ok (.iconst 2, 1) := by decide +kernel
theorem dX12_laysSets_24 : decode cX12_laysSets 24 = .ok (.iload 4, 2) := by decide +kernel
theorem dX12_laysSets_26 : decode cX12_laysSets 26 = .ok (.imul, 1) := by decide +kernel
theorem dX12_laysSets_27 : decode cX12_laysSets 27 = .ok (.iconst 1, 1) := by decide +kernel
theorem dX12_laysSets_28 : decode cX12_laysSets 28 = .ok (.iadd, 1) := by decide +kernel
theorem dX12_laysSets_29 : decode cX12_laysSets 29 = .ok (.iaload, 1) := by decide +kernel
theorem dX12_laysSets_30 : decode cX12_laysSets 30 = .ok (.iload_n 2, 1) := by decide +kernel
theorem dX12_laysSets_31 : decode cX12_laysSets 31 = .ok (.if_icmp .ne 10, 3) := by decide +kernel
theorem dX12_laysSets_34 : decode cX12_laysSets 34 = .ok (.iconst 1, 1) := by decide +kernel
theorem dX12_laysSets_35 : decode cX12_laysSets 35 = .ok (.iload 4, 2) := by decide +kernel
theorem dX12_laysSets_37 : decode cX12_laysSets 37 = .ok (.ishl, 1) := by decide +kernel
theorem dX12_laysSets_38 : decode cX12_laysSets 38 = .ok (.goto 4, 3) := by decide +kernel
theorem dX12_laysSets_41 : decode cX12_laysSets 41 = .ok (.iconst 0, 1) := by decide +kernel
theorem dX12_laysSets_42 : decode cX12_laysSets 42 = .ok (.ior, 1) := by decide +kernel
theorem dX12_laysSets_43 : decode cX12_laysSets 43 = .ok (.istore_n 3, 1) := by decide +kernel
theorem dX12_laysSets_44 : decode cX12_laysSets 44 = .ok (.aload_n 0, 1) := by decide +kernel
theorem dX12_laysSets_45 : decode cX12_laysSets 45 = .ok (.getfield 107, 3) := by decide +kernel
theorem dX12_laysSets_48 : decode cX12_laysSets 48 = .ok (.iload 4, 2) := by decide +kernel
theorem dX12_laysSets_50 : decode cX12_laysSets 50 = .ok (.iconst 0, 1) := by decide +kernel
theorem dX12_laysSets_51 : decode cX12_laysSets 51 = .ok (.iastore, 1) := by decide +kernel
theorem dX12_laysSets_52 : decode cX12_laysSets 52 = .ok (.iinc 4 1, 3) := by decide +kernel
theorem dX12_laysSets_55 : decode cX12_laysSets 55 = .ok (.goto (-46), 3) := by decide +kernel
theorem dX12_laysSets_58 : decode cX12_laysSets 58 = .ok (.aload_n 0, 1) := by decide +kernel
theorem dX12_laysSets_59 : decode cX12_laysSets 59 = .ok (.iconst 0, 1) := by decide +kernel
theorem dX12_laysSets_60 : decode cX12_laysSets 60 = .ok (.putfield 392, 3) := by decide +kernel
theorem dX12_laysSets_63 : decode cX12_laysSets 63 = .ok (.aload_n 0, 1) := by decide +kernel
theorem dX12_laysSets_64 : decode cX12_laysSets 64 = .ok (.iload_n 3, 1) := by decide +kernel
theorem dX12_laysSets_65 : decode cX12_laysSets 65 = .ok (.putfield 395, 3) := by decide +kernel
theorem dX12_laysSets_68 : decode cX12_laysSets 68 = .ok (.aload_n 0, 1) := by decide +kernel
theorem dX12_laysSets_69 : decode cX12_laysSets 69 = .ok (.iconst 0, 1) := by decide +kernel
theorem dX12_laysSets_70 : decode cX12_laysSets 70 = .ok (.putfield 398, 3) := by decide +kernel
theorem dX12_laysSets_73 : decode cX12_laysSets 73 = .ok (.aload_n 0, 1) := by decide +kernel
theorem dX12_laysSets_74 : decode cX12_laysSets 74 = .ok (.iconst (-1), 1) := by decide +kernel
theorem dX12_laysSets_75 : decode cX12_laysSets 75 = .ok (.putfield 401, 3) := by decide +kernel
theorem dX12_laysSets_78 : decode cX12_laysSets 78 = .ok (.iconst 0, 1) := by decide +kernel
theorem dX12_laysSets_79 : decode cX12_laysSets 79 = .ok (.istore 4, 2) := by decide +kernel
theorem dX12_laysSets_81 : decode cX12_laysSets 81 = .ok (.iload 4, 2) := by decide +kernel
theorem dX12_laysSets_83 : decode cX12_laysSets 83 = .ok (.iconst 1, 1) := by decide +kernel
theorem dX12_laysSets_84 : decode cX12_laysSets 84 = .ok (.aload_n 0, 1) := by decide +kernel
theorem dX12_laysSets_85 : decode cX12_laysSets 85 = .ok (.invokevirtual 286, 3) := by decide +kernel
theorem dX12_laysSets_88 : decode cX12_laysSets 88 = .ok (.ishl, 1) := by decide +kernel
theorem dX12_laysSets_89 : decode cX12_laysSets 89 = .ok (.if_icmp .ge 136, 3) := by decide +kernel
theorem dX12_laysSets_92 : decode cX12_laysSets 92 = .ok (.iload 4, 2) := by decide +kernel
theorem dX12_laysSets_94 : decode cX12_laysSets 94 = .ok (.iload_n 3, 1) := by decide +kernel
theorem dX12_laysSets_95 : decode cX12_laysSets 95 = .ok (.iconst (-1), 1) := by decide +kernel
theorem dX12_laysSets_96 : decode cX12_laysSets 96 = .ok (.ixor, 1) := by decide +kernel
theorem dX12_laysSets_97 : decode cX12_laysSets 97 = .ok (.iand, 1) := by decide +kernel
theorem dX12_laysSets_98 : decode cX12_laysSets 98 = .ok (.ifCond .ne 121, 3) := by decide +kernel
theorem dX12_laysSets_101 : decode cX12_laysSets 101 = .ok (.aload_n 0, 1) := by decide +kernel
theorem dX12_laysSets_102 : decode cX12_laysSets 102 = .ok (.iload_n 1, 1) := by decide +kernel
theorem dX12_laysSets_103 : decode cX12_laysSets 103 = .ok (.iload_n 2, 1) := by decide +kernel
theorem dX12_laysSets_104 : decode cX12_laysSets 104 = .ok (.iload 4, 2) := by decide +kernel
theorem dX12_laysSets_106 : decode cX12_laysSets 106 = .ok (.invokevirtual 404, 3) := by decide +kernel
theorem dX12_laysSets_109 : decode cX12_laysSets 109 = .ok (.ifCond .ne 6, 3) := by decide +kernel
theorem dX12_laysSets_112 : decode cX12_laysSets 112 = .ok (.goto 107, 3) := by decide +kernel
theorem dX12_laysSets_115 : decode cX12_laysSets 115 = .ok (.aload_n 0, 1) := by decide +kernel
theorem dX12_laysSets_116 : decode cX12_laysSets 116 = .ok (.dup, 1) := by decide +kernel
theorem dX12_laysSets_117 : decode cX12_laysSets 117 = .ok (.getfield 392, 3) := by decide +kernel
theorem dX12_laysSets_120 : decode cX12_laysSets 120 = .ok (.iconst 1, 1) := by decide +kernel
theorem dX12_laysSets_121 : decode cX12_laysSets 121 = .ok (.iadd, 1) := by decide +kernel
theorem dX12_laysSets_122 : decode cX12_laysSets 122 = .ok (.putfield 392, 3) := by decide +kernel
theorem dX12_laysSets_125 : decode cX12_laysSets 125 = .ok (.aload_n 0, 1) := by decide +kernel
theorem dX12_laysSets_126 : decode cX12_laysSets 126 = .ok (.dup, 1) := by decide +kernel
theorem dX12_laysSets_127 : decode cX12_laysSets 127 = .ok (.getfield 395, 3) := by decide +kernel
theorem dX12_laysSets_130 : decode cX12_laysSets 130 = .ok (.iload 4, 2) := by decide +kernel
theorem dX12_laysSets_132 : decode cX12_laysSets 132 = .ok (.iand, 1) := by decide +kernel
theorem dX12_laysSets_133 : decode cX12_laysSets 133 = .ok (.putfield 395, 3) := by decide +kernel
theorem dX12_laysSets_136 : decode cX12_laysSets 136 = .ok (.aload_n 0, 1) := by decide +kernel
theorem dX12_laysSets_137 : decode cX12_laysSets 137 = .ok (.dup, 1) := by decide +kernel
theorem dX12_laysSets_138 : decode cX12_laysSets 138 = .ok (.getfield 398, 3) := by decide +kernel
theorem dX12_laysSets_141 : decode cX12_laysSets 141 = .ok (.iload 4, 2) := by decide +kernel
theorem dX12_laysSets_143 : decode cX12_laysSets 143 = .ok (.ior, 1) := by decide +kernel
theorem dX12_laysSets_144 : decode cX12_laysSets 144 = .ok (.putfield 398, 3) := by decide +kernel
theorem dX12_laysSets_147 : decode cX12_laysSets 147 = .ok (.aload_n 0, 1) := by decide +kernel
theorem dX12_laysSets_148 : decode cX12_laysSets 148 = .ok (.getfield 401, 3) := by decide +kernel
theorem dX12_laysSets_151 : decode cX12_laysSets 151 = .ok (.iconst (-1), 1) := by decide +kernel
theorem dX12_laysSets_152 : decode cX12_laysSets 152 = .ok (.if_icmp .eq 18, 3) := by decide +kernel
theorem dX12_laysSets_155 : decode cX12_laysSets 155 = .ok (.iload 4, 2) := by decide +kernel
theorem dX12_laysSets_157 : decode cX12_laysSets 157 = .ok (.invokestatic 407, 3) := by decide +kernel
theorem dX12_laysSets_160 : decode cX12_laysSets 160 = .ok (.aload_n 0, 1) := by decide +kernel
theorem dX12_laysSets_161 : decode cX12_laysSets 161 = .ok (.getfield 401, 3) := by decide +kernel
theorem dX12_laysSets_164 : decode cX12_laysSets 164 = .ok (.invokestatic 407, 3) := by decide +kernel
theorem dX12_laysSets_167 : decode cX12_laysSets 167 = .ok (.if_icmp .ge 9, 3) := by decide +kernel
theorem dX12_laysSets_170 : decode cX12_laysSets 170 = .ok (.aload_n 0, 1) := by decide +kernel
theorem dX12_laysSets_171 : decode cX12_laysSets 171 = .ok (.iload 4, 2) := by decide +kernel
theorem dX12_laysSets_173 : decode cX12_laysSets 173 = .ok (.putfield 401, 3) := by decide +kernel
theorem dX12_laysSets_176 : decode cX12_laysSets 176 = .ok (.iconst 0, 1) := by decide +kernel
theorem dX12_laysSets_177 : decode cX12_laysSets 177 = .ok (.istore 5, 2) := by decide +kernel
theorem dX12_laysSets_179 : decode cX12_laysSets 179 = .ok (.iload 5, 2) := by decide +kernel
theorem dX12_laysSets_181 : decode cX12_laysSets 181 = .ok (.aload_n 0, 1) := by decide +kernel
theorem dX12_laysSets_182 : decode cX12_laysSets 182 = .ok (.invokevirtual 286, 3) := by decide +kernel
theorem dX12_laysSets_185 : decode cX12_laysSets 185 = .ok (.if_icmp .ge 34, 3) := by decide +kernel
theorem dX12_laysSets_188 : decode cX12_laysSets 188 = .ok (.aload_n 0, 1) := by decide +kernel
theorem dX12_laysSets_189 : decode cX12_laysSets 189 = .ok (.getfield 107, 3) := by decide +kernel
theorem dX12_laysSets_192 : decode cX12_laysSets 192 = .ok (.iload 5, 2) := by decide +kernel
theorem dX12_laysSets_194 : decode cX12_laysSets 194 = .ok (.dup2, 1) := by decide +kernel
theorem dX12_laysSets_195 : decode cX12_laysSets 195 = .ok (.iaload, 1) := by decide +kernel
theorem dX12_laysSets_196 : decode cX12_laysSets 196 = .ok (.iload 4, 2) := by decide +kernel
theorem dX12_laysSets_198 : decode cX12_laysSets 198 = .ok (.iload 5, 2) := by decide +kernel
theorem dX12_laysSets_200 : decode cX12_laysSets 200 = .ok (.invokestatic 307, 3) := by decide +kernel
theorem dX12_laysSets_203 : decode cX12_laysSets 203 = .ok (.ifCond .eq 7, 3) := by decide +kernel
theorem dX12_laysSets_206 : decode cX12_laysSets 206 = .ok (.iconst 1, 1) := by decide +kernel
theorem dX12_laysSets_207 : decode cX12_laysSets 207 = .ok (.goto 4, 3) := by decide +kernel
theorem dX12_laysSets_210 : decode cX12_laysSets 210 = .ok (.iconst 0, 1) := by decide +kernel
theorem dX12_laysSets_211 : decode cX12_laysSets 211 = .ok (.iadd, 1) := by decide +kernel
theorem dX12_laysSets_212 : decode cX12_laysSets 212 = .ok (.iastore, 1) := by decide +kernel
theorem dX12_laysSets_213 : decode cX12_laysSets 213 = .ok (.iinc 5 1, 3) := by decide +kernel
theorem dX12_laysSets_216 : decode cX12_laysSets 216 = .ok (.goto (-37), 3) := by decide +kernel
theorem dX12_laysSets_219 : decode cX12_laysSets 219 = .ok (.iinc 4 1, 3) := by decide +kernel
theorem dX12_laysSets_222 : decode cX12_laysSets 222 = .ok (.goto (-141), 3) := by decide +kernel
theorem dX12_laysSets_225 : decode cX12_laysSets 225 = .ok (.aload_n 0, 1) := by decide +kernel
theorem dX12_laysSets_226 : decode cX12_laysSets 226 = .ok (.iload_n 3, 1) := by decide +kernel
theorem dX12_laysSets_227 : decode cX12_laysSets 227 = .ok (.aload_n 0, 1) := by decide +kernel
theorem dX12_laysSets_228 : decode cX12_laysSets 228 = .ok (.getfield 398, 3) := by decide +kernel
theorem dX12_laysSets_231 : decode cX12_laysSets 231 = .ok (.iconst (-1), 1) := by decide +kernel
theorem dX12_laysSets_232 : decode cX12_laysSets 232 = .ok (.ixor, 1) := by decide +kernel
theorem dX12_laysSets_233 : decode cX12_laysSets 233 = .ok (.iand, 1) := by decide +kernel
theorem dX12_laysSets_234 : decode cX12_laysSets 234 = .ok (.putfield 398, 3) := by decide +kernel
theorem dX12_laysSets_237 : decode cX12_laysSets 237 = .ok (.aload_n 0, 1) := by decide +kernel
theorem dX12_laysSets_238 : decode cX12_laysSets 238 = .ok (.iconst (-1), 1) := by decide +kernel
theorem dX12_laysSets_239 : decode cX12_laysSets 239 = .ok (.putfield 410, 3) := by decide +kernel
theorem dX12_laysSets_242 : decode cX12_laysSets 242 = .ok (.aload_n 0, 1) := by decide +kernel
theorem dX12_laysSets_243 : decode cX12_laysSets 243 = .ok (.aload_n 0, 1) := by decide +kernel
theorem dX12_laysSets_244 : decode cX12_laysSets 244 = .ok (.getfield 392, 3) := by decide +kernel
theorem dX12_laysSets_247 : decode cX12_laysSets 247 = .ok (.putfield 413, 3) := by decide +kernel
theorem dX12_laysSets_250 : decode cX12_laysSets 250 = .ok (.iconst 0, 1) := by decide +kernel
theorem dX12_laysSets_251 : decode cX12_laysSets 251 = .ok (.istore 4, 2) := by decide +kernel
theorem dX12_laysSets_253 : decode cX12_laysSets 253 = .ok (.iload 4, 2) := by decide +kernel
theorem dX12_laysSets_255 : decode cX12_laysSets 255 = .ok (.aload_n 0, 1) := by decide +kernel
theorem dX12_laysSets_256 : decode cX12_laysSets 256 = .ok (.invokevirtual 286, 3) := by decide +kernel
theorem dX12_laysSets_259 : decode cX12_laysSets 259 = .ok (.if_icmp .ge 79, 3) := by decide +kernel
theorem dX12_laysSets_262 : decode cX12_laysSets 262 = .ok (.aload_n 0, 1) := by decide +kernel
theorem dX12_laysSets_263 : decode cX12_laysSets 263 = .ok (.getfield 107, 3) := by decide +kernel
theorem dX12_laysSets_266 : decode cX12_laysSets 266 = .ok (.iload 4, 2) := by decide +kernel
theorem dX12_laysSets_268 : decode cX12_laysSets 268 = .ok (.iaload, 1) := by decide +kernel
theorem dX12_laysSets_269 : decode cX12_laysSets 269 = .ok (.aload_n 0, 1) := by decide +kernel
theorem dX12_laysSets_270 : decode cX12_laysSets 270 = .ok (.getfield 392, 3) := by decide +kernel
theorem dX12_laysSets_273 : decode cX12_laysSets 273 = .ok (.aload_n 0, 1) := by decide +kernel
theorem dX12_laysSets_274 : decode cX12_laysSets 274 = .ok (.getfield 107, 3) := by decide +kernel
theorem dX12_laysSets_277 : decode cX12_laysSets 277 = .ok (.iload 4, 2) := by decide +kernel
theorem dX12_laysSets_279 : decode cX12_laysSets 279 = .ok (.iaload, 1) := by decide +kernel
theorem dX12_laysSets_280 : decode cX12_laysSets 280 = .ok (.isub, 1) := by decide +kernel
theorem dX12_laysSets_281 : decode cX12_laysSets 281 = .ok (.if_icmp .le 13, 3) := by decide +kernel
theorem dX12_laysSets_284 : decode cX12_laysSets 284 = .ok (.aload_n 0, 1) := by decide +kernel
theorem dX12_laysSets_285 : decode cX12_laysSets 285 = .ok (.getfield 107, 3) := by decide +kernel
theorem dX12_laysSets_288 : decode cX12_laysSets 288 = .ok (.iload 4, 2) := by decide +kernel
theorem dX12_laysSets_290 : decode cX12_laysSets 290 = .ok (.iaload, 1) := by decide +kernel
theorem dX12_laysSets_291 : decode cX12_laysSets 291 = .ok (.goto 15, 3) := by decide +kernel
theorem dX12_laysSets_294 : decode cX12_laysSets 294 = .ok (.aload_n 0, 1) := by decide +kernel
theorem dX12_laysSets_295 : decode cX12_laysSets 295 = .ok (.getfield 392, 3) := by decide +kernel
theorem dX12_laysSets_298 : decode cX12_laysSets 298 = .ok (.aload_n 0, 1) := by decide +kernel
theorem dX12_laysSets_299 : decode cX12_laysSets 299 = .ok (.getfield 107, 3) := by decide +kernel
theorem dX12_laysSets_302 : decode cX12_laysSets 302 = .ok (.iload 4, 2) := by decide +kernel
theorem dX12_laysSets_304 : decode cX12_laysSets 304 = .ok (.iaload, 1) := by decide +kernel
theorem dX12_laysSets_305 : decode cX12_laysSets 305 = .ok (.isub, 1) := by decide +kernel
theorem dX12_laysSets_306 : decode cX12_laysSets 306 = .ok (.istore 5, 2) := by decide +kernel
theorem dX12_laysSets_308 : decode cX12_laysSets 308 = .ok (.iload 5, 2) := by decide +kernel
theorem dX12_laysSets_310 : decode cX12_laysSets 310 = .ok (.aload_n 0, 1) := by decide +kernel
theorem dX12_laysSets_311 : decode cX12_laysSets 311 = .ok (.getfield 413, 3) := by decide +kernel
theorem dX12_laysSets_314 : decode cX12_laysSets 314 = .ok (.if_icmp .lt 6, 3) := by decide +kernel
theorem dX12_laysSets_317 : decode cX12_laysSets 317 = .ok (.goto 15, 3) := by decide +kernel
theorem dX12_laysSets_320 : decode cX12_laysSets 320 = .ok (.aload_n 0, 1) := by decide +kernel
theorem dX12_laysSets_321 : decode cX12_laysSets 321 = .ok (.iload 4, 2) := by decide +kernel
theorem dX12_laysSets_323 : decode cX12_laysSets 323 = .ok (.putfield 410, 3) := by decide +kernel
theorem dX12_laysSets_326 : decode cX12_laysSets 326 = .ok (.aload_n 0, 1) := by decide +kernel
theorem dX12_laysSets_327 : decode cX12_laysSets 327 = .ok (.iload 5, 2) := by decide +kernel
theorem dX12_laysSets_329 : decode cX12_laysSets 329 = .ok (.putfield 413, 3) := by decide +kernel
theorem dX12_laysSets_332 : decode cX12_laysSets 332 = .ok (.iinc 4 1, 3) := by decide +kernel
theorem dX12_laysSets_335 : decode cX12_laysSets 335 = .ok (.goto (-82), 3) := by decide +kernel
theorem dX12_laysSets_338 : decode cX12_laysSets 338 = .ok (.return_, 1) := by decide +kernel
theorem dX12_leaves_0 : decode cX12_leaves 0 = .ok (.aload_n 0, 1) := by decide +kernel
theorem dX12_leaves_1 : decode cX12_leaves 1 = .ok (.iconst 0, 1) := by decide +kernel
theorem dX12_leaves_2 : decode cX12_leaves 2 = .ok (.putfield 116, 3) := by decide +kernel
theorem dX12_leaves_5 : decode cX12_leaves 5 = .ok (.aload_n 0, 1) := by decide +kernel
theorem dX12_leaves_6 : decode cX12_leaves 6 = .ok (.iload_n 1, 1) := by decide +kernel
theorem dX12_leaves_7 : decode cX12_leaves 7 = .ok (.iload_n 2, 1) := by decide +kernel
theorem dX12_leaves_8 : decode cX12_leaves 8 = .ok (.invokevirtual 416, 3) := by decide +kernel
theorem dX12_leaves_11 : decode cX12_leaves 11 = .ok (.istore_n 3, 1) := by decide +kernel
theorem dX12_leaves_12 : decode cX12_leaves 12 = .ok (.iload_n 3, 1) := by decide +kernel
theorem dX12_leaves_13 : decode cX12_leaves 13 = .ok (.ifCond .eq 5, 3) := by decide +kernel
theorem dX12_leaves_16 : decode cX12_leaves 16 = .ok (.iload_n 3, 1) := by decide +kernel
theorem dX12_leaves_17 : decode cX12_leaves 17 = .ok (.ireturn, 1) := by decide +kernel
theorem dX12_leaves_18 : decode cX12_leaves 18 = .ok (.aload_n 0, 1) := by decide +kernel
theorem dX12_leaves_19 : decode cX12_leaves 19 = .ok (.iload_n 1, 1) := by decide +kernel
theorem dX12_leaves_20 : decode cX12_leaves 20 = .ok (.iload_n 2, 1) := by decide +kernel
theorem dX12_leaves_21 : decode cX12_leaves 21 = .ok (.invokevirtual 419, 3) := by decide +kernel
theorem dX12_leaves_24 : decode cX12_leaves 24 = .ok (.aload_n 0, 1) := by decide +kernel
theorem dX12_leaves_25 : decode cX12_leaves 25 = .ok (.getfield 413, 3) := by decide +kernel
theorem dX12_leaves_28 : decode cX12_leaves 28 = .ok (.ireturn, 1) := by decide +kernel
theorem dX12_never_0 : decode cX12_never 0 = .ok (.aload_n 0, 1) := by decide +kernel
theorem dX12_never_1 : decode cX12_never 1 = .ok (.iconst 0, 1) := by decide +kernel
theorem dX12_never_2 : decode cX12_never 2 = .ok (.putfield 116, 3) := by decide +kernel
theorem dX12_never_5 : decode cX12_never 5 = .ok (.aload_n 0, 1) := by decide +kernel
theorem dX12_never_6 : decode cX12_never 6 = .ok (.iload_n 1, 1) := by decide +kernel
theorem dX12_never_7 : decode cX12_never 7 = .ok (.iload_n 2, 1) := by decide +kernel
theorem dX12_never_8 : decode cX12_never 8 = .ok (.invokevirtual 416, 3) := by decide +kernel
theorem dX12_never_11 : decode cX12_never 11 = .ok (.istore_n 3, 1) := by decide +kernel
theorem dX12_never_12 : decode cX12_never 12 = .ok (.iload_n 3, 1) := by decide +kernel
theorem dX12_never_13 : decode cX12_never 13 = .ok (.ifCond .eq 5, 3) := by decide +kernel
theorem dX12_never_16 : decode cX12_never 16 = .ok (.iload_n 3, 1) := by decide +kernel
theorem dX12_never_17 : decode cX12_never 17 = .ok (.ireturn, 1) := by decide +kernel
theorem dX12_never_18 : decode cX12_never 18 = .ok (.aload_n 0, 1) := by decide +kernel
theorem dX12_never_19 : decode cX12_never 19 = .ok (.iload_n 1, 1) := by decide +kernel
theorem dX12_never_20 : decode cX12_never 20 = .ok (.iload_n 2, 1) := by decide +kernel
theorem dX12_never_21 : decode cX12_never 21 = .ok (.invokevirtual 419, 3) := by decide +kernel
theorem dX12_never_24 : decode cX12_never 24 = .ok (.aload_n 0, 1) := by decide +kernel
theorem dX12_never_25 : decode cX12_never 25 = .ok (.getfield 392, 3) := by decide +kernel
theorem dX12_never_28 : decode cX12_never 28 = .ok (.ifCond .ne 7, 3) := by decide +kernel
theorem dX12_never_31 : decode cX12_never 31 = .ok (.iconst (-1), 1) := by decide +kernel
theorem dX12_never_32 : decode cX12_never 32 = .ok (.goto 7, 3) := by decide +kernel
theorem dX12_never_35 : decode cX12_never 35 = .ok (.aload_n 0, 1) := by decide +kernel
theorem dX12_never_36 : decode cX12_never 36 = .ok (.getfield 398, 3) := by decide +kernel
theorem dX12_never_39 : decode cX12_never 39 = .ok (.ireturn, 1) := by decide +kernel
theorem dX12_sagWithout_0 : decode cX12_sagWithout 0 = .ok (.aload_n 0, 1) := by decide +kernel
theorem dX12_sagWithout_1 : decode cX12_sagWithout 1 = .ok (.invokevirtual 330, 3) := by decide +kernel
theorem dX12_sagWithout_4 : decode cX12_sagWithout 4 = .ok (.aload_n 0, 1) := by decide +kernel
theorem dX12_sagWithout_5 : decode cX12_sagWithout 5 = .ok (.iload_n 1, 1) := by decide +kernel
theorem dX12_sagWithout_6 : decode cX12_sagWithout 6 = .ok (.putfield 301, 3) := by decide +kernel
theorem dX12_sagWithout_9 : decode cX12_sagWithout 9 = .ok (.aload_n 0, 1) := by decide +kernel
theorem dX12_sagWithout_10 : decode cX12_sagWithout 10 = .ok (.invokevirtual 333, 3) := by decide +kernel
theorem dX12_sagWithout_13 : decode cX12_sagWithout 13 = .ok (.aload_n 0, 1) := by decide +kernel
theorem dX12_sagWithout_14 : decode cX12_sagWithout 14 = .ok (.invokevirtual 339, 3) := by decide +kernel
theorem dX12_sagWithout_17 : decode cX12_sagWithout 17 = .ok (.ireturn, 1) := by decide +kernel
theorem dX12_sets_0 : decode cX12_sets 0 = .ok (.aload_n 0, 1) := by decide +kernel
theorem dX12_sets_1 : decode cX12_sets 1 = .ok (.iconst 0, 1) := by decide +kernel
theorem dX12_sets_2 : decode cX12_sets 2 = .ok (.putfield 116, 3) := by decide +kernel
theorem dX12_sets_5 : decode cX12_sets 5 = .ok (.aload_n 0, 1) := by decide +kernel
theorem dX12_sets_6 : decode cX12_sets 6 = .ok (.iload_n 1, 1) := by decide +kernel
theorem dX12_sets_7 : decode cX12_sets 7 = .ok (.iload_n 2, 1) := by decide +kernel
theorem dX12_sets_8 : decode cX12_sets 8 = .ok (.invokevirtual 416, 3) := by decide +kernel
theorem dX12_sets_11 : decode cX12_sets 11 = .ok (.istore_n 3, 1) := by decide +kernel
theorem dX12_sets_12 : decode cX12_sets 12 = .ok (.iload_n 3, 1) := by decide +kernel
theorem dX12_sets_13 : decode cX12_sets 13 = .ok (.ifCond .eq 5, 3) := by decide +kernel
theorem dX12_sets_16 : decode cX12_sets 16 = .ok (.iload_n 3, 1) := by decide +kernel
theorem dX12_sets_17 : decode cX12_sets 17 = .ok (.ireturn, 1) := by decide +kernel
theorem dX12_sets_18 : decode cX12_sets 18 = .ok (.aload_n 0, 1) := by decide +kernel
theorem dX12_sets_19 : decode cX12_sets 19 = .ok (.iload_n 1, 1) := by decide +kernel
theorem dX12_sets_20 : decode cX12_sets 20 = .ok (.iload_n 2, 1) := by decide +kernel
theorem dX12_sets_21 : decode cX12_sets 21 = .ok (.invokevirtual 419, 3) := by decide +kernel
theorem dX12_sets_24 : decode cX12_sets 24 = .ok (.aload_n 0, 1) := by decide +kernel
theorem dX12_sets_25 : decode cX12_sets 25 = .ok (.getfield 392, 3) := by decide +kernel
theorem dX12_sets_28 : decode cX12_sets 28 = .ok (.ireturn, 1) := by decide +kernel
theorem dX12_spared_0 : decode cX12_spared 0 = .ok (.aload_n 0, 1) := by decide +kernel
theorem dX12_spared_1 : decode cX12_spared 1 = .ok (.iconst 0, 1) := by decide +kernel
theorem dX12_spared_2 : decode cX12_spared 2 = .ok (.putfield 116, 3) := by decide +kernel
theorem dX12_spared_5 : decode cX12_spared 5 = .ok (.aload_n 0, 1) := by decide +kernel
theorem dX12_spared_6 : decode cX12_spared 6 = .ok (.iload_n 1, 1) := by decide +kernel
theorem dX12_spared_7 : decode cX12_spared 7 = .ok (.i2l, 1) := by decide +kernel
theorem dX12_spared_8 : decode cX12_spared 8 = .ok (.invokevirtual 289, 3) := by decide +kernel
theorem dX12_spared_11 : decode cX12_spared 11 = .ok (.ifCond .ne 7, 3) := by decide +kernel
theorem dX12_spared_14 : decode cX12_spared 14 = .ok (.sipush (-1000), 3) := by decide +kernel
theorem dX12_spared_17 : decode cX12_spared 17 = .ok (.ireturn, 1) := by decide +kernel
theorem dX12_spared_18 : decode cX12_spared 18 = .ok (.aload_n 0, 1) := by decide +kernel
theorem dX12_spared_19 : decode cX12_spared 19 = .ok (.invokevirtual 386, 3) := by decide +kernel
theorem dX12_spared_22 : decode cX12_spared 22 = .ok (.aload_n 0, 1) := by decide +kernel
theorem dX12_spared_23 : decode cX12_spared 23 = .ok (.iconst 1, 1) := by decide +kernel
theorem dX12_spared_24 : decode cX12_spared 24 = .ok (.iload_n 1, 1) := by decide +kernel
theorem dX12_spared_25 : decode cX12_spared 25 = .ok (.ishl, 1) := by decide +kernel
theorem dX12_spared_26 : decode cX12_spared 26 = .ok (.invokevirtual 389, 3) := by decide +kernel
theorem dX12_spared_29 : decode cX12_spared 29 = .ok (.isub, 1) := by decide +kernel
theorem dX12_spared_30 : decode cX12_spared 30 = .ok (.ireturn, 1) := by decide +kernel
theorem dX12_surely_0 : decode cX12_surely 0 = .ok (.aload_n 0, 1) := by decide +kernel
theorem dX12_surely_1 : decode cX12_surely 1 = .ok (.iconst 0, 1) := by decide +kernel
theorem dX12_surely_2 : decode cX12_surely 2 = .ok (.putfield 116, 3) := by decide +kernel
theorem dX12_surely_5 : decode cX12_surely 5 = .ok (.aload_n 0, 1) := by decide +kernel
theorem dX12_surely_6 : decode cX12_surely 6 = .ok (.iload_n 1, 1) := by decide +kernel
theorem dX12_surely_7 : decode cX12_surely 7 = .ok (.iload_n 2, 1) := by decide +kernel
theorem dX12_surely_8 : decode cX12_surely 8 = .ok (.invokevirtual 416, 3) := by decide +kernel
theorem dX12_surely_11 : decode cX12_surely 11 = .ok (.istore_n 3, 1) := by decide +kernel
theorem dX12_surely_12 : decode cX12_surely 12 = .ok (.iload_n 3, 1) := by decide +kernel
theorem dX12_surely_13 : decode cX12_surely 13 = .ok (.ifCond .eq 5, 3) := by decide +kernel
theorem dX12_surely_16 : decode cX12_surely 16 = .ok (.iload_n 3, 1) := by decide +kernel
theorem dX12_surely_17 : decode cX12_surely 17 = .ok (.ireturn, 1) := by decide +kernel
theorem dX12_surely_18 : decode cX12_surely 18 = .ok (.aload_n 0, 1) := by decide +kernel
theorem dX12_surely_19 : decode cX12_surely 19 = .ok (.iload_n 1, 1) := by decide +kernel
theorem dX12_surely_20 : decode cX12_surely 20 = .ok (.iload_n 2, 1) := by decide +kernel
theorem dX12_surely_21 : decode cX12_surely 21 = .ok (.invokevirtual 419, 3) := by decide +kernel
theorem dX12_surely_24 : decode cX12_surely 24 = .ok (.aload_n 0, 1) := by decide +kernel
theorem dX12_surely_25 : decode cX12_surely 25 = .ok (.getfield 392, 3) := by decide +kernel
theorem dX12_surely_28 : decode cX12_surely 28 = .ok (.ifCond .ne 7, 3) := by decide +kernel
theorem dX12_surely_31 : decode cX12_surely 31 = .ok (.iconst (-1), 1) := by decide +kernel
theorem dX12_surely_32 : decode cX12_surely 32 = .ok (.goto 7, 3) := by decide +kernel
theorem dX12_surely_35 : decode cX12_surely 35 = .ok (.aload_n 0, 1) := by decide +kernel
theorem dX12_surely_36 : decode cX12_surely 36 = .ok (.getfield 395, 3) := by decide +kernel
theorem dX12_surely_39 : decode cX12_surely 39 = .ok (.ireturn, 1) := by decide +kernel
theorem dX12_whyNot_0 : decode cX12_whyNot 0 = .ok (.iload_n 1, 1) := by decide +kernel
theorem dX12_whyNot_1 : decode cX12_whyNot 1 = .ok (.invokestatic 125, 3) := by decide +kernel
theorem dX12_whyNot_4 : decode cX12_whyNot 4 = .ok (.ifCond .eq 12, 3) := by decide +kernel
theorem dX12_whyNot_7 : decode cX12_whyNot 7 = .ok (.aload_n 0, 1) := by decide +kernel
theorem dX12_whyNot_8 : decode cX12_whyNot 8 = .ok (.iload_n 2, 1) := by decide +kernel
theorem dX12_whyNot_9 : decode cX12_whyNot 9 = .ok (.i2l, 1) := by decide +kernel
theorem dX12_whyNot_10 : decode cX12_whyNot 10 = .ok (.invokevirtual 292, 3) := by decide +kernel
theorem dX12_whyNot_13 : decode cX12_whyNot 13 = .ok (.ifCond .ne 8, 3) := by decide +kernel
theorem dX12_whyNot_16 : decode cX12_whyNot 16 = .ok (.bipush (-2), 2) := by decide +kernel
theorem dX12_whyNot_18 : decode cX12_whyNot 18 = .ok (.goto 19, 3) := by decide +kernel
theorem dX12_whyNot_21 : decode cX12_whyNot 21 = .ok (.aload_n 0, 1) := by decide +kernel
theorem dX12_whyNot_22 : decode cX12_whyNot 22 = .ok (.getfield 7, 3) := by decide +kernel
theorem dX12_whyNot_25 : decode cX12_whyNot 25 = .ok (.iload_n 1, 1) := by decide +kernel
theorem dX12_whyNot_26 : decode cX12_whyNot 26 = .ok (.iaload, 1) := by decide +kernel
theorem dX12_whyNot_27 : decode cX12_whyNot 27 = .ok (.iconst (-1), 1) := by decide +kernel
theorem dX12_whyNot_28 : decode cX12_whyNot 28 = .ok (.if_icmp .ne 8, 3) := by decide +kernel
theorem dX12_whyNot_31 : decode cX12_whyNot 31 = .ok (.bipush (-6), 2) := by decide +kernel
theorem dX12_whyNot_33 : decode cX12_whyNot 33 = .ok (.goto 4, 3) := by decide +kernel
theorem dX12_whyNot_36 : decode cX12_whyNot 36 = .ok (.iconst 0, 1) := by decide +kernel
theorem dX12_whyNot_37 : decode cX12_whyNot 37 = .ok (.ireturn, 1) := by decide +kernel
theorem dX12_worst_0 : decode cX12_worst 0 = .ok (.aload_n 0, 1) := by decide +kernel
theorem dX12_worst_1 : decode cX12_worst 1 = .ok (.iconst 0, 1) := by decide +kernel
theorem dX12_worst_2 : decode cX12_worst 2 = .ok (.putfield 116, 3) := by decide +kernel
theorem dX12_worst_5 : decode cX12_worst 5 = .ok (.aload_n 0, 1) := by decide +kernel
theorem dX12_worst_6 : decode cX12_worst 6 = .ok (.invokevirtual 350, 3) := by decide +kernel
theorem dX12_worst_9 : decode cX12_worst 9 = .ok (.ifCond .ne 6, 3) := by decide +kernel
theorem dX12_worst_12 : decode cX12_worst 12 = .ok (.bipush (-2), 2) := by decide +kernel
theorem dX12_worst_14 : decode cX12_worst 14 = .ok (.ireturn, 1) := by decide +kernel
theorem dX12_worst_15 : decode cX12_worst 15 = .ok (.iconst (-1), 1) := by decide +kernel
theorem dX12_worst_16 : decode cX12_worst 16 = .ok (.istore_n 1, 1) := by decide +kernel
theorem dX12_worst_17 : decode cX12_worst 17 = .ok (.aload_n 0, 1) := by decide +kernel
theorem dX12_worst_18 : decode cX12_worst 18 = .ok (.invokevirtual 386, 3) := by decide +kernel
theorem dX12_worst_21 : decode cX12_worst 21 = .ok (.istore_n 2, 1) := by decide +kernel
theorem dX12_worst_22 : decode cX12_worst 22 = .ok (.iconst 0, 1) := by decide +kernel
theorem dX12_worst_23 : decode cX12_worst 23 = .ok (.istore_n 3, 1) := by decide +kernel
theorem dX12_worst_24 : decode cX12_worst 24 = .ok (.iload_n 3, 1) := by decide +kernel
theorem dX12_worst_25 : decode cX12_worst 25 = .ok (.aload_n 0, 1) := by decide +kernel
theorem dX12_worst_26 : decode cX12_worst 26 = .ok (.invokevirtual 286, 3) := by decide +kernel
theorem dX12_worst_29 : decode cX12_worst 29 = .ok (.if_icmp .ge 32, 3) := by decide +kernel
theorem dX12_worst_32 : decode cX12_worst 32 = .ok (.aload_n 0, 1) := by decide +kernel
theorem dX12_worst_33 : decode cX12_worst 33 = .ok (.iconst 1, 1) := by decide +kernel
theorem dX12_worst_34 : decode cX12_worst 34 = .ok (.iload_n 3, 1) := by decide +kernel
theorem dX12_worst_35 : decode cX12_worst 35 = .ok (.ishl, 1) := by decide +kernel
theorem dX12_worst_36 : decode cX12_worst 36 = .ok (.invokevirtual 389, 3) := by decide +kernel
theorem dX12_worst_39 : decode cX12_worst 39 = .ok (.istore 4, 2) := by decide +kernel
theorem dX12_worst_41 : decode cX12_worst 41 = .ok (.iload 4, 2) := by decide +kernel
theorem dX12_worst_43 : decode cX12_worst 43 = .ok (.iload_n 2, 1) := by decide +kernel
theorem dX12_worst_44 : decode cX12_worst 44 = .ok (.if_icmp .lt 6, 3) := by decide +kernel
theorem dX12_worst_47 : decode cX12_worst 47 = .ok (.goto 8, 3) := by decide +kernel
theorem dX12_worst_50 : decode cX12_worst 50 = .ok (.iload_n 3, 1) := by decide +kernel
theorem dX12_worst_51 : decode cX12_worst 51 = .ok (.istore_n 1, 1) := by decide +kernel
theorem dX12_worst_52 : decode cX12_worst 52 = .ok (.iload 4, 2) := by decide +kernel
theorem dX12_worst_54 : decode cX12_worst 54 = .ok (.istore_n 2, 1) := by decide +kernel
theorem dX12_worst_55 : decode cX12_worst 55 = .ok (.iinc 3 1, 3) := by decide +kernel
theorem dX12_worst_58 : decode cX12_worst 58 = .ok (.goto (-34), 3) := by decide +kernel
theorem dX12_worst_61 : decode cX12_worst 61 = .ok (.iload_n 1, 1) := by decide +kernel
theorem dX12_worst_62 : decode cX12_worst 62 = .ok (.ireturn, 1) := by decide +kernel
