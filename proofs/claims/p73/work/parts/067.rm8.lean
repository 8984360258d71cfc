theorem dX12_laysNow_0 : decode cX12_laysNow 0 = .ok (.aload_n 0, 1) := by decide +kernel
theorem dX12_laysNow_1 : decode cX12_laysNow 1 = .ok (.invokevirtual 330, 3) := by decide +kernel
theorem dX12_laysNow_4 : decode cX12_laysNow 4 = .ok (.aload_n 0, 1) := by decide +kernel
theorem dX12_laysNow_5 : decode cX12_laysNow 5 = .ok (.invokevirtual 333, 3) := by decide +kernel
theorem dX12_laysNow_8 : decode cX12_laysNow 8 = .ok (.return_, 1) := by decide +kernel
theorem dX12_overAll_0 : decode cX12_overAll 0 = .ok (.iconst 0, 1) := by decide +kernel
theorem dX12_overAll_1 : decode cX12_overAll 1 = .ok (.istore_n 1, 1) := by decide +kernel
theorem dX12_overAll_2 : decode cX12_overAll 2 = .ok (.iconst 0, 1) := by decide +kernel
theorem dX12_overAll_3 : decode cX12_overAll 3 = .ok (.istore_n 2, 1) := by decide +kernel
theorem dX12_overAll_4 : decode cX12_overAll 4 = .ok (.iload_n 2, 1) := by decide +kernel
theorem dX12_overAll_5 : decode cX12_overAll 5 = .ok (.aload_n 0, 1) := by decide +kernel
theorem dX12_overAll_6 : decode cX12_overAll 6 = .ok (.invokevirtual 286, 3) := by decide +kernel
theorem dX12_overAll_9 : decode cX12_overAll 9 = .ok (.if_icmp .ge 27, 3) := by decide +kernel
theorem dX12_overAll_12 : decode cX12_overAll 12 = .ok (.iload_n 1, 1) := by decide +kernel
theorem dX12_overAll_13 : decode cX12_overAll 13 = .ok (.aload_n 0, 1) := by decide +kernel
theorem dX12_overAll_14 : decode cX12_overAll 14 = .ok (.getfield 80, 3) := by decide +kernel
theorem dX12_overAll_17 : decode cX12_overAll 17 = .ok (.iload_n 2, 1) := by decide +kernel
theorem dX12_overAll_18 : decode cX12_overAll 18 = .ok (.iaload, 1) := by decide +kernel
theorem dX12_overAll_19 : decode cX12_overAll 19 = .ok (.iconst (-1), 1) := by decide +kernel
theorem dX12_overAll_20 : decode cX12_overAll 20 = .ok (.if_icmp .ne 7, 3) := by decide +kernel
theorem dX12_overAll_23 : decode cX12_overAll 23 = .ok (.iconst 0, 1) := by decide +kernel
theorem dX12_overAll_24 : decode cX12_overAll 24 = .ok (.goto 4, 3) := by decide +kernel
theorem dX12_overAll_27 : decode cX12_overAll 27 = .ok (.iconst 1, 1) := by decide +kernel
theorem dX12_overAll_28 : decode cX12_overAll 28 = .ok (.iadd, 1) := by decide +kernel
theorem dX12_overAll_29 : decode cX12_overAll 29 = .ok (.istore_n 1, 1) := by decide +kernel
theorem dX12_overAll_30 : decode cX12_overAll 30 = .ok (.iinc 2 1, 3) := by decide +kernel
theorem dX12_overAll_33 : decode cX12_overAll 33 = .ok (.goto (-29), 3) := by decide +kernel
theorem dX12_overAll_36 : decode cX12_overAll 36 = .ok (.iload_n 1, 1) := by decide +kernel
theorem dX12_overAll_37 : decode cX12_overAll 37 = .ok (.ireturn, 1) := by decide +kernel
theorem dX12_overOf_0 : decode cX12_overOf 0 = .ok (.iconst 0, 1) := by decide +kernel
theorem dX12_overOf_1 : decode cX12_overOf 1 = .ok (.istore_n 2, 1) := by decide +kernel
theorem dX12_overOf_2 : decode cX12_overOf 2 = .ok (.iconst 0, 1) := by decide +kernel
theorem dX12_overOf_3 : decode cX12_overOf 3 = .ok (.istore_n 3, 1) := by decide +kernel
theorem dX12_overOf_4 : decode cX12_overOf 4 = .ok (.iload_n 3, 1) := by decide +kernel
theorem dX12_overOf_5 : decode cX12_overOf 5 = .ok (.aload_n 0, 1) := by decide +kernel
theorem dX12_overOf_6 : decode cX12_overOf 6 = .ok (.invokevirtual 286, 3) := by decide +kernel
theorem dX12_overOf_9 : decode cX12_overOf 9 = .ok (.if_icmp .ge 29, 3) := by decide +kernel
theorem dX12_overOf_12 : decode cX12_overOf 12 = .ok (.iload_n 2, 1) := by decide +kernel
theorem dX12_overOf_13 : decode cX12_overOf 13 = .ok (.aload_n 0, 1) := by decide +kernel
theorem dX12_overOf_14 : decode cX12_overOf 14 = .ok (.getfield 80, 3) := by decide +kernel
theorem dX12_overOf_17 : decode cX12_overOf 17 = .ok (.iload_n 3, 1) := by decide +kernel
theorem dX12_overOf_18 : decode cX12_overOf 18 = .ok (.iaload, 1) := by decide +kernel
theorem dX12_overOf_19 : decode cX12_overOf 19 = .ok (.iload_n 1, 1) := by decide +kernel
theorem dX12_overOf_20 : decode cX12_overOf 20 = .ok (.if_icmp .ne 9, 3) := by decide +kernel
theorem dX12_overOf_23 : decode cX12_overOf 23 = .ok (.iconst 1, 1) := by decide +kernel
theorem dX12_overOf_24 : decode cX12_overOf 24 = .ok (.iload_n 3, 1) := by decide +kernel
theorem dX12_overOf_25 : decode cX12_overOf 25 = .ok (.ishl, 1) := by decide +kernel
theorem dX12_overOf_26 : decode cX12_overOf 26 = .ok (.goto 4, 3) := by decide +kernel
theorem dX12_overOf_29 : decode cX12_overOf 29 = .ok (.iconst 0, 1) := by decide +kernel
theorem dX12_overOf_30 : decode cX12_overOf 30 = .ok (.ior, 1) := by decide +kernel
theorem dX12_overOf_31 : decode cX12_overOf 31 = .ok (.istore_n 2, 1) := by decide +kernel
theorem dX12_overOf_32 : decode cX12_overOf 32 = .ok (.iinc 3 1, 3) := by decide +kernel
theorem dX12_overOf_35 : decode cX12_overOf 35 = .ok (.goto (-31), 3) := by decide +kernel
theorem dX12_overOf_38 : decode cX12_overOf 38 = .ok (.iload_n 2, 1) := by decide +kernel
theorem dX12_overOf_39 : decode cX12_overOf 39 = .ok (.ireturn, 1) := by decide +kernel
theorem dX12_paysOf_0 : decode cX12_paysOf 0 = .ok (.aload_n 0, 1) := by decide +kernel
theorem dX12_paysOf_1 : decode cX12_paysOf 1 = .ok (.getfield 80, 3) := by decide +kernel
theorem dX12_paysOf_4 : decode cX12_paysOf 4 = .ok (.iload_n 1, 1) := by decide +kernel
theorem dX12_paysOf_5 : decode cX12_paysOf 5 = .ok (.iaload, 1) := by decide +kernel
theorem dX12_paysOf_6 : decode cX12_paysOf 6 = .ok (.iconst (-1), 1) := by decide +kernel
theorem dX12_paysOf_7 : decode cX12_paysOf 7 = .ok (.if_icmp .eq 12, 3) := by decide +kernel
theorem dX12_paysOf_10 : decode cX12_paysOf 10 = .ok (.aload_n 0, 1) := by decide +kernel
theorem dX12_paysOf_11 : decode cX12_paysOf 11 = .ok (.getfield 86, 3) := by decide +kernel
theorem dX12_paysOf_14 : decode cX12_paysOf 14 = .ok (.iload_n 1, 1) := by decide +kernel
theorem dX12_paysOf_15 : decode cX12_paysOf 15 = .ok (.iaload, 1) := by decide +kernel
theorem dX12_paysOf_16 : decode cX12_paysOf 16 = .ok (.ifCond .ge 7, 3) := by decide +kernel
theorem dX12_paysOf_19 : decode cX12_paysOf 19 = .ok (.iconst 0, 1) := by decide +kernel
theorem dX12_paysOf_20 : decode cX12_paysOf 20 = .ok (.goto 25, 3) := by decide +kernel
theorem dX12_paysOf_23 : decode cX12_paysOf 23 = .ok (.aload_n 0, 1) := by decide +kernel
theorem dX12_paysOf_24 : decode cX12_paysOf 24 = .ok (.getfield 37, 3) := by decide +kernel
theorem dX12_paysOf_27 : decode cX12_paysOf 27 = .ok (.iconst 2, 1) := by decide +kernel
theorem dX12_paysOf_28 : decode cX12_paysOf 28 = .ok (.aload_n 0, 1) := by decide +kernel
theorem dX12_paysOf_29 : decode cX12_paysOf 29 = .ok (.getfield 80, 3) := by decide +kernel
theorem dX12_paysOf_32 : decode cX12_paysOf 32 = .ok (.iload_n 1, 1) := by decide +kernel
theorem dX12_paysOf_33 : decode cX12_paysOf 33 = .ok (.iaload, 1) := by decide +kernel
theorem dX12_paysOf_34 : decode cX12_paysOf 34 = .ok (.imul, 1) := by decide +kernel
theorem dX12_paysOf_35 : decode cX12_paysOf 35 = .ok (.iconst 1, 1) := by decide +kernel
theorem dX12_paysOf_36 : decode cX12_paysOf 36 = .ok (.iadd, 1) := by decide +kernel
theorem dX12_paysOf_37 : decode cX12_paysOf 37 = .ok (.iaload, 1) := by decide +kernel
theorem dX12_paysOf_38 : decode cX12_paysOf 38 = .ok (.aload_n 0, 1) := by decide +kernel
theorem dX12_paysOf_39 : decode cX12_paysOf 39 = .ok (.getfield 86, 3) := by decide +kernel
theorem dX12_paysOf_42 : decode cX12_paysOf 42 = .ok (.iload_n 1, 1) := by decide +kernel
theorem dX12_paysOf_43 : decode cX12_paysOf 43 = .ok (.iaload, 1) := by decide +kernel
theorem dX12_paysOf_44 : decode cX12_paysOf 44 = .ok (.imul, 1) := by decide +kernel
theorem dX12_paysOf_45 : decode cX12_paysOf 45 = .ok (.ireturn, 1) := by decide +kernel
theorem dX12_runs_0 : decode cX12_runs 0 = .ok (.aload_n 0, 1) := by decide +kernel
theorem dX12_runs_1 : decode cX12_runs 1 = .ok (.invokevirtual 324, 3) := by decide +kernel
theorem dX12_runs_4 : decode cX12_runs 4 = .ok (.iconst 0, 1) := by decide +kernel
theorem dX12_runs_5 : decode cX12_runs 5 = .ok (.istore_n 1, 1) := by decide +kernel
theorem dX12_runs_6 : decode cX12_runs 6 = .ok (.iload_n 1, 1) := by decide +kernel
theorem dX12_runs_7 : decode cX12_runs 7 = .ok (.aload_n 0, 1) := by decide +kernel
theorem dX12_runs_8 : decode cX12_runs 8 = .ok (.invokevirtual 286, 3) := by decide +kernel
theorem dX12_runs_11 : decode cX12_runs 11 = .ok (.if_icmp .ge 105, 3) := by decide +kernel
theorem dX12_runs_14 : decode cX12_runs 14 = .ok (.aload_n 0, 1) := by decide +kernel
theorem dX12_runs_15 : decode cX12_runs 15 = .ok (.iload_n 1, 1) := by decide +kernel
theorem dX12_runs_16 : decode cX12_runs 16 = .ok (.invokevirtual 327, 3) := by decide +kernel
theorem dX12_runs_19 : decode cX12_runs 19 = .ok (.iconst 0, 1) := by decide +kernel
theorem dX12_runs_20 : decode cX12_runs 20 = .ok (.istore_n 2, 1) := by decide +kernel
theorem dX12_runs_21 : decode cX12_runs 21 = .ok (.iload_n 2, 1) := by decide +kernel
theorem dX12_runs_22 : decode cX12_runs 22 = .ok (.aload_n 0, 1) := by decide +kernel
theorem dX12_runs_23 : decode cX12_runs 23 = .ok (.invokevirtual 283, 3) := by decide +kernel
theorem dX12_runs_26 : decode cX12_runs 26 = .ok (.if_icmp .ge 84, 3) := by decide +kernel
theorem dX12_runs_29 : decode cX12_runs 29 = .ok (.aload_n 0, 1) := by decide +kernel
theorem dX12_runs_30 : decode cX12_runs 30 = .ok (.getfield 95, 3) := by decide +kernel
theorem dX12_runs_33 : decode cX12_runs 33 = .ok (.iconst 3, 1) := by decide +kernel
theorem dX12_runs_34 : decode cX12_runs 34 = .ok (.iload_n 1, 1) := by decide +kernel
theorem dX12_runs_35 : decode cX12_runs 35 = .ok (.imul, 1) := by decide +kernel
theorem dX12_runs_36 : decode cX12_runs 36 = .ok (.iload_n 2, 1) := by decide +kernel
theorem dX12_runs_37 : decode cX12_runs 37 = .ok (.iadd, 1) := by decide +kernel
theorem dX12_runs_38 : decode cX12_runs 38 = .ok (.aload_n 0, 1) := by decide +kernel
theorem dX12_runs_39 : decode cX12_runs 39 = .ok (.getfield 71, 3) := by decide +kernel
theorem dX12_runs_42 : decode cX12_runs 42 = .ok (.iload_n 2, 1) := by decide +kernel
theorem dX12_runs_43 : decode cX12_runs 43 = .ok (.iaload, 1) := by decide +kernel
theorem dX12_runs_44 : decode cX12_runs 44 = .ok (.iastore, 1) := by decide +kernel
theorem dX12_runs_45 : decode cX12_runs 45 = .ok (.aload_n 0, 1) := by decide +kernel
theorem dX12_runs_46 : decode cX12_runs 46 = .ok (.getfield 98, 3) := by decide +kernel
theorem dX12_runs_49 : decode cX12_runs 49 = .ok (.iconst 3, 1) := by decide +kernel
theorem dX12_runs_50 : decode cX12_runs 50 = .ok (.iload_n 1, 1) := by decide +kernel
theorem dX12_runs_51 : decode cX12_runs 51 = .ok (.imul, 1) := by decide +kernel
theorem dX12_runs_52 : decode cX12_runs 52 = .ok (.iload_n 2, 1) := by decide +kernel
theorem dX12_runs_53 : decode cX12_runs 53 = .ok (.iadd, 1) := by decide +kernel
theorem dX12_runs_54 : decode cX12_runs 54 = .ok (.aload_n 0, 1) := by decide +kernel
theorem dX12_runs_55 : decode cX12_runs 55 = .ok (.iload_n 2, 1) := by decide +kernel
theorem dX12_runs_56 : decode cX12_runs 56 = .ok (.invokevirtual 317, 3) := by decide +kernel
theorem dX12_runs_59 : decode cX12_runs 59 = .ok (.iastore, 1) := by decide +kernel
theorem dX12_runs_60 : decode cX12_runs 60 = .ok (.iconst 0, 1) := by decide +kernel
theorem dX12_runs_61 : decode cX12_runs 61 = .ok (.istore_n 3, 1) := by decide +kernel
theorem dX12_runs_62 : decode cX12_runs 62 = .ok (.iload_n 3, 1) := by decide +kernel
theorem dX12_runs_63 : decode cX12_runs 63 = .ok (.aload_n 0, 1) := by decide +kernel
theorem dX12_runs_64 : decode cX12_runs 64 = .ok (.getfield 71, 3) := by decide +kernel
theorem dX12_runs_67 : decode cX12_runs 67 = .ok (.iload_n 2, 1) := by decide +kernel
theorem dX12_runs_68 : decode cX12_runs 68 = .ok (.iaload, 1) := by decide +kernel
theorem dX12_runs_69 : decode cX12_runs 69 = .ok (.if_icmp .ge 35, 3) := by decide +kernel
theorem dX12_runs_72 : decode cX12_runs 72 = .ok (.aload_n 0, 1) := by decide +kernel
theorem dX12_runs_73 : decode cX12_runs 73 = .ok (.getfield 101, 3) := by decide +kernel
theorem dX12_runs_76 : decode cX12_runs 76 = .ok (.bipush 8, 2) := by decide +kernel
theorem dX12_runs_78 : decode cX12_runs 78 = .ok (.iconst 3, 1) := by decide +kernel
theorem dX12_runs_79 : decode cX12_runs 79 = .ok (.iload_n 1, 1) := by decide +kernel
theorem dX12_runs_80 : decode cX12_runs 80 = .ok (.imul, 1) := by decide +kernel
theorem dX12_runs_81 : decode cX12_runs 81 = .ok (.iload_n 2, 1) := by decide +kernel
theorem dX12_runs_82 : decode cX12_runs 82 = .ok (.iadd, 1) := by decide +kernel
theorem dX12_runs_83 : decode cX12_runs 83 = .ok (.imul, 1) := by decide +kernel
theorem dX12_runs_84 : decode cX12_runs 84 = .ok (.iload_n 3, 1) := by decide +kernel
theorem dX12_runs_85 : decode cX12_runs 85 = .ok (.iadd, 1) := by decide +kernel
theorem dX12_runs_86 : decode cX12_runs 86 = .ok (.aload_n 0, 1) := by decide +kernel
theorem dX12_runs_87 : decode cX12_runs 87 = .ok (.getfield 65, 3) := by decide +kernel
theorem dX12_runs_90 : decode cX12_runs 90 = .ok (.bipush 8, 2) := by decide +kernel
theorem dX12_runs_92 : decode cX12_runs 92 = .ok (.iload_n 2, 1) := by decide +kernel
theorem dX12_runs_93 : decode cX12_runs 93 = .ok (.imul, 1) := by decide +kernel
theorem dX12_runs_94 : decode cX12_runs 94 = .ok (.iload_n 3, 1) := by decide +kernel
theorem dX12_runs_95 : decode cX12_runs 95 = .ok (.iadd, 1) := by decide +kernel
theorem dX12_runs_96 : decode cX12_runs 96 = .ok (.iaload, 1) := by decide +kernel
theorem dX12_runs_97 : decode cX12_runs 97 = .ok (.iastore, 1) := by decide +kernel
theorem dX12_runs_98 : decode cX12_runs 98 = .ok (.iinc 3 1, 3) := by decide +kernel
theorem dX12_runs_101 : decode cX12_runs 101 = .ok (.goto (-39), 3) := by decide +kernel
theorem dX12_runs_104 : decode cX12_runs 104 = .ok (.iinc 2 1, 3) := by decide +kernel
theorem dX12_runs_107 : decode cX12_runs 107 = .ok (.goto (-86), 3) := by decide +kernel
theorem dX12_runs_110 : decode cX12_runs 110 = .ok (.iinc 1 1, 3) := by decide +kernel
theorem dX12_runs_113 : decode cX12_runs 113 = .ok (.goto (-107), 3) := by decide +kernel
theorem dX12_runs_116 : decode cX12_runs 116 = .ok (.return_, 1) := by decide +kernel
theorem dX12_sagAll_0 : decode cX12_sagAll 0 = .ok (.iconst 0, 1) := by decide +kernel
theorem dX12_sagAll_1 : decode cX12_sagAll 1 = .ok (.istore_n 1, 1) := by decide +kernel
theorem dX12_sagAll_2 : decode cX12_sagAll 2 = .ok (.iconst 0, 1) := by decide +kernel
theorem dX12_sagAll_3 : decode cX12_sagAll 3 = .ok (.istore_n 2, 1) := by decide +kernel
theorem dX12_sagAll_4 : decode cX12_sagAll 4 = .ok (.iload_n 2, 1) := by decide +kernel
theorem dX12_sagAll_5 : decode cX12_sagAll 5 = .ok (.aload_n 0, 1) := by decide +kernel
theorem dX12_sagAll_6 : decode cX12_sagAll 6 = .ok (.invokevirtual 283, 3) := by decide +kernel
theorem dX12_sagAll_9 : decode cX12_sagAll 9 = .ok (.if_icmp .ge 17, 3) := by decide +kernel
theorem dX12_sagAll_12 : decode cX12_sagAll 12 = .ok (.iload_n 1, 1) := by decide +kernel
theorem dX12_sagAll_13 : decode cX12_sagAll 13 = .ok (.aload_n 0, 1) := by decide +kernel
theorem dX12_sagAll_14 : decode cX12_sagAll 14 = .ok (.iload_n 2, 1) := by decide +kernel
theorem dX12_sagAll_15 : decode cX12_sagAll 15 = .ok (.invokevirtual 317, 3) := by decide +kernel
theorem dX12_sagAll_18 : decode cX12_sagAll 18 = .ok (.iadd, 1) := by decide +kernel
theorem dX12_sagAll_19 : decode cX12_sagAll 19 = .ok (.istore_n 1, 1) := by decide +kernel
theorem dX12_sagAll_20 : decode cX12_sagAll 20 = .ok (.iinc 2 1, 3) := by decide +kernel
theorem dX12_sagAll_23 : decode cX12_sagAll 23 = .ok (.goto (-19), 3) := by decide +kernel
theorem dX12_sagAll_26 : decode cX12_sagAll 26 = .ok (.iload_n 1, 1) := by decide +kernel
theorem dX12_sagAll_27 : decode cX12_sagAll 27 = .ok (.ireturn, 1) := by decide +kernel
theorem dX12_sagWith_0 : decode cX12_sagWith 0 = .ok (.aload_n 0, 1) := by decide +kernel
theorem dX12_sagWith_1 : decode cX12_sagWith 1 = .ok (.getfield 71, 3) := by decide +kernel
theorem dX12_sagWith_4 : decode cX12_sagWith 4 = .ok (.iload_n 1, 1) := by decide +kernel
theorem dX12_sagWith_5 : decode cX12_sagWith 5 = .ok (.aload_n 0, 1) := by decide +kernel
theorem dX12_sagWith_6 : decode cX12_sagWith 6 = .ok (.getfield 95, 3) := by decide +kernel
theorem dX12_sagWith_9 : decode cX12_sagWith 9 = .ok (.iconst 3, 1) := by decide +kernel
theorem dX12_sagWith_10 : decode cX12_sagWith 10 = .ok (.iload_n 2, 1) := by decide +kernel
theorem dX12_sagWith_11 : decode cX12_sagWith 11 = .ok (.imul, 1) := by decide +kernel
theorem dX12_sagWith_12 : decode cX12_sagWith 12 = .ok (.iload_n 1, 1) := by decide +kernel
theorem dX12_sagWith_13 : decode cX12_sagWith 13 = .ok (.iadd, 1) := by decide +kernel
theorem dX12_sagWith_14 : decode cX12_sagWith 14 = .ok (.iaload, 1) := by decide +kernel
theorem dX12_sagWith_15 : decode cX12_sagWith 15 = .ok (.iastore, 1) := by decide +kernel
theorem dX12_sagWith_16 : decode cX12_sagWith 16 = .ok (.iconst 0, 1) := by decide +kernel
theorem dX12_sagWith_17 : decode cX12_sagWith 17 = .ok (.istore 4, 2) := by decide +kernel
theorem dX12_sagWith_19 : decode cX12_sagWith 19 = .ok (.iload 4, 2) := by decide +kernel
theorem dX12_sagWith_21 : decode cX12_sagWith 21 = .ok (.aload_n 0, 1) := by decide +kernel
theorem dX12_sagWith_22 : decode cX12_sagWith 22 = .ok (.getfield 71, 3) := by decide +kernel
theorem dX12_sagWith_25 : decode cX12_sagWith 25 = .ok (.iload_n 1, 1) := by decide +kernel
theorem dX12_sagWith_26 : decode cX12_sagWith 26 = .ok (.iaload, 1) := by decide +kernel
theorem dX12_sagWith_27 : decode cX12_sagWith 27 = .ok (.if_icmp .ge 37, 3) := by decide +kernel
theorem dX12_sagWith_30 : decode cX12_sagWith 30 = .ok (.aload_n 0, 1) := by decide +kernel
theorem dX12_sagWith_31 : decode cX12_sagWith 31 = .ok (.getfield 65, 3) := by decide +kernel
theorem dX12_sagWith_34 : decode cX12_sagWith 34 = .ok (.bipush 8, 2) := by decide +kernel
theorem dX12_sagWith_36 : decode cX12_sagWith 36 = .ok (.iload_n 1, 1) := by decide +kernel
theorem dX12_sagWith_37 : decode cX12_sagWith 37 = .ok (.imul, 1) := by decide +kernel
theorem dX12_sagWith_38 : decode cX12_sagWith 38 = .ok (.iload 4, 2) := by decide +kernel
theorem dX12_sagWith_40 : decode cX12_sagWith 40 = .ok (.iadd, 1) := by decide +kernel
theorem dX12_sagWith_41 : decode cX12_sagWith 41 = .ok (.aload_n 0, 1) := by decide +kernel
theorem dX12_sagWith_42 : decode cX12_sagWith 42 = .ok (.getfield 101, 3) := by decide +kernel
theorem dX12_sagWith_45 : decode cX12_sagWith 45 = .ok (.bipush 8, 2) := by decide +kernel
theorem dX12_sagWith_47 : decode cX12_sagWith 47 = .ok (.iconst 3, 1) := by decide +kernel
theorem dX12_sagWith_48 : decode cX12_sagWith 48 = .ok (.iload_n 2, 1) := by decide +kernel
theorem dX12_sagWith_49 : decode cX12_sagWith 49 = .ok (.imul, 1) := by decide +kernel
theorem dX12_sagWith_50 : decode cX12_sagWith 50 = .ok (.iload_n 1, 1) := by decide +kernel
theorem dX12_sagWith_51 : decode cX12_sagWith 51 = .ok (.iadd, 1) := by decide +kernel
theorem dX12_sagWith_52 : decode cX12_sagWith 52 = .ok (.imul, 1) := by decide +kernel
theorem dX12_sagWith_53 : decode cX12_sagWith 53 = .ok (.iload 4, 2) := by decide +kernel
theorem dX12_sagWith_55 : decode cX12_sagWith 55 = .ok (.iadd, 1) := by decide +kernel
theorem dX12_sagWith_56 : decode cX12_sagWith 56 = .ok (.iaload, 1) := by decide +kernel
theorem dX12_sagWith_57 : decode cX12_sagWith 57 = .ok (.iastore, 1) := by decide +kernel
theorem dX12_sagWith_58 : decode cX12_sagWith 58 = .ok (.iinc 4 1, 3) := by decide +kernel
theorem dX12_sagWith_61 : decode cX12_sagWith 61 = .ok (.goto (-42), 3) := by decide +kernel
theorem dX12_sagWith_64 : decode cX12_sagWith 64 = .ok (.aload_n 0, 1) := by decide +kernel
theorem dX12_sagWith_65 : decode cX12_sagWith 65 = .ok (.iload_n 1, 1) := by decide +kernel
theorem dX12_sagWith_66 : decode cX12_sagWith 66 = .ok (.iload_n 3, 1) := by decide +kernel
theorem dX12_sagWith_67 : decode cX12_sagWith 67 = .ok (.iconst 0, 1) := by decide +kernel
theorem dX12_sagWith_68 : decode cX12_sagWith 68 = .ok (.invokevirtual 320, 3) := by decide +kernel
theorem dX12_sagWith_71 : decode cX12_sagWith 71 = .ok (.pop, 1) := by decide +kernel
theorem dX12_sagWith_72 : decode cX12_sagWith 72 = .ok (.aload_n 0, 1) := by decide +kernel
theorem dX12_sagWith_73 : decode cX12_sagWith 73 = .ok (.iload_n 1, 1) := by decide +kernel
theorem dX12_sagWith_74 : decode cX12_sagWith 74 = .ok (.invokevirtual 317, 3) := by decide +kernel
theorem dX12_sagWith_77 : decode cX12_sagWith 77 = .ok (.ireturn, 1) := by decide +kernel
theorem dX12_sagsNow_0 : decode cX12_sagsNow 0 = .ok (.aload_n 0, 1) := by decide +kernel
theorem dX12_sagsNow_1 : decode cX12_sagsNow 1 = .ok (.invokevirtual 336, 3) := by decide +kernel
theorem dX12_sagsNow_4 : decode cX12_sagsNow 4 = .ok (.aload_n 0, 1) := by decide +kernel
theorem dX12_sagsNow_5 : decode cX12_sagsNow 5 = .ok (.invokevirtual 339, 3) := by decide +kernel
theorem dX12_sagsNow_8 : decode cX12_sagsNow 8 = .ok (.ireturn, 1) := by decide +kernel
