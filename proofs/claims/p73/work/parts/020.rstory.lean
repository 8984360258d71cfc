theorem dX8_atEnd_0 : decode cX8_atEnd 0 = .ok (.aload_n 0, 1) := by decide +kernel
theorem dX8_atEnd_1 : decode cX8_atEnd 1 = .ok (.aload_n 0, 1) := by decide +kernel
theorem dX8_atEnd_2 : decode cX8_atEnd 2 = .ok (.getfield 22, 3) := by decide +kernel
theorem dX8_atEnd_5 : decode cX8_atEnd 5 = .ok (.getfield 30, 3) := by decide +kernel
theorem dX8_atEnd_8 : decode cX8_atEnd 8 = .ok (.iconst 1, 1) := by decide +kernel
theorem dX8_atEnd_9 : decode cX8_atEnd 9 = .ok (.isub, 1) := by decide +kernel
theorem dX8_atEnd_10 : decode cX8_atEnd 10 = .ok (.invokevirtual 44, 3) := by decide +kernel
theorem dX8_atEnd_13 : decode cX8_atEnd 13 = .ok (.areturn, 1) := by decide +kernel
theorem dX8_behind_0 : decode cX8_behind 0 = .ok (.iload_n 1, 1) := by decide +kernel
theorem dX8_behind_1 : decode cX8_behind 1 = .ok (.ifCond .lt 18, 3) := by decide +kernel
theorem dX8_behind_4 : decode cX8_behind 4 = .ok (.iload_n 1, 1) := by decide +kernel
theorem dX8_behind_5 : decode cX8_behind 5 = .ok (.bipush 7, 2) := by decide +kernel
theorem dX8_behind_7 : decode cX8_behind 7 = .ok (.if_icmp .ge 12, 3) := by decide +kernel
theorem dX8_behind_10 : decode cX8_behind 10 = .ok (.aload_n 0, 1) := by decide +kernel
theorem dX8_behind_11 : decode cX8_behind 11 = .ok (.getfield 18, 3) := by decide +kernel
theorem dX8_behind_14 : decode cX8_behind 14 = .ok (.iload_n 1, 1) := by decide +kernel
theorem dX8_behind_15 : decode cX8_behind 15 = .ok (.aaload, 1) := by decide +kernel
theorem dX8_behind_16 : decode cX8_behind 16 = .ok (.goto 7, 3) := by decide +kernel
theorem dX8_behind_19 : decode cX8_behind 19 = .ok (.aload_n 0, 1) := by decide +kernel
theorem dX8_behind_20 : decode cX8_behind 20 = .ok (.getfield 12, 3) := by decide +kernel
theorem dX8_behind_23 : decode cX8_behind 23 = .ok (.areturn, 1) := by decide +kernel
theorem dX8_step_0 : decode cX8_step 0 = .ok (.aload_n 0, 1) := by decide +kernel
theorem dX8_step_1 : decode cX8_step 1 = .ok (.getfield 22, 3) := by decide +kernel
theorem dX8_step_4 : decode cX8_step 4 = .ok (.iload_n 1, 1) := by decide +kernel
theorem dX8_step_5 : decode cX8_step 5 = .ok (.invokevirtual 40, 3) := by decide +kernel
theorem dX8_step_8 : decode cX8_step 8 = .ok (.ifCond .eq 14, 3) := by decide +kernel
theorem dX8_step_11 : decode cX8_step 11 = .ok (.aload_n 0, 1) := by decide +kernel
theorem dX8_step_12 : decode cX8_step 12 = .ok (.getfield 22, 3) := by decide +kernel
theorem dX8_step_15 : decode cX8_step 15 = .ok (.iload_n 2, 1) := by decide +kernel
theorem dX8_step_16 : decode cX8_step 16 = .ok (.invokevirtual 40, 3) := by decide +kernel
theorem dX8_step_19 : decode cX8_step 19 = .ok (.ifCond .ne 4, 3) := by decide +kernel
theorem dX8_step_22 : decode cX8_step 22 = .ok (.return_, 1) := by decide +kernel
theorem dX8_step_23 : decode cX8_step 23 = .ok (.aload_n 0, 1) := by decide +kernel
theorem dX8_step_24 : decode cX8_step 24 = .ok (.getfield 18, 3) := by decide +kernel
theorem dX8_step_27 : decode cX8_step 27 = .ok (.iload_n 1, 1) := by decide +kernel
theorem dX8_step_28 : decode cX8_step 28 = .ok (.aaload, 1) := by decide +kernel
theorem dX8_step_29 : decode cX8_step 29 = .ok (.astore_n 3, 1) := by decide +kernel
theorem dX8_step_30 : decode cX8_step 30 = .ok (.aload_n 3, 1) := by decide +kernel
theorem dX8_step_31 : decode cX8_step 31 = .ok (.aload_n 0, 1) := by decide +kernel
theorem dX8_step_32 : decode cX8_step 32 = .ok (.iload_n 1, 1) := by decide +kernel
theorem dX8_step_33 : decode cX8_step 33 = .ok (.iconst 1, 1) := by decide +kernel
theorem dX8_step_34 : decode cX8_step 34 = .ok (.isub, 1) := by decide +kernel
theorem dX8_step_35 : decode cX8_step 35 = .ok (.invokevirtual 44, 3) := by decide +kernel
theorem dX8_step_38 : decode cX8_step 38 = .ok (.invokevirtual 48, 3) := by decide +kernel
theorem dX8_step_41 : decode cX8_step 41 = .ok (.aload_n 0, 1) := by decide +kernel
theorem dX8_step_42 : decode cX8_step 42 = .ok (.getfield 26, 3) := by decide +kernel
theorem dX8_step_45 : decode cX8_step 45 = .ok (.getfield 52, 3) := by decide +kernel
theorem dX8_step_48 : decode cX8_step 48 = .ok (.iload_n 1, 1) := by decide +kernel
theorem dX8_step_49 : decode cX8_step 49 = .ok (.ishr, 1) := by decide +kernel
theorem dX8_step_50 : decode cX8_step 50 = .ok (.iconst 1, 1) := by decide +kernel
theorem dX8_step_51 : decode cX8_step 51 = .ok (.iand, 1) := by decide +kernel
theorem dX8_step_52 : decode cX8_step 52 = .ok (.ifCond .eq 14, 3) := by decide +kernel
theorem dX8_step_55 : decode cX8_step 55 = .ok (.aload_n 3, 1) := by decide +kernel
theorem dX8_step_56 : decode cX8_step 56 = .ok (.aload_n 0, 1) := by decide +kernel
theorem dX8_step_57 : decode cX8_step 57 = .ok (.getfield 22, 3) := by decide +kernel
theorem dX8_step_60 : decode cX8_step 60 = .ok (.getfield 57, 3) := by decide +kernel
theorem dX8_step_63 : decode cX8_step 63 = .ok (.invokevirtual 60, 3) := by decide +kernel
theorem dX8_step_66 : decode cX8_step 66 = .ok (.aload_n 3, 1) := by decide +kernel
theorem dX8_step_67 : decode cX8_step 67 = .ok (.aload_n 0, 1) := by decide +kernel
theorem dX8_step_68 : decode cX8_step 68 = .ok (.getfield 22, 3) := by decide +kernel
theorem dX8_step_71 : decode cX8_step 71 = .ok (.iload_n 2, 1) := by decide +kernel
theorem dX8_step_72 : decode cX8_step 72 = .ok (.aload_n 0, 1) := by decide +kernel
theorem dX8_step_73 : decode cX8_step 73 = .ok (.getfield 26, 3) := by decide +kernel
theorem dX8_step_76 : decode cX8_step 76 = .ok (.getfield 64, 3) := by decide +kernel
theorem dX8_step_79 : decode cX8_step 79 = .ok (.iload_n 2, 1) := by decide +kernel
theorem dX8_step_80 : decode cX8_step 80 = .ok (.iaload, 1) := by decide +kernel
theorem dX8_step_81 : decode cX8_step 81 = .ok (.aload_n 0, 1) := by decide +kernel
theorem dX8_step_82 : decode cX8_step 82 = .ok (.getfield 26, 3) := by decide +kernel
theorem dX8_step_85 : decode cX8_step 85 = .ok (.getfield 68, 3) := by decide +kernel
theorem dX8_step_88 : decode cX8_step 88 = .ok (.iload_n 2, 1) := by decide +kernel
theorem dX8_step_89 : decode cX8_step 89 = .ok (.iaload, 1) := by decide +kernel
theorem dX8_step_90 : decode cX8_step 90 = .ok (.aload_n 0, 1) := by decide +kernel
theorem dX8_step_91 : decode cX8_step 91 = .ok (.getfield 26, 3) := by decide +kernel
theorem dX8_step_94 : decode cX8_step 94 = .ok (.getfield 71, 3) := by decide +kernel
theorem dX8_step_97 : decode cX8_step 97 = .ok (.invokevirtual 74, 3) := by decide +kernel
theorem dX8_step_100 : decode cX8_step 100 = .ok (.return_, 1) := by decide +kernel
theorem dX8_tell_0 : decode cX8_tell 0 = .ok (.iconst 0, 1) := by decide +kernel
theorem dX8_tell_1 : decode cX8_tell 1 = .ok (.istore_n 1, 1) := by decide +kernel
theorem dX8_tell_2 : decode cX8_tell 2 = .ok (.iload_n 1, 1) := by decide +kernel
theorem dX8_tell_3 : decode cX8_tell 3 = .ok (.aload_n 0, 1) := by decide +kernel
theorem dX8_tell_4 : decode cX8_tell 4 = .ok (.getfield 22, 3) := by decide +kernel
theorem dX8_tell_7 : decode cX8_tell 7 = .ok (.getfield 30, 3) := by decide +kernel
theorem dX8_tell_10 : decode cX8_tell 10 = .ok (.if_icmp .ge 15, 3) := by decide +kernel
theorem dX8_tell_13 : decode cX8_tell 13 = .ok (.aload_n 0, 1) := by decide +kernel
theorem dX8_tell_14 : decode cX8_tell 14 = .ok (.iload_n 1, 1) := by decide +kernel
theorem dX8_tell_15 : decode cX8_tell 15 = .ok (.iload_n 1, 1) := by decide +kernel
theorem dX8_tell_16 : decode cX8_tell 16 = .ok (.invokevirtual 36, 3) := by decide +kernel
theorem dX8_tell_19 : decode cX8_tell 19 = .ok (.iinc 1 1, 3) := by decide +kernel
theorem dX8_tell_22 : decode cX8_tell 22 = .ok (.goto (-20), 3) := by decide +kernel
theorem dX8_tell_25 : decode cX8_tell 25 = .ok (.return_, 1) := by decide +kernel
