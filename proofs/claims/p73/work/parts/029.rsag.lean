theorem dX11_breaksInCold_0 : decode cX11_breaksInCold 0 = .ok (.aload_n 0, 1) := by decide +kernel
theorem dX11_breaksInCold_1 : decode cX11_breaksInCold 1 = .ok (.iload_n 1, 1) := by decide +kernel
theorem dX11_breaksInCold_2 : decode cX11_breaksInCold 2 = .ok (.invokevirtual 342, 3) := by decide +kernel
theorem dX11_breaksInCold_5 : decode cX11_breaksInCold 5 = .ok (.aload_n 0, 1) := by decide +kernel
theorem dX11_breaksInCold_6 : decode cX11_breaksInCold 6 = .ok (.getfield 49, 3) := by decide +kernel
theorem dX11_breaksInCold_9 : decode cX11_breaksInCold 9 = .ok (.invokevirtual 183, 3) := by decide +kernel
theorem dX11_breaksInCold_12 : decode cX11_breaksInCold 12 = .ok (.iload_n 2, 1) := by decide +kernel
theorem dX11_breaksInCold_13 : decode cX11_breaksInCold 13 = .ok (.invokevirtual 240, 3) := by decide +kernel
theorem dX11_breaksInCold_16 : decode cX11_breaksInCold 16 = .ok (.ireturn, 1) := by decide +kernel
theorem dX11_commonDivisor_0 : decode cX11_commonDivisor 0 = .ok (.lload_n 0, 1) := by decide +kernel
theorem dX11_commonDivisor_1 : decode cX11_commonDivisor 1 = .ok (.lstore 4, 2) := by decide +kernel
theorem dX11_commonDivisor_3 : decode cX11_commonDivisor 3 = .ok (.lload_n 2, 1) := by decide +kernel
theorem dX11_commonDivisor_4 : decode cX11_commonDivisor 4 = .ok (.lstore 6, 2) := by decide +kernel
theorem dX11_commonDivisor_6 : decode cX11_commonDivisor 6 = .ok (.iconst 0, 1) := by decide +kernel
theorem dX11_commonDivisor_7 : decode cX11_commonDivisor 7 = .ok (.istore 8, 2) := by decide +kernel
theorem dX11_commonDivisor_9 : decode cX11_commonDivisor 9 = .ok (.iload 8, 2) := by decide +kernel
theorem dX11_commonDivisor_11 : decode cX11_commonDivisor 11 = .ok (.sipush 200, 3) := by decide +kernel
theorem dX11_commonDivisor_14 : decode cX11_commonDivisor 14 = .ok (.if_icmp .ge 31, 3) := by decide +kernel
theorem dX11_commonDivisor_17 : decode cX11_commonDivisor 17 = .ok (.lload 6, 2) := by decide +kernel
theorem dX11_commonDivisor_19 : decode cX11_commonDivisor 19 = .ok (.lconst 0, 1) := by decide +kernel
theorem dX11_commonDivisor_20 : decode cX11_commonDivisor 20 = .ok (.lcmp, 1) := by decide +kernel
theorem dX11_commonDivisor_21 : decode cX11_commonDivisor 21 = .ok (.ifCond .eq 24, 3) := by decide +kernel
theorem dX11_commonDivisor_24 : decode cX11_commonDivisor 24 = .ok (.lload 4, 2) := by decide +kernel
theorem dX11_commonDivisor_26 : decode cX11_commonDivisor 26 = .ok (.lload 6, 2) := by decide +kernel
theorem dX11_commonDivisor_28 : decode cX11_commonDivisor 28 = .ok (.lrem, 1) := by decide +kernel
theorem dX11_commonDivisor_29 : decode cX11_commonDivisor 29 = .ok (.lstore 9, 2) := by decide +kernel
theorem dX11_commonDivisor_31 : decode cX11_commonDivisor 31 = .ok (.lload 6, 2) := by decide +kernel
theorem dX11_commonDivisor_33 : decode cX11_commonDivisor 33 = .ok (.lstore 4, 2) := by decide +kernel
theorem dX11_commonDivisor_35 : decode cX11_commonDivisor 35 = .ok (.lload 9, 2) := by decide +kernel
theorem dX11_commonDivisor_37 : decode cX11_commonDivisor 37 = .ok (.lstore 6, 2) := by decide +kernel
theorem dX11_commonDivisor_39 : decode cX11_commonDivisor 39 = .ok (.iinc 8 1, 3) := by decide +kernel
theorem dX11_commonDivisor_42 : decode cX11_commonDivisor 42 = .ok (.goto (-33), 3) := by decide +kernel
theorem dX11_commonDivisor_45 : decode cX11_commonDivisor 45 = .ok (.lload 4, 2) := by decide +kernel
theorem dX11_commonDivisor_47 : decode cX11_commonDivisor 47 = .ok (.lreturn, 1) := by decide +kernel
theorem dX11_depthWith_0 : decode cX11_depthWith 0 = .ok (.aload_n 0, 1) := by decide +kernel
theorem dX11_depthWith_1 : decode cX11_depthWith 1 = .ok (.getfield 72, 3) := by decide +kernel
theorem dX11_depthWith_4 : decode cX11_depthWith 4 = .ok (.aload_n 1, 1) := by decide +kernel
theorem dX11_depthWith_5 : decode cX11_depthWith 5 = .ok (.invokevirtual 418, 3) := by decide +kernel
theorem dX11_depthWith_8 : decode cX11_depthWith 8 = .ok (.aload_n 0, 1) := by decide +kernel
theorem dX11_depthWith_9 : decode cX11_depthWith 9 = .ok (.getfield 72, 3) := by decide +kernel
theorem dX11_depthWith_12 : decode cX11_depthWith 12 = .ok (.iload_n 2, 1) := by decide +kernel
theorem dX11_depthWith_13 : decode cX11_depthWith 13 = .ok (.iconst 0, 1) := by decide +kernel
theorem dX11_depthWith_14 : decode cX11_depthWith 14 = .ok (.aload_n 0, 1) := by decide +kernel
theorem dX11_depthWith_15 : decode cX11_depthWith 15 = .ok (.getfield 19, 3) := by decide +kernel
theorem dX11_depthWith_18 : decode cX11_depthWith 18 = .ok (.getfield 354, 3) := by decide +kernel
theorem dX11_depthWith_21 : decode cX11_depthWith 21 = .ok (.invokevirtual 421, 3) := by decide +kernel
theorem dX11_depthWith_24 : decode cX11_depthWith 24 = .ok (.pop, 1) := by decide +kernel
theorem dX11_depthWith_25 : decode cX11_depthWith 25 = .ok (.aload_n 0, 1) := by decide +kernel
theorem dX11_depthWith_26 : decode cX11_depthWith 26 = .ok (.getfield 72, 3) := by decide +kernel
theorem dX11_depthWith_29 : decode cX11_depthWith 29 = .ok (.invokevirtual 205, 3) := by decide +kernel
theorem dX11_depthWith_32 : decode cX11_depthWith 32 = .ok (.ireturn, 1) := by decide +kernel
theorem dX11_factorial_0 : decode cX11_factorial 0 = .ok (.lconst 1, 1) := by decide +kernel
theorem dX11_factorial_1 : decode cX11_factorial 1 = .ok (.lstore_n 1, 1) := by decide +kernel
theorem dX11_factorial_2 : decode cX11_factorial 2 = .ok (.iconst 2, 1) := by decide +kernel
theorem dX11_factorial_3 : decode cX11_factorial 3 = .ok (.istore_n 3, 1) := by decide +kernel
theorem dX11_factorial_4 : decode cX11_factorial 4 = .ok (.iload_n 3, 1) := by decide +kernel
theorem dX11_factorial_5 : decode cX11_factorial 5 = .ok (.iload_n 0, 1) := by decide +kernel
theorem dX11_factorial_6 : decode cX11_factorial 6 = .ok (.if_icmp .gt 14, 3) := by decide +kernel
theorem dX11_factorial_9 : decode cX11_factorial 9 = .ok (.lload_n 1, 1) := by decide +kernel
theorem dX11_factorial_10 : decode cX11_factorial 10 = .ok (.iload_n 3, 1) := by decide +kernel
theorem dX11_factorial_11 : decode cX11_factorial 11 = .ok (.i2l, 1) := by decide +kernel
theorem dX11_factorial_12 : decode cX11_factorial 12 = .ok (.lmul, 1) := by decide +kernel
theorem dX11_factorial_13 : decode cX11_factorial 13 = .ok (.lstore_n 1, 1) := by decide +kernel
theorem dX11_factorial_14 : decode cX11_factorial 14 = .ok (.iinc 3 1, 3) := by decide +kernel
theorem dX11_factorial_17 : decode cX11_factorial 17 = .ok (.goto (-13), 3) := by decide +kernel
theorem dX11_factorial_20 : decode cX11_factorial 20 = .ok (.lload_n 1, 1) := by decide +kernel
theorem dX11_factorial_21 : decode cX11_factorial 21 = .ok (.lreturn, 1) := by decide +kernel
theorem dX11_firstBroken_0 : decode cX11_firstBroken 0 = .ok (.iconst 0, 1) := by decide +kernel
theorem dX11_firstBroken_1 : decode cX11_firstBroken 1 = .ok (.istore_n 2, 1) := by decide +kernel
theorem dX11_firstBroken_2 : decode cX11_firstBroken 2 = .ok (.iload_n 2, 1) := by decide +kernel
theorem dX11_firstBroken_3 : decode cX11_firstBroken 3 = .ok (.aload_n 0, 1) := by decide +kernel
theorem dX11_firstBroken_4 : decode cX11_firstBroken 4 = .ok (.getfield 19, 3) := by decide +kernel
theorem dX11_firstBroken_7 : decode cX11_firstBroken 7 = .ok (.getfield 177, 3) := by decide +kernel
theorem dX11_firstBroken_10 : decode cX11_firstBroken 10 = .ok (.if_icmp .ge 27, 3) := by decide +kernel
theorem dX11_firstBroken_13 : decode cX11_firstBroken 13 = .ok (.aload_n 0, 1) := by decide +kernel
theorem dX11_firstBroken_14 : decode cX11_firstBroken 14 = .ok (.getfield 45, 3) := by decide +kernel
theorem dX11_firstBroken_17 : decode cX11_firstBroken 17 = .ok (.iload_n 2, 1) := by decide +kernel
theorem dX11_firstBroken_18 : decode cX11_firstBroken 18 = .ok (.invokevirtual 165, 3) := by decide +kernel
theorem dX11_firstBroken_21 : decode cX11_firstBroken 21 = .ok (.getfield 233, 3) := by decide +kernel
theorem dX11_firstBroken_24 : decode cX11_firstBroken 24 = .ok (.iload_n 1, 1) := by decide +kernel
theorem dX11_firstBroken_25 : decode cX11_firstBroken 25 = .ok (.iand, 1) := by decide +kernel
theorem dX11_firstBroken_26 : decode cX11_firstBroken 26 = .ok (.ifCond .eq 5, 3) := by decide +kernel
theorem dX11_firstBroken_29 : decode cX11_firstBroken 29 = .ok (.iload_n 2, 1) := by decide +kernel
theorem dX11_firstBroken_30 : decode cX11_firstBroken 30 = .ok (.ireturn, 1) := by decide +kernel
theorem dX11_firstBroken_31 : decode cX11_firstBroken 31 = .ok (.iinc 2 1, 3) := by decide +kernel
theorem dX11_firstBroken_34 : decode cX11_firstBroken 34 = .ok (.goto (-32), 3) := by decide +kernel
theorem dX11_firstBroken_37 : decode cX11_firstBroken 37 = .ok (.iconst (-1), 1) := by decide +kernel
theorem dX11_firstBroken_38 : decode cX11_firstBroken 38 = .ok (.ireturn, 1) := by decide +kernel
theorem dX11_fitsWithLoad_0 : decode cX11_fitsWithLoad 0 = .ok (.aload_n 0, 1) := by decide +kernel
theorem dX11_fitsWithLoad_1 : decode cX11_fitsWithLoad 1 = .ok (.getfield 37, 3) := by decide +kernel
theorem dX11_fitsWithLoad_4 : decode cX11_fitsWithLoad 4 = .ok (.aload_n 0, 1) := by decide +kernel
theorem dX11_fitsWithLoad_5 : decode cX11_fitsWithLoad 5 = .ok (.getfield 33, 3) := by decide +kernel
theorem dX11_fitsWithLoad_8 : decode cX11_fitsWithLoad 8 = .ok (.invokevirtual 425, 3) := by decide +kernel
theorem dX11_fitsWithLoad_11 : decode cX11_fitsWithLoad 11 = .ok (.aload_n 0, 1) := by decide +kernel
theorem dX11_fitsWithLoad_12 : decode cX11_fitsWithLoad 12 = .ok (.getfield 37, 3) := by decide +kernel
theorem dX11_fitsWithLoad_15 : decode cX11_fitsWithLoad 15 = .ok (.getfield 444, 3) := by decide +kernel
theorem dX11_fitsWithLoad_18 : decode cX11_fitsWithLoad 18 = .ok (.iload_n 2, 1) := by decide +kernel
theorem dX11_fitsWithLoad_19 : decode cX11_fitsWithLoad 19 = .ok (.iload_n 3, 1) := by decide +kernel
theorem dX11_fitsWithLoad_20 : decode cX11_fitsWithLoad 20 = .ok (.iastore, 1) := by decide +kernel
theorem dX11_fitsWithLoad_21 : decode cX11_fitsWithLoad 21 = .ok (.aload_n 0, 1) := by decide +kernel
theorem dX11_fitsWithLoad_22 : decode cX11_fitsWithLoad 22 = .ok (.getfield 49, 3) := by decide +kernel
theorem dX11_fitsWithLoad_25 : decode cX11_fitsWithLoad 25 = .ok (.invokevirtual 412, 3) := by decide +kernel
theorem dX11_fitsWithLoad_28 : decode cX11_fitsWithLoad 28 = .ok (.aload_n 0, 1) := by decide +kernel
theorem dX11_fitsWithLoad_29 : decode cX11_fitsWithLoad 29 = .ok (.getfield 85, 3) := by decide +kernel
theorem dX11_fitsWithLoad_32 : decode cX11_fitsWithLoad 32 = .ok (.iload_n 1, 1) := by decide +kernel
theorem dX11_fitsWithLoad_33 : decode cX11_fitsWithLoad 33 = .ok (.aaload, 1) := by decide +kernel
theorem dX11_fitsWithLoad_34 : decode cX11_fitsWithLoad 34 = .ok (.aload_n 0, 1) := by decide +kernel
theorem dX11_fitsWithLoad_35 : decode cX11_fitsWithLoad 35 = .ok (.getfield 49, 3) := by decide +kernel
theorem dX11_fitsWithLoad_38 : decode cX11_fitsWithLoad 38 = .ok (.invokevirtual 300, 3) := by decide +kernel
theorem dX11_fitsWithLoad_41 : decode cX11_fitsWithLoad 41 = .ok (.ireturn, 1) := by decide +kernel
theorem dX11_hasBoth_0 : decode cX11_hasBoth 0 = .ok (.aload_n 0, 1) := by decide +kernel
theorem dX11_hasBoth_1 : decode cX11_hasBoth 1 = .ok (.getfield 19, 3) := by decide +kernel
theorem dX11_hasBoth_4 : decode cX11_hasBoth 4 = .ok (.iload_n 1, 1) := by decide +kernel
theorem dX11_hasBoth_5 : decode cX11_hasBoth 5 = .ok (.invokevirtual 131, 3) := by decide +kernel
theorem dX11_hasBoth_8 : decode cX11_hasBoth 8 = .ok (.ifCond .eq 18, 3) := by decide +kernel
theorem dX11_hasBoth_11 : decode cX11_hasBoth 11 = .ok (.aload_n 0, 1) := by decide +kernel
theorem dX11_hasBoth_12 : decode cX11_hasBoth 12 = .ok (.getfield 19, 3) := by decide +kernel
theorem dX11_hasBoth_15 : decode cX11_hasBoth 15 = .ok (.iload_n 2, 1) := by decide +kernel
theorem dX11_hasBoth_16 : decode cX11_hasBoth 16 = .ok (.invokevirtual 141, 3) := by decide +kernel
theorem dX11_hasBoth_19 : decode cX11_hasBoth 19 = .ok (.ifCond .eq 7, 3) := by decide +kernel
theorem dX11_hasBoth_22 : decode cX11_hasBoth 22 = .ok (.iconst 1, 1) := by decide +kernel
theorem dX11_hasBoth_23 : decode cX11_hasBoth 23 = .ok (.goto 4, 3) := by decide +kernel
theorem dX11_hasBoth_26 : decode cX11_hasBoth 26 = .ok (.iconst 0, 1) := by decide +kernel
theorem dX11_hasBoth_27 : decode cX11_hasBoth 27 = .ok (.ireturn, 1) := by decide +kernel
theorem dX11_hasSlot_0 : decode cX11_hasSlot 0 = .ok (.iload_n 0, 1) := by decide +kernel
theorem dX11_hasSlot_1 : decode cX11_hasSlot 1 = .ok (.ifCond .lt 12, 3) := by decide +kernel
theorem dX11_hasSlot_4 : decode cX11_hasSlot 4 = .ok (.iload_n 0, 1) := by decide +kernel
theorem dX11_hasSlot_5 : decode cX11_hasSlot 5 = .ok (.iconst 4, 1) := by decide +kernel
theorem dX11_hasSlot_6 : decode cX11_hasSlot 6 = .ok (.if_icmp .ge 7, 3) := by decide +kernel
theorem dX11_hasSlot_9 : decode cX11_hasSlot 9 = .ok (.iconst 1, 1) := by decide +kernel
theorem dX11_hasSlot_10 : decode cX11_hasSlot 10 = .ok (.goto 4, 3) := by decide +kernel
theorem dX11_hasSlot_13 : decode cX11_hasSlot 13 = .ok (.iconst 0, 1) := by decide +kernel
theorem dX11_hasSlot_14 : decode cX11_hasSlot 14 = .ok (.ireturn, 1) := by decide +kernel
theorem dX11_isAtRest_0 : decode cX11_isAtRest 0 = .ok (.iload_n 1, 1) := by decide +kernel
theorem dX11_isAtRest_1 : decode cX11_isAtRest 1 = .ok (.iconst 3, 1) := by decide +kernel
theorem dX11_isAtRest_2 : decode cX11_isAtRest 2 = .ok (.imul, 1) := by decide +kernel
theorem dX11_isAtRest_3 : decode cX11_isAtRest 3 = .ok (.iload_n 2, 1) := by decide +kernel
theorem dX11_isAtRest_4 : decode cX11_isAtRest 4 = .ok (.iadd, 1) := by decide +kernel
theorem dX11_isAtRest_5 : decode cX11_isAtRest 5 = .ok (.istore_n 3, 1) := by decide +kernel
theorem dX11_isAtRest_6 : decode cX11_isAtRest 6 = .ok (.iconst 0, 1) := by decide +kernel
theorem dX11_isAtRest_7 : decode cX11_isAtRest 7 = .ok (.istore 4, 2) := by decide +kernel
theorem dX11_isAtRest_9 : decode cX11_isAtRest 9 = .ok (.iload 4, 2) := by decide +kernel
theorem dX11_isAtRest_11 : decode cX11_isAtRest 11 = .ok (.aload_n 0, 1) := by decide +kernel
theorem dX11_isAtRest_12 : decode cX11_isAtRest 12 = .ok (.getfield 19, 3) := by decide +kernel
theorem dX11_isAtRest_15 : decode cX11_isAtRest 15 = .ok (.getfield 212, 3) := by decide +kernel
theorem dX11_isAtRest_18 : decode cX11_isAtRest 18 = .ok (.if_icmp .ge 51, 3) := by decide +kernel
theorem dX11_isAtRest_21 : decode cX11_isAtRest 21 = .ok (.aload_n 0, 1) := by decide +kernel
theorem dX11_isAtRest_22 : decode cX11_isAtRest 22 = .ok (.getfield 76, 3) := by decide +kernel
theorem dX11_isAtRest_25 : decode cX11_isAtRest 25 = .ok (.iload 4, 2) := by decide +kernel
theorem dX11_isAtRest_27 : decode cX11_isAtRest 27 = .ok (.iconst 3, 1) := by decide +kernel
theorem dX11_isAtRest_28 : decode cX11_isAtRest 28 = .ok (.imul, 1) := by decide +kernel
theorem dX11_isAtRest_29 : decode cX11_isAtRest 29 = .ok (.iload_n 2, 1) := by decide +kernel
theorem dX11_isAtRest_30 : decode cX11_isAtRest 30 = .ok (.iadd, 1) := by decide +kernel
theorem dX11_isAtRest_31 : decode cX11_isAtRest 31 = .ok (.iaload, 1) := by decide +kernel
theorem dX11_isAtRest_32 : decode cX11_isAtRest 32 = .ok (.aload_n 0, 1) := by decide +kernel
theorem dX11_isAtRest_33 : decode cX11_isAtRest 33 = .ok (.getfield 76, 3) := by decide +kernel
theorem dX11_isAtRest_36 : decode cX11_isAtRest 36 = .ok (.iload_n 3, 1) := by decide +kernel
theorem dX11_isAtRest_37 : decode cX11_isAtRest 37 = .ok (.iaload, 1) := by decide +kernel
theorem dX11_isAtRest_38 : decode cX11_isAtRest 38 = .ok (.if_icmp .lt 23, 3) := by decide +kernel
theorem dX11_isAtRest_41 : decode cX11_isAtRest 41 = .ok (.aload_n 0, 1) := by decide +kernel
theorem dX11_isAtRest_42 : decode cX11_isAtRest 42 = .ok (.getfield 80, 3) := by decide +kernel
theorem dX11_isAtRest_45 : decode cX11_isAtRest 45 = .ok (.iload_n 1, 1) := by decide +kernel
theorem dX11_isAtRest_46 : decode cX11_isAtRest 46 = .ok (.iconst 3, 1) := by decide +kernel
theorem dX11_isAtRest_47 : decode cX11_isAtRest 47 = .ok (.imul, 1) := by decide +kernel
theorem dX11_isAtRest_48 : decode cX11_isAtRest 48 = .ok (.iload 4, 2) := by decide +kernel
theorem dX11_isAtRest_50 : decode cX11_isAtRest 50 = .ok (.iadd, 1) := by decide +kernel
theorem dX11_isAtRest_51 : decode cX11_isAtRest 51 = .ok (.iaload, 1) := by decide +kernel
theorem dX11_isAtRest_52 : decode cX11_isAtRest 52 = .ok (.aload_n 0, 1) := by decide +kernel
theorem dX11_isAtRest_53 : decode cX11_isAtRest 53 = .ok (.getfield 80, 3) := by decide +kernel
theorem dX11_isAtRest_56 : decode cX11_isAtRest 56 = .ok (.iload_n 3, 1) := by decide +kernel
theorem dX11_isAtRest_57 : decode cX11_isAtRest 57 = .ok (.iaload, 1) := by decide +kernel
theorem dX11_isAtRest_58 : decode cX11_isAtRest 58 = .ok (.if_icmp .ge 5, 3) := by decide +kernel
theorem dX11_isAtRest_61 : decode cX11_isAtRest 61 = .ok (.iconst 0, 1) := by decide +kernel
theorem dX11_isAtRest_62 : decode cX11_isAtRest 62 = .ok (.ireturn, 1) := by decide +kernel
theorem dX11_isAtRest_63 : decode cX11_isAtRest 63 = .ok (.iinc 4 1, 3) := by decide +kernel
theorem dX11_isAtRest_66 : decode cX11_isAtRest 66 = .ok (.goto (-57), 3) := by decide +kernel
theorem dX11_isAtRest_69 : decode cX11_isAtRest 69 = .ok (.iconst 1, 1) := by decide +kernel
theorem dX11_isAtRest_70 : decode cX11_isAtRest 70 = .ok (.ireturn, 1) := by decide +kernel
theorem dX11_lookAtBook_0 : decode cX11_lookAtBook 0 = .ok (.iload_n 1, 1) := by decide +kernel
theorem dX11_lookAtBook_1 : decode cX11_lookAtBook 1 = .ok (.invokestatic 380, 3) := by decide +kernel
theorem dX11_lookAtBook_4 : decode cX11_lookAtBook 4 = .ok (.ifCond .eq 10, 3) := by decide +kernel
theorem dX11_lookAtBook_7 : decode cX11_lookAtBook 7 = .ok (.aload_n 0, 1) := by decide +kernel
theorem dX11_lookAtBook_8 : decode cX11_lookAtBook 8 = .ok (.invokevirtual 180, 3) := by decide +kernel
theorem dX11_lookAtBook_11 : decode cX11_lookAtBook 11 = .ok (.ifCond .eq 6, 3) := by decide +kernel
theorem dX11_lookAtBook_14 : decode cX11_lookAtBook 14 = .ok (.bipush (-2), 2) := by decide +kernel
theorem dX11_lookAtBook_16 : decode cX11_lookAtBook 16 = .ok (.ireturn, 1) := by decide +kernel
theorem dX11_lookAtBook_17 : decode cX11_lookAtBook 17 = .ok (.aload_n 0, 1) := by decide +kernel
theorem dX11_lookAtBook_18 : decode cX11_lookAtBook 18 = .ok (.getfield 85, 3) := by decide +kernel
theorem dX11_lookAtBook_21 : decode cX11_lookAtBook 21 = .ok (.iload_n 1, 1) := by decide +kernel
theorem dX11_lookAtBook_22 : decode cX11_lookAtBook 22 = .ok (.aaload, 1) := by decide +kernel
theorem dX11_lookAtBook_23 : decode cX11_lookAtBook 23 = .ok (.getfield 386, 3) := by decide +kernel
theorem dX11_lookAtBook_26 : decode cX11_lookAtBook 26 = .ok (.ifCond .ne 6, 3) := by decide +kernel
theorem dX11_lookAtBook_29 : decode cX11_lookAtBook 29 = .ok (.bipush (-6), 2) := by decide +kernel
theorem dX11_lookAtBook_31 : decode cX11_lookAtBook 31 = .ok (.ireturn, 1) := by decide +kernel
theorem dX11_lookAtBook_32 : decode cX11_lookAtBook 32 = .ok (.aload_n 0, 1) := by decide +kernel
theorem dX11_lookAtBook_33 : decode cX11_lookAtBook 33 = .ok (.getfield 85, 3) := by decide +kernel
theorem dX11_lookAtBook_36 : decode cX11_lookAtBook 36 = .ok (.iload_n 1, 1) := by decide +kernel
theorem dX11_lookAtBook_37 : decode cX11_lookAtBook 37 = .ok (.aaload, 1) := by decide +kernel
theorem dX11_lookAtBook_38 : decode cX11_lookAtBook 38 = .ok (.aload_n 0, 1) := by decide +kernel
theorem dX11_lookAtBook_39 : decode cX11_lookAtBook 39 = .ok (.getfield 19, 3) := by decide +kernel
theorem dX11_lookAtBook_42 : decode cX11_lookAtBook 42 = .ok (.invokevirtual 440, 3) := by decide +kernel
theorem dX11_lookAtBook_45 : decode cX11_lookAtBook 45 = .ok (.ifCond .eq 7, 3) := by decide +kernel
theorem dX11_lookAtBook_48 : decode cX11_lookAtBook 48 = .ok (.iconst 0, 1) := by decide +kernel
theorem dX11_lookAtBook_49 : decode cX11_lookAtBook 49 = .ok (.goto 5, 3) := by decide +kernel
theorem dX11_lookAtBook_52 : decode cX11_lookAtBook 52 = .ok (.bipush (-2), 2) := by decide +kernel
theorem dX11_lookAtBook_54 : decode cX11_lookAtBook 54 = .ok (.ireturn, 1) := by decide +kernel
theorem dX11_lookAtBookFor_0 : decode cX11_lookAtBookFor 0 = .ok (.aload_n 0, 1) := by decide +kernel
theorem dX11_lookAtBookFor_1 : decode cX11_lookAtBookFor 1 = .ok (.getfield 19, 3) := by decide +kernel
theorem dX11_lookAtBookFor_4 : decode cX11_lookAtBookFor 4 = .ok (.iload_n 2, 1) := by decide +kernel
theorem dX11_lookAtBookFor_5 : decode cX11_lookAtBookFor 5 = .ok (.invokevirtual 141, 3) := by decide +kernel
theorem dX11_lookAtBookFor_8 : decode cX11_lookAtBookFor 8 = .ok (.ifCond .eq 11, 3) := by decide +kernel
theorem dX11_lookAtBookFor_11 : decode cX11_lookAtBookFor 11 = .ok (.aload_n 0, 1) := by decide +kernel
theorem dX11_lookAtBookFor_12 : decode cX11_lookAtBookFor 12 = .ok (.iload_n 1, 1) := by decide +kernel
theorem dX11_lookAtBookFor_13 : decode cX11_lookAtBookFor 13 = .ok (.invokevirtual 297, 3) := by decide +kernel
theorem dX11_lookAtBookFor_16 : decode cX11_lookAtBookFor 16 = .ok (.goto 5, 3) := by decide +kernel
theorem dX11_lookAtBookFor_19 : decode cX11_lookAtBookFor 19 = .ok (.bipush (-2), 2) := by decide +kernel
theorem dX11_lookAtBookFor_21 : decode cX11_lookAtBookFor 21 = .ok (.ireturn, 1) := by decide +kernel
theorem dX11_lowestTerm_0 : decode cX11_lowestTerm 0 = .ok (.lload_n 0, 1) := by decide +kernel
theorem dX11_lowestTerm_1 : decode cX11_lowestTerm 1 = .ok (.invokestatic 458, 3) := by decide +kernel
theorem dX11_lowestTerm_4 : decode cX11_lowestTerm 4 = .ok (.lload_n 2, 1) := by decide +kernel
theorem dX11_lowestTerm_5 : decode cX11_lowestTerm 5 = .ok (.invokestatic 463, 3) := by decide +kernel
theorem dX11_lowestTerm_8 : decode cX11_lowestTerm 8 = .ok (.lstore 5, 2) := by decide +kernel
theorem dX11_lowestTerm_10 : decode cX11_lowestTerm 10 = .ok (.lload 5, 2) := by decide +kernel
theorem dX11_lowestTerm_12 : decode cX11_lowestTerm 12 = .ok (.lconst 0, 1) := by decide +kernel
theorem dX11_lowestTerm_13 : decode cX11_lowestTerm 13 = .ok (.lcmp, 1) := by decide +kernel
theorem dX11_lowestTerm_14 : decode cX11_lowestTerm 14 = .ok (.ifCond .gt 7, 3) := by decide +kernel
theorem dX11_lowestTerm_17 : decode cX11_lowestTerm 17 = .ok (.iload 4, 2) := by decide +kernel
theorem dX11_lowestTerm_19 : decode cX11_lowestTerm 19 = .ok (.i2l, 1) := by decide +kernel
theorem dX11_lowestTerm_20 : decode cX11_lowestTerm 20 = .ok (.lreturn, 1) := by decide +kernel
theorem dX11_lowestTerm_21 : decode cX11_lowestTerm 21 = .ok (.iload 4, 2) := by decide +kernel
theorem dX11_lowestTerm_23 : decode cX11_lowestTerm 23 = .ok (.ifCond .ne 7, 3) := by decide +kernel
theorem dX11_lowestTerm_26 : decode cX11_lowestTerm 26 = .ok (.lload_n 0, 1) := by decide +kernel
theorem dX11_lowestTerm_27 : decode cX11_lowestTerm 27 = .ok (.goto 4, 3) := by decide +kernel
theorem dX11_lowestTerm_30 : decode cX11_lowestTerm 30 = .ok (.lload_n 2, 1) := by decide +kernel
theorem dX11_lowestTerm_31 : decode cX11_lowestTerm 31 = .ok (.lload 5, 2) := by decide +kernel
theorem dX11_lowestTerm_33 : decode cX11_lowestTerm 33 = .ok (.ldiv, 1) := by decide +kernel
theorem dX11_lowestTerm_34 : decode cX11_lowestTerm 34 = .ok (.lreturn, 1) := by decide +kernel
theorem dX11_noValley_0 : decode cX11_noValley 0 = .ok (.aload_n 0, 1) := by decide +kernel
theorem dX11_noValley_1 : decode cX11_noValley 1 = .ok (.getfield 19, 3) := by decide +kernel
theorem dX11_noValley_4 : decode cX11_noValley 4 = .ok (.getfield 122, 3) := by decide +kernel
theorem dX11_noValley_7 : decode cX11_noValley 7 = .ok (.ifCond .ne 7, 3) := by decide +kernel
theorem dX11_noValley_10 : decode cX11_noValley 10 = .ok (.iconst 1, 1) := by decide +kernel
theorem dX11_noValley_11 : decode cX11_noValley 11 = .ok (.goto 4, 3) := by decide +kernel
theorem dX11_noValley_14 : decode cX11_noValley 14 = .ok (.iconst 0, 1) := by decide +kernel
theorem dX11_noValley_15 : decode cX11_noValley 15 = .ok (.ireturn, 1) := by decide +kernel
theorem dX11_playAll_0 : decode cX11_playAll 0 = .ok (.iconst 0, 1) := by decide +kernel
theorem dX11_playAll_1 : decode cX11_playAll 1 = .ok (.istore_n 3, 1) := by decide +kernel
theorem dX11_playAll_2 : decode cX11_playAll 2 = .ok (.iload_n 3, 1) := by decide +kernel
theorem dX11_playAll_3 : decode cX11_playAll 3 = .ok (.aload_n 0, 1) := by decide +kernel
theorem dX11_playAll_4 : decode cX11_playAll 4 = .ok (.getfield 19, 3) := by decide +kernel
theorem dX11_playAll_7 : decode cX11_playAll 7 = .ok (.getfield 212, 3) := by decide +kernel
theorem dX11_playAll_10 : decode cX11_playAll 10 = .ok (.if_icmp .ge 113, 3) := by decide +kernel
theorem dX11_playAll_13 : decode cX11_playAll 13 = .ok (.iconst 0, 1) := by decide +kernel
theorem dX11_playAll_14 : decode cX11_playAll 14 = .ok (.istore 4, 2) := by decide +kernel
theorem dX11_playAll_16 : decode cX11_playAll 16 = .ok (.iload 4, 2) := by decide +kernel
theorem dX11_playAll_18 : decode cX11_playAll 18 = .ok (.aload_n 0, 1) := by decide +kernel
theorem dX11_playAll_19 : decode cX11_playAll 19 = .ok (.getfield 19, 3) := by decide +kernel
theorem dX11_playAll_22 : decode cX11_playAll 22 = .ok (.getfield 212, 3) := by decide +kernel
theorem dX11_playAll_25 : decode cX11_playAll 25 = .ok (.if_icmp .ge 92, 3) := by decide +kernel
theorem dX11_playAll_28 : decode cX11_playAll 28 = .ok (.aload_n 0, 1) := by decide +kernel
theorem dX11_playAll_29 : decode cX11_playAll 29 = .ok (.getfield 37, 3) := by decide +kernel
theorem dX11_playAll_32 : decode cX11_playAll 32 = .ok (.aload_n 0, 1) := by decide +kernel
theorem dX11_playAll_33 : decode cX11_playAll 33 = .ok (.getfield 33, 3) := by decide +kernel
theorem dX11_playAll_36 : decode cX11_playAll 36 = .ok (.invokevirtual 425, 3) := by decide +kernel
theorem dX11_playAll_39 : decode cX11_playAll 39 = .ok (.aload_n 0, 1) := by decide +kernel
theorem dX11_playAll_40 : decode cX11_playAll 40 = .ok (.getfield 37, 3) := by decide +kernel
theorem dX11_playAll_43 : decode cX11_playAll 43 = .ok (.getfield 345, 3) := by decide +kernel
theorem dX11_playAll_46 : decode cX11_playAll 46 = .ok (.iload_n 1, 1) := by decide +kernel
theorem dX11_playAll_47 : decode cX11_playAll 47 = .ok (.iload_n 3, 1) := by decide +kernel
theorem dX11_playAll_48 : decode cX11_playAll 48 = .ok (.iastore, 1) := by decide +kernel
theorem dX11_playAll_49 : decode cX11_playAll 49 = .ok (.aload_n 0, 1) := by decide +kernel
theorem dX11_playAll_50 : decode cX11_playAll 50 = .ok (.getfield 37, 3) := by decide +kernel
theorem dX11_playAll_53 : decode cX11_playAll 53 = .ok (.getfield 345, 3) := by decide +kernel
theorem dX11_playAll_56 : decode cX11_playAll 56 = .ok (.iload_n 2, 1) := by decide +kernel
theorem dX11_playAll_57 : decode cX11_playAll 57 = .ok (.iload 4, 2) := by decide +kernel
theorem dX11_playAll_59 : decode cX11_playAll 59 = .ok (.iastore, 1) := by decide +kernel
theorem dX11_playAll_60 : decode cX11_playAll 60 = .ok (.aload_n 0, 1) := by decide +kernel
theorem dX11_playAll_61 : decode cX11_playAll 61 = .ok (.getfield 49, 3) := by decide +kernel
theorem dX11_playAll_64 : decode cX11_playAll 64 = .ok (.invokevirtual 412, 3) := by decide +kernel
theorem dX11_playAll_67 : decode cX11_playAll 67 = .ok (.aload_n 0, 1) := by decide +kernel
theorem dX11_playAll_68 : decode cX11_playAll 68 = .ok (.getfield 76, 3) := by decide +kernel
theorem dX11_playAll_71 : decode cX11_playAll 71 = .ok (.iload_n 3, 1) := by decide +kernel
theorem dX11_playAll_72 : decode cX11_playAll 72 = .ok (.iconst 3, 1) := by decide +kernel
theorem dX11_playAll_73 : decode cX11_playAll 73 = .ok (.imul, 1) := by decide +kernel
theorem dX11_playAll_74 : decode cX11_playAll 74 = .ok (.iload 4, 2) := by decide +kernel
theorem dX11_playAll_76 : decode cX11_playAll 76 = .ok (.iadd, 1) := by decide +kernel
theorem dX11_playAll_77 : decode cX11_playAll 77 = .ok (.aload_n 0, 1) := by decide +kernel
theorem dX11_playAll_78 : decode cX11_playAll 78 = .ok (.getfield 49, 3) := by decide +kernel
theorem dX11_playAll_81 : decode cX11_playAll 81 = .ok (.iload_n 1, 1) := by decide +kernel
theorem dX11_playAll_82 : decode cX11_playAll 82 = .ok (.invokevirtual 165, 3) := by decide +kernel
theorem dX11_playAll_85 : decode cX11_playAll 85 = .ok (.invokevirtual 445, 3) := by decide +kernel
theorem dX11_playAll_88 : decode cX11_playAll 88 = .ok (.iastore, 1) := by decide +kernel
theorem dX11_playAll_89 : decode cX11_playAll 89 = .ok (.aload_n 0, 1) := by decide +kernel
theorem dX11_playAll_90 : decode cX11_playAll 90 = .ok (.getfield 80, 3) := by decide +kernel
theorem dX11_playAll_93 : decode cX11_playAll 93 = .ok (.iload_n 3, 1) := by decide +kernel
theorem dX11_playAll_94 : decode cX11_playAll 94 = .ok (.iconst 3, 1) := by decide +kernel
theorem dX11_playAll_95 : decode cX11_playAll 95 = .ok (.imul, 1) := by decide +kernel
theorem dX11_playAll_96 : decode cX11_playAll 96 = .ok (.iload 4, 2) := by decide +kernel
theorem dX11_playAll_98 : decode cX11_playAll 98 = .ok (.iadd, 1) := by decide +kernel
theorem dX11_playAll_99 : decode cX11_playAll 99 = .ok (.aload_n 0, 1) := by decide +kernel
theorem dX11_playAll_100 : decode cX11_playAll 100 = .ok (.getfield 49, 3) := by decide +kernel
theorem dX11_playAll_103 : decode cX11_playAll 103 = .ok (.iload_n 2, 1) := by decide +kernel
theorem dX11_playAll_104 : decode cX11_playAll 104 = .ok (.invokevirtual 165, 3) := by decide +kernel
theorem dX11_playAll_107 : decode cX11_playAll 107 = .ok (.invokevirtual 445, 3) := by decide +kernel
theorem dX11_playAll_110 : decode cX11_playAll 110 = .ok (.iastore, 1) := by decide +kernel
theorem dX11_playAll_111 : decode cX11_playAll 111 = .ok (.iinc 4 1, 3) := by decide +kernel
theorem dX11_playAll_114 : decode cX11_playAll 114 = .ok (.goto (-98), 3) := by decide +kernel
theorem dX11_playAll_117 : decode cX11_playAll 117 = .ok (.iinc 3 1, 3) := by decide +kernel
theorem dX11_playAll_120 : decode cX11_playAll 120 = .ok (.goto (-118), 3) := by decide +kernel
theorem dX11_playAll_123 : decode cX11_playAll 123 = .ok (.return_, 1) := by decide +kernel
theorem dX11_power_0 : decode cX11_power 0 = .ok (.lconst 1, 1) := by decide +kernel
theorem dX11_power_1 : decode cX11_power 1 = .ok (.lstore_n 2, 1) := by decide +kernel
theorem dX11_power_2 : decode cX11_power 2 = .ok (.iconst 0, 1) := by decide +kernel
theorem dX11_power_3 : decode cX11_power 3 = .ok (.istore 4, 2) := by decide +kernel
theorem dX11_power_5 : decode cX11_power 5 = .ok (.iload 4, 2) := by decide +kernel
theorem dX11_power_7 : decode cX11_power 7 = .ok (.iload_n 1, 1) := by decide +kernel
theorem dX11_power_8 : decode cX11_power 8 = .ok (.if_icmp .ge 14, 3) := by decide +kernel
theorem dX11_power_11 : decode cX11_power 11 = .ok (.lload_n 2, 1) := by decide +kernel
theorem dX11_power_12 : decode cX11_power 12 = .ok (.iload_n 0, 1) := by decide +kernel
theorem dX11_power_13 : decode cX11_power 13 = .ok (.i2l, 1) := by decide +kernel
theorem dX11_power_14 : decode cX11_power 14 = .ok (.lmul, 1) := by decide +kernel
theorem dX11_power_15 : decode cX11_power 15 = .ok (.lstore_n 2, 1) := by decide +kernel
theorem dX11_power_16 : decode cX11_power 16 = .ok (.iinc 4 1, 3) := by decide +kernel
theorem dX11_power_19 : decode cX11_power 19 = .ok (.goto (-14), 3) := by decide +kernel
theorem dX11_power_22 : decode cX11_power 22 = .ok (.lload_n 2, 1) := by decide +kernel
theorem dX11_power_23 : decode cX11_power 23 = .ok (.lreturn, 1) := by decide +kernel
theorem dX11_renew_0 : decode cX11_renew 0 = .ok (.aload_n 0, 1) := by decide +kernel
theorem dX11_renew_1 : decode cX11_renew 1 = .ok (.getfield 33, 3) := by decide +kernel
theorem dX11_renew_4 : decode cX11_renew 4 = .ok (.aload_n 0, 1) := by decide +kernel
theorem dX11_renew_5 : decode cX11_renew 5 = .ok (.getfield 19, 3) := by decide +kernel
theorem dX11_renew_8 : decode cX11_renew 8 = .ok (.aload_n 0, 1) := by decide +kernel
theorem dX11_renew_9 : decode cX11_renew 9 = .ok (.getfield 26, 3) := by decide +kernel
theorem dX11_renew_12 : decode cX11_renew 12 = .ok (.invokevirtual 408, 3) := by decide +kernel
theorem dX11_renew_15 : decode cX11_renew 15 = .ok (.aload_n 0, 1) := by decide +kernel
theorem dX11_renew_16 : decode cX11_renew 16 = .ok (.getfield 45, 3) := by decide +kernel
theorem dX11_renew_19 : decode cX11_renew 19 = .ok (.invokevirtual 412, 3) := by decide +kernel
theorem dX11_renew_22 : decode cX11_renew 22 = .ok (.aload_n 0, 1) := by decide +kernel
theorem dX11_renew_23 : decode cX11_renew 23 = .ok (.getfield 55, 3) := by decide +kernel
theorem dX11_renew_26 : decode cX11_renew 26 = .ok (.iconst 0, 1) := by decide +kernel
theorem dX11_renew_27 : decode cX11_renew 27 = .ok (.putfield 415, 3) := by decide +kernel
theorem dX11_renew_30 : decode cX11_renew 30 = .ok (.aload_n 0, 1) := by decide +kernel
theorem dX11_renew_31 : decode cX11_renew 31 = .ok (.getfield 59, 3) := by decide +kernel
theorem dX11_renew_34 : decode cX11_renew 34 = .ok (.iconst 0, 1) := by decide +kernel
theorem dX11_renew_35 : decode cX11_renew 35 = .ok (.putfield 415, 3) := by decide +kernel
theorem dX11_renew_38 : decode cX11_renew 38 = .ok (.return_, 1) := by decide +kernel
theorem dX11_rowsHad_0 : decode cX11_rowsHad 0 = .ok (.iconst 0, 1) := by decide +kernel
theorem dX11_rowsHad_1 : decode cX11_rowsHad 1 = .ok (.istore_n 1, 1) := by decide +kernel
theorem dX11_rowsHad_2 : decode cX11_rowsHad 2 = .ok (.iconst 0, 1) := by decide +kernel
theorem dX11_rowsHad_3 : decode cX11_rowsHad 3 = .ok (.istore_n 2, 1) := by decide +kernel
theorem dX11_rowsHad_4 : decode cX11_rowsHad 4 = .ok (.iload_n 2, 1) := by decide +kernel
theorem dX11_rowsHad_5 : decode cX11_rowsHad 5 = .ok (.iconst 4, 1) := by decide +kernel
theorem dX11_rowsHad_6 : decode cX11_rowsHad 6 = .ok (.if_icmp .ge 24, 3) := by decide +kernel
theorem dX11_rowsHad_9 : decode cX11_rowsHad 9 = .ok (.aload_n 0, 1) := by decide +kernel
theorem dX11_rowsHad_10 : decode cX11_rowsHad 10 = .ok (.getfield 85, 3) := by decide +kernel
theorem dX11_rowsHad_13 : decode cX11_rowsHad 13 = .ok (.iload_n 2, 1) := by decide +kernel
theorem dX11_rowsHad_14 : decode cX11_rowsHad 14 = .ok (.aaload, 1) := by decide +kernel
theorem dX11_rowsHad_15 : decode cX11_rowsHad 15 = .ok (.getfield 386, 3) := by decide +kernel
theorem dX11_rowsHad_18 : decode cX11_rowsHad 18 = .ok (.ifCond .eq 6, 3) := by decide +kernel
theorem dX11_rowsHad_21 : decode cX11_rowsHad 21 = .ok (.iinc 1 1, 3) := by decide +kernel
theorem dX11_rowsHad_24 : decode cX11_rowsHad 24 = .ok (.iinc 2 1, 3) := by decide +kernel
theorem dX11_rowsHad_27 : decode cX11_rowsHad 27 = .ok (.goto (-23), 3) := by decide +kernel
theorem dX11_rowsHad_30 : decode cX11_rowsHad 30 = .ok (.iload_n 1, 1) := by decide +kernel
theorem dX11_rowsHad_31 : decode cX11_rowsHad 31 = .ok (.ireturn, 1) := by decide +kernel
theorem dX11_sagInCold_0 : decode cX11_sagInCold 0 = .ok (.aload_n 0, 1) := by decide +kernel
theorem dX11_sagInCold_1 : decode cX11_sagInCold 1 = .ok (.iload_n 1, 1) := by decide +kernel
theorem dX11_sagInCold_2 : decode cX11_sagInCold 2 = .ok (.invokevirtual 342, 3) := by decide +kernel
theorem dX11_sagInCold_5 : decode cX11_sagInCold 5 = .ok (.aload_n 0, 1) := by decide +kernel
theorem dX11_sagInCold_6 : decode cX11_sagInCold 6 = .ok (.getfield 49, 3) := by decide +kernel
theorem dX11_sagInCold_9 : decode cX11_sagInCold 9 = .ok (.invokevirtual 183, 3) := by decide +kernel
theorem dX11_sagInCold_12 : decode cX11_sagInCold 12 = .ok (.invokevirtual 209, 3) := by decide +kernel
theorem dX11_sagInCold_15 : decode cX11_sagInCold 15 = .ok (.ireturn, 1) := by decide +kernel
theorem dX11_sagOfSet_0 : decode cX11_sagOfSet 0 = .ok (.aload_n 0, 1) := by decide +kernel
theorem dX11_sagOfSet_1 : decode cX11_sagOfSet 1 = .ok (.getfield 37, 3) := by decide +kernel
theorem dX11_sagOfSet_4 : decode cX11_sagOfSet 4 = .ok (.aload_n 0, 1) := by decide +kernel
theorem dX11_sagOfSet_5 : decode cX11_sagOfSet 5 = .ok (.getfield 33, 3) := by decide +kernel
theorem dX11_sagOfSet_8 : decode cX11_sagOfSet 8 = .ok (.invokevirtual 425, 3) := by decide +kernel
theorem dX11_sagOfSet_11 : decode cX11_sagOfSet 11 = .ok (.iconst 0, 1) := by decide +kernel
theorem dX11_sagOfSet_12 : decode cX11_sagOfSet 12 = .ok (.istore_n 2, 1) := by decide +kernel
theorem dX11_sagOfSet_13 : decode cX11_sagOfSet 13 = .ok (.iload_n 2, 1) := by decide +kernel
theorem dX11_sagOfSet_14 : decode cX11_sagOfSet 14 = .ok (.aload_n 0, 1) := by decide +kernel
theorem dX11_sagOfSet_15 : decode cX11_sagOfSet 15 = .ok (.getfield 19, 3) := by decide +kernel
theorem dX11_sagOfSet_18 : decode cX11_sagOfSet 18 = .ok (.getfield 177, 3) := by decide +kernel
theorem dX11_sagOfSet_21 : decode cX11_sagOfSet 21 = .ok (.if_icmp .ge 27, 3) := by decide +kernel
theorem dX11_sagOfSet_24 : decode cX11_sagOfSet 24 = .ok (.iload_n 1, 1) := by decide +kernel
theorem dX11_sagOfSet_25 : decode cX11_sagOfSet 25 = .ok (.iload_n 2, 1) := by decide +kernel
theorem dX11_sagOfSet_26 : decode cX11_sagOfSet 26 = .ok (.ishr, 1) := by decide +kernel
theorem dX11_sagOfSet_27 : decode cX11_sagOfSet 27 = .ok (.iconst 1, 1) := by decide +kernel
theorem dX11_sagOfSet_28 : decode cX11_sagOfSet 28 = .ok (.iand, 1) := by decide +kernel
theorem dX11_sagOfSet_29 : decode cX11_sagOfSet 29 = .ok (.ifCond .ne 13, 3) := by decide +kernel
theorem dX11_sagOfSet_32 : decode cX11_sagOfSet 32 = .ok (.aload_n 0, 1) := by decide +kernel
theorem dX11_sagOfSet_33 : decode cX11_sagOfSet 33 = .ok (.getfield 37, 3) := by decide +kernel
theorem dX11_sagOfSet_36 : decode cX11_sagOfSet 36 = .ok (.getfield 345, 3) := by decide +kernel
theorem dX11_sagOfSet_39 : decode cX11_sagOfSet 39 = .ok (.iload_n 2, 1) := by decide +kernel
theorem dX11_sagOfSet_40 : decode cX11_sagOfSet 40 = .ok (.iconst (-1), 1) := by decide +kernel
theorem dX11_sagOfSet_41 : decode cX11_sagOfSet 41 = .ok (.iastore, 1) := by decide +kernel
theorem dX11_sagOfSet_42 : decode cX11_sagOfSet 42 = .ok (.iinc 2 1, 3) := by decide +kernel
theorem dX11_sagOfSet_45 : decode cX11_sagOfSet 45 = .ok (.goto (-32), 3) := by decide +kernel
theorem dX11_sagOfSet_48 : decode cX11_sagOfSet 48 = .ok (.aload_n 0, 1) := by decide +kernel
theorem dX11_sagOfSet_49 : decode cX11_sagOfSet 49 = .ok (.getfield 49, 3) := by decide +kernel
theorem dX11_sagOfSet_52 : decode cX11_sagOfSet 52 = .ok (.invokevirtual 412, 3) := by decide +kernel
theorem dX11_sagOfSet_55 : decode cX11_sagOfSet 55 = .ok (.aload_n 0, 1) := by decide +kernel
theorem dX11_sagOfSet_56 : decode cX11_sagOfSet 56 = .ok (.getfield 49, 3) := by decide +kernel
theorem dX11_sagOfSet_59 : decode cX11_sagOfSet 59 = .ok (.invokevirtual 183, 3) := by decide +kernel
theorem dX11_sagOfSet_62 : decode cX11_sagOfSet 62 = .ok (.invokevirtual 209, 3) := by decide +kernel
theorem dX11_sagOfSet_65 : decode cX11_sagOfSet 65 = .ok (.ireturn, 1) := by decide +kernel
theorem dX11_sagWithout_0 : decode cX11_sagWithout 0 = .ok (.aload_n 0, 1) := by decide +kernel
theorem dX11_sagWithout_1 : decode cX11_sagWithout 1 = .ok (.iconst 1, 1) := by decide +kernel
theorem dX11_sagWithout_2 : decode cX11_sagWithout 2 = .ok (.aload_n 0, 1) := by decide +kernel
theorem dX11_sagWithout_3 : decode cX11_sagWithout 3 = .ok (.getfield 19, 3) := by decide +kernel
theorem dX11_sagWithout_6 : decode cX11_sagWithout 6 = .ok (.getfield 177, 3) := by decide +kernel
theorem dX11_sagWithout_9 : decode cX11_sagWithout 9 = .ok (.ishl, 1) := by decide +kernel
theorem dX11_sagWithout_10 : decode cX11_sagWithout 10 = .ok (.iconst 1, 1) := by decide +kernel
theorem dX11_sagWithout_11 : decode cX11_sagWithout 11 = .ok (.isub, 1) := by decide +kernel
theorem dX11_sagWithout_12 : decode cX11_sagWithout 12 = .ok (.iconst 1, 1) := by decide +kernel
theorem dX11_sagWithout_13 : decode cX11_sagWithout 13 = .ok (.iload_n 1, 1) := by decide +kernel
theorem dX11_sagWithout_14 : decode cX11_sagWithout 14 = .ok (.ishl, 1) := by decide +kernel
theorem dX11_sagWithout_15 : decode cX11_sagWithout 15 = .ok (.iconst (-1), 1) := by decide +kernel
theorem dX11_sagWithout_16 : decode cX11_sagWithout 16 = .ok (.ixor, 1) := by decide +kernel
theorem dX11_sagWithout_17 : decode cX11_sagWithout 17 = .ok (.iand, 1) := by decide +kernel
theorem dX11_sagWithout_18 : decode cX11_sagWithout 18 = .ok (.invokevirtual 316, 3) := by decide +kernel
theorem dX11_sagWithout_21 : decode cX11_sagWithout 21 = .ok (.ireturn, 1) := by decide +kernel
theorem dX11_seekOrders_0 : decode cX11_seekOrders 0 = .ok (.aload_n 0, 1) := by decide +kernel
theorem dX11_seekOrders_1 : decode cX11_seekOrders 1 = .ok (.getfield 55, 3) := by decide +kernel
theorem dX11_seekOrders_4 : decode cX11_seekOrders 4 = .ok (.getfield 415, 3) := by decide +kernel
theorem dX11_seekOrders_7 : decode cX11_seekOrders 7 = .ok (.ifCond .ne 25, 3) := by decide +kernel
theorem dX11_seekOrders_10 : decode cX11_seekOrders 10 = .ok (.aload_n 0, 1) := by decide +kernel
theorem dX11_seekOrders_11 : decode cX11_seekOrders 11 = .ok (.getfield 37, 3) := by decide +kernel
theorem dX11_seekOrders_14 : decode cX11_seekOrders 14 = .ok (.aload_n 0, 1) := by decide +kernel
theorem dX11_seekOrders_15 : decode cX11_seekOrders 15 = .ok (.getfield 33, 3) := by decide +kernel
theorem dX11_seekOrders_18 : decode cX11_seekOrders 18 = .ok (.invokevirtual 425, 3) := by decide +kernel
theorem dX11_seekOrders_21 : decode cX11_seekOrders 21 = .ok (.aload_n 0, 1) := by decide +kernel
theorem dX11_seekOrders_22 : decode cX11_seekOrders 22 = .ok (.getfield 55, 3) := by decide +kernel
theorem dX11_seekOrders_25 : decode cX11_seekOrders 25 = .ok (.aload_n 0, 1) := by decide +kernel
theorem dX11_seekOrders_26 : decode cX11_seekOrders 26 = .ok (.getfield 49, 3) := by decide +kernel
theorem dX11_seekOrders_29 : decode cX11_seekOrders 29 = .ok (.invokevirtual 428, 3) := by decide +kernel
theorem dX11_seekOrders_32 : decode cX11_seekOrders 32 = .ok (.return_, 1) := by decide +kernel
theorem dX11_seekRoutes_0 : decode cX11_seekRoutes 0 = .ok (.aload_n 0, 1) := by decide +kernel
theorem dX11_seekRoutes_1 : decode cX11_seekRoutes 1 = .ok (.getfield 59, 3) := by decide +kernel
theorem dX11_seekRoutes_4 : decode cX11_seekRoutes 4 = .ok (.getfield 415, 3) := by decide +kernel
theorem dX11_seekRoutes_7 : decode cX11_seekRoutes 7 = .ok (.ifCond .ne 25, 3) := by decide +kernel
theorem dX11_seekRoutes_10 : decode cX11_seekRoutes 10 = .ok (.aload_n 0, 1) := by decide +kernel
theorem dX11_seekRoutes_11 : decode cX11_seekRoutes 11 = .ok (.getfield 37, 3) := by decide +kernel
theorem dX11_seekRoutes_14 : decode cX11_seekRoutes 14 = .ok (.aload_n 0, 1) := by decide +kernel
theorem dX11_seekRoutes_15 : decode cX11_seekRoutes 15 = .ok (.getfield 33, 3) := by decide +kernel
theorem dX11_seekRoutes_18 : decode cX11_seekRoutes 18 = .ok (.invokevirtual 425, 3) := by decide +kernel
theorem dX11_seekRoutes_21 : decode cX11_seekRoutes 21 = .ok (.aload_n 0, 1) := by decide +kernel
theorem dX11_seekRoutes_22 : decode cX11_seekRoutes 22 = .ok (.getfield 59, 3) := by decide +kernel
theorem dX11_seekRoutes_25 : decode cX11_seekRoutes 25 = .ok (.aload_n 0, 1) := by decide +kernel
theorem dX11_seekRoutes_26 : decode cX11_seekRoutes 26 = .ok (.getfield 49, 3) := by decide +kernel
theorem dX11_seekRoutes_29 : decode cX11_seekRoutes 29 = .ok (.invokevirtual 432, 3) := by decide +kernel
theorem dX11_seekRoutes_32 : decode cX11_seekRoutes 32 = .ok (.return_, 1) := by decide +kernel
theorem dX11_seekSets_0 : decode cX11_seekSets 0 = .ok (.iload_n 1, 1) := by decide +kernel
theorem dX11_seekSets_1 : decode cX11_seekSets 1 = .ok (.invokestatic 380, 3) := by decide +kernel
theorem dX11_seekSets_4 : decode cX11_seekSets 4 = .ok (.ifCond .eq 14, 3) := by decide +kernel
theorem dX11_seekSets_7 : decode cX11_seekSets 7 = .ok (.aload_n 0, 1) := by decide +kernel
theorem dX11_seekSets_8 : decode cX11_seekSets 8 = .ok (.getfield 19, 3) := by decide +kernel
theorem dX11_seekSets_11 : decode cX11_seekSets 11 = .ok (.iload_n 2, 1) := by decide +kernel
theorem dX11_seekSets_12 : decode cX11_seekSets 12 = .ok (.invokevirtual 131, 3) := by decide +kernel
theorem dX11_seekSets_15 : decode cX11_seekSets 15 = .ok (.ifCond .ne 6, 3) := by decide +kernel
theorem dX11_seekSets_18 : decode cX11_seekSets 18 = .ok (.bipush (-2), 2) := by decide +kernel
theorem dX11_seekSets_20 : decode cX11_seekSets 20 = .ok (.ireturn, 1) := by decide +kernel
theorem dX11_seekSets_21 : decode cX11_seekSets 21 = .ok (.aload_n 0, 1) := by decide +kernel
theorem dX11_seekSets_22 : decode cX11_seekSets 22 = .ok (.getfield 85, 3) := by decide +kernel
theorem dX11_seekSets_25 : decode cX11_seekSets 25 = .ok (.iload_n 1, 1) := by decide +kernel
theorem dX11_seekSets_26 : decode cX11_seekSets 26 = .ok (.aaload, 1) := by decide +kernel
theorem dX11_seekSets_27 : decode cX11_seekSets 27 = .ok (.getfield 386, 3) := by decide +kernel
theorem dX11_seekSets_30 : decode cX11_seekSets 30 = .ok (.ifCond .ne 6, 3) := by decide +kernel
theorem dX11_seekSets_33 : decode cX11_seekSets 33 = .ok (.bipush (-6), 2) := by decide +kernel
theorem dX11_seekSets_35 : decode cX11_seekSets 35 = .ok (.ireturn, 1) := by decide +kernel
theorem dX11_seekSets_36 : decode cX11_seekSets 36 = .ok (.aload_n 0, 1) := by decide +kernel
theorem dX11_seekSets_37 : decode cX11_seekSets 37 = .ok (.getfield 65, 3) := by decide +kernel
theorem dX11_seekSets_40 : decode cX11_seekSets 40 = .ok (.aload_n 0, 1) := by decide +kernel
theorem dX11_seekSets_41 : decode cX11_seekSets 41 = .ok (.getfield 19, 3) := by decide +kernel
theorem dX11_seekSets_44 : decode cX11_seekSets 44 = .ok (.iload_n 2, 1) := by decide +kernel
theorem dX11_seekSets_45 : decode cX11_seekSets 45 = .ok (.aload_n 0, 1) := by decide +kernel
theorem dX11_seekSets_46 : decode cX11_seekSets 46 = .ok (.getfield 85, 3) := by decide +kernel
theorem dX11_seekSets_49 : decode cX11_seekSets 49 = .ok (.iload_n 1, 1) := by decide +kernel
theorem dX11_seekSets_50 : decode cX11_seekSets 50 = .ok (.aaload, 1) := by decide +kernel
theorem dX11_seekSets_51 : decode cX11_seekSets 51 = .ok (.aload_n 0, 1) := by decide +kernel
theorem dX11_seekSets_52 : decode cX11_seekSets 52 = .ok (.getfield 72, 3) := by decide +kernel
theorem dX11_seekSets_55 : decode cX11_seekSets 55 = .ok (.invokevirtual 436, 3) := by decide +kernel
theorem dX11_seekSets_58 : decode cX11_seekSets 58 = .ok (.iconst 0, 1) := by decide +kernel
theorem dX11_seekSets_59 : decode cX11_seekSets 59 = .ok (.ireturn, 1) := by decide +kernel
theorem dX11_tryCold_0 : decode cX11_tryCold 0 = .ok (.aload_n 0, 1) := by decide +kernel
theorem dX11_tryCold_1 : decode cX11_tryCold 1 = .ok (.getfield 37, 3) := by decide +kernel
theorem dX11_tryCold_4 : decode cX11_tryCold 4 = .ok (.aload_n 0, 1) := by decide +kernel
theorem dX11_tryCold_5 : decode cX11_tryCold 5 = .ok (.getfield 33, 3) := by decide +kernel
theorem dX11_tryCold_8 : decode cX11_tryCold 8 = .ok (.invokevirtual 425, 3) := by decide +kernel
theorem dX11_tryCold_11 : decode cX11_tryCold 11 = .ok (.aload_n 0, 1) := by decide +kernel
theorem dX11_tryCold_12 : decode cX11_tryCold 12 = .ok (.getfield 37, 3) := by decide +kernel
theorem dX11_tryCold_15 : decode cX11_tryCold 15 = .ok (.iload_n 1, 1) := by decide +kernel
theorem dX11_tryCold_16 : decode cX11_tryCold 16 = .ok (.putfield 162, 3) := by decide +kernel
theorem dX11_tryCold_19 : decode cX11_tryCold 19 = .ok (.aload_n 0, 1) := by decide +kernel
theorem dX11_tryCold_20 : decode cX11_tryCold 20 = .ok (.getfield 49, 3) := by decide +kernel
theorem dX11_tryCold_23 : decode cX11_tryCold 23 = .ok (.invokevirtual 412, 3) := by decide +kernel
theorem dX11_tryCold_26 : decode cX11_tryCold 26 = .ok (.return_, 1) := by decide +kernel
theorem dX11_tryLaw_0 : decode cX11_tryLaw 0 = .ok (.aload_n 0, 1) := by decide +kernel
theorem dX11_tryLaw_1 : decode cX11_tryLaw 1 = .ok (.getfield 37, 3) := by decide +kernel
theorem dX11_tryLaw_4 : decode cX11_tryLaw 4 = .ok (.aload_n 0, 1) := by decide +kernel
theorem dX11_tryLaw_5 : decode cX11_tryLaw 5 = .ok (.getfield 33, 3) := by decide +kernel
theorem dX11_tryLaw_8 : decode cX11_tryLaw 8 = .ok (.invokevirtual 425, 3) := by decide +kernel
theorem dX11_tryLaw_11 : decode cX11_tryLaw 11 = .ok (.aload_n 0, 1) := by decide +kernel
theorem dX11_tryLaw_12 : decode cX11_tryLaw 12 = .ok (.getfield 37, 3) := by decide +kernel
theorem dX11_tryLaw_15 : decode cX11_tryLaw 15 = .ok (.iload_n 1, 1) := by decide +kernel
theorem dX11_tryLaw_16 : decode cX11_tryLaw 16 = .ok (.putfield 435, 3) := by decide +kernel
theorem dX11_tryLaw_19 : decode cX11_tryLaw 19 = .ok (.aload_n 0, 1) := by decide +kernel
theorem dX11_tryLaw_20 : decode cX11_tryLaw 20 = .ok (.getfield 49, 3) := by decide +kernel
theorem dX11_tryLaw_23 : decode cX11_tryLaw 23 = .ok (.invokevirtual 412, 3) := by decide +kernel
theorem dX11_tryLaw_26 : decode cX11_tryLaw 26 = .ok (.return_, 1) := by decide +kernel
theorem dX11_waysTo_0 : decode cX11_waysTo 0 = .ok (.iload_n 1, 1) := by decide +kernel
theorem dX11_waysTo_1 : decode cX11_waysTo 1 = .ok (.invokestatic 307, 3) := by decide +kernel
theorem dX11_waysTo_4 : decode cX11_waysTo 4 = .ok (.istore_n 2, 1) := by decide +kernel
theorem dX11_waysTo_5 : decode cX11_waysTo 5 = .ok (.aload_n 0, 1) := by decide +kernel
theorem dX11_waysTo_6 : decode cX11_waysTo 6 = .ok (.getfield 19, 3) := by decide +kernel
theorem dX11_waysTo_9 : decode cX11_waysTo 9 = .ok (.getfield 360, 3) := by decide +kernel
theorem dX11_waysTo_12 : decode cX11_waysTo 12 = .ok (.iload_n 2, 1) := by decide +kernel
theorem dX11_waysTo_13 : decode cX11_waysTo 13 = .ok (.invokestatic 336, 3) := by decide +kernel
theorem dX11_waysTo_16 : decode cX11_waysTo 16 = .ok (.bipush 10, 2) := by decide +kernel
theorem dX11_waysTo_18 : decode cX11_waysTo 18 = .ok (.aload_n 0, 1) := by decide +kernel
theorem dX11_waysTo_19 : decode cX11_waysTo 19 = .ok (.getfield 19, 3) := by decide +kernel
theorem dX11_waysTo_22 : decode cX11_waysTo 22 = .ok (.getfield 360, 3) := by decide +kernel
theorem dX11_waysTo_25 : decode cX11_waysTo 25 = .ok (.isub, 1) := by decide +kernel
theorem dX11_waysTo_26 : decode cX11_waysTo 26 = .ok (.aload_n 0, 1) := by decide +kernel
theorem dX11_waysTo_27 : decode cX11_waysTo 27 = .ok (.getfield 19, 3) := by decide +kernel
theorem dX11_waysTo_30 : decode cX11_waysTo 30 = .ok (.getfield 177, 3) := by decide +kernel
theorem dX11_waysTo_33 : decode cX11_waysTo 33 = .ok (.iload_n 2, 1) := by decide +kernel
theorem dX11_waysTo_34 : decode cX11_waysTo 34 = .ok (.isub, 1) := by decide +kernel
theorem dX11_waysTo_35 : decode cX11_waysTo 35 = .ok (.invokestatic 336, 3) := by decide +kernel
theorem dX11_waysTo_38 : decode cX11_waysTo 38 = .ok (.lmul, 1) := by decide +kernel
theorem dX11_waysTo_39 : decode cX11_waysTo 39 = .ok (.lreturn, 1) := by decide +kernel
theorem dX11_winterOf_0 : decode cX11_winterOf 0 = .ok (.lload_n 1, 1) := by decide +kernel
theorem dX11_winterOf_1 : decode cX11_winterOf 1 = .ok (.lstore_n 3, 1) := by decide +kernel
theorem dX11_winterOf_2 : decode cX11_winterOf 2 = .ok (.iconst 0, 1) := by decide +kernel
theorem dX11_winterOf_3 : decode cX11_winterOf 3 = .ok (.istore 5, 2) := by decide +kernel
theorem dX11_winterOf_5 : decode cX11_winterOf 5 = .ok (.iconst 0, 1) := by decide +kernel
theorem dX11_winterOf_6 : decode cX11_winterOf 6 = .ok (.istore 6, 2) := by decide +kernel
theorem dX11_winterOf_8 : decode cX11_winterOf 8 = .ok (.iload 6, 2) := by decide +kernel
theorem dX11_winterOf_10 : decode cX11_winterOf 10 = .ok (.aload_n 0, 1) := by decide +kernel
theorem dX11_winterOf_11 : decode cX11_winterOf 11 = .ok (.getfield 19, 3) := by decide +kernel
theorem dX11_winterOf_14 : decode cX11_winterOf 14 = .ok (.getfield 177, 3) := by decide +kernel
theorem dX11_winterOf_17 : decode cX11_winterOf 17 = .ok (.if_icmp .ge 53, 3) := by decide +kernel
theorem dX11_winterOf_20 : decode cX11_winterOf 20 = .ok (.ldc2_w 448, 3) := by decide +kernel
theorem dX11_winterOf_23 : decode cX11_winterOf 23 = .ok (.lload_n 3, 1) := by decide +kernel
theorem dX11_winterOf_24 : decode cX11_winterOf 24 = .ok (.lmul, 1) := by decide +kernel
theorem dX11_winterOf_25 : decode cX11_winterOf 25 = .ok (.ldc2_w 450, 3) := by decide +kernel
theorem dX11_winterOf_28 : decode cX11_winterOf 28 = .ok (.ladd, 1) := by decide +kernel
theorem dX11_winterOf_29 : decode cX11_winterOf 29 = .ok (.ldc2_w 452, 3) := by decide +kernel
theorem dX11_winterOf_32 : decode cX11_winterOf 32 = .ok (.lrem, 1) := by decide +kernel
theorem dX11_winterOf_33 : decode cX11_winterOf 33 = .ok (.lstore_n 3, 1) := by decide +kernel
theorem dX11_winterOf_34 : decode cX11_winterOf 34 = .ok (.lload_n 3, 1) := by decide +kernel
theorem dX11_winterOf_35 : decode cX11_winterOf 35 = .ok (.ldc2_w 454, 3) := by decide +kernel
theorem dX11_winterOf_38 : decode cX11_winterOf 38 = .ok (.ldiv, 1) := by decide +kernel
theorem dX11_winterOf_39 : decode cX11_winterOf 39 = .ok (.ldc2_w 456, 3) := by decide +kernel
theorem dX11_winterOf_42 : decode cX11_winterOf 42 = .ok (.lrem, 1) := by decide +kernel
theorem dX11_winterOf_43 : decode cX11_winterOf 43 = .ok (.aload_n 0, 1) := by decide +kernel
theorem dX11_winterOf_44 : decode cX11_winterOf 44 = .ok (.getfield 19, 3) := by decide +kernel
theorem dX11_winterOf_47 : decode cX11_winterOf 47 = .ok (.getfield 360, 3) := by decide +kernel
theorem dX11_winterOf_50 : decode cX11_winterOf 50 = .ok (.i2l, 1) := by decide +kernel
theorem dX11_winterOf_51 : decode cX11_winterOf 51 = .ok (.lcmp, 1) := by decide +kernel
theorem dX11_winterOf_52 : decode cX11_winterOf 52 = .ok (.ifCond .ge 12, 3) := by decide +kernel
theorem dX11_winterOf_55 : decode cX11_winterOf 55 = .ok (.iload 5, 2) := by decide +kernel
theorem dX11_winterOf_57 : decode cX11_winterOf 57 = .ok (.iconst 1, 1) := by decide +kernel
theorem dX11_winterOf_58 : decode cX11_winterOf 58 = .ok (.iload 6, 2) := by decide +kernel
theorem dX11_winterOf_60 : decode cX11_winterOf 60 = .ok (.ishl, 1) := by decide +kernel
theorem dX11_winterOf_61 : decode cX11_winterOf 61 = .ok (.ior, 1) := by decide +kernel
theorem dX11_winterOf_62 : decode cX11_winterOf 62 = .ok (.istore 5, 2) := by decide +kernel
theorem dX11_winterOf_64 : decode cX11_winterOf 64 = .ok (.iinc 6 1, 3) := by decide +kernel
theorem dX11_winterOf_67 : decode cX11_winterOf 67 = .ok (.goto (-59), 3) := by decide +kernel
theorem dX11_winterOf_70 : decode cX11_winterOf 70 = .ok (.iload 5, 2) := by decide +kernel
theorem dX11_winterOf_72 : decode cX11_winterOf 72 = .ok (.ireturn, 1) := by decide +kernel
