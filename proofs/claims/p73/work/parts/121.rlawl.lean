theorem dL_law_18 : decode cL_law 18 = .ok (.iload_n 3, 1) := by decide +kernel
theorem dL_law_19 : decode cL_law 19 = .ok (.aload_n 0, 1) := by decide +kernel
theorem dL_law_20 : decode cL_law 20 = .ok (.arraylength, 1) := by decide +kernel
theorem dL_law_21 : decode cL_law 21 = .ok (.bipush 6, 2) := by decide +kernel
theorem dL_law_23 : decode cL_law 23 = .ok (.isub, 1) := by decide +kernel
theorem dL_law_24 : decode cL_law 24 = .ok (.if_icmp .gt 2274, 3) := by decide +kernel
theorem dL_law_27 : decode cL_law 27 = .ok (.aload_n 0, 1) := by decide +kernel
theorem dL_law_28 : decode cL_law 28 = .ok (.iload_n 3, 1) := by decide +kernel
theorem dL_law_29 : decode cL_law 29 = .ok (.iaload, 1) := by decide +kernel
theorem dL_law_30 : decode cL_law 30 = .ok (.bipush 127, 2) := by decide +kernel
theorem dL_law_32 : decode cL_law 32 = .ok (.iand, 1) := by decide +kernel
theorem dL_law_33 : decode cL_law 33 = .ok (.tableswitch 2259 0 71 #[303, 366, 389, 402, 425, 458, 491, 524, 547, 570, 593, 616, 629, 662, 705, 738, 761, 784, 807, 830, 843, 866, 879, 902, 925, 938, 961, 984, 1017, 1040, 1073, 1106, 1119, 1142, 1155, 1168, 1181, 1204, 1217, 1240, 1253, 1266, 1299, 1332, 1365, 1398, 1431, 1464, 1497, 1530, 1563, 1586, 1609, 1632, 1645, 1678, 1711, 1744, 1777, 1810, 1843, 1876, 1889, 1902, 1935, 1978, 2011, 2034, 2057, 2080, 2123, 2196], 303) := by decide +kernel
theorem dL_law_2292 : decode cL_law 2292 = .ok (.iinc 3 6, 3) := by decide +kernel
theorem dL_law_2295 : decode cL_law 2295 = .ok (.goto (-2277), 3) := by decide +kernel
theorem dL_law_2298 : decode cL_law 2298 = .ok (.iconst 1, 1) := by decide +kernel
theorem dL_law_2299 : decode cL_law 2299 = .ok (.ireturn, 1) := by decide +kernel
