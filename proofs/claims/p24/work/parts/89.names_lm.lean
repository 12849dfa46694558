theorem dL_law_23 : decode cL_law 23 = .ok (.iload 4, 2) := by decide +kernel
theorem dL_law_25 : decode cL_law 25 = .ok (.aload_n 0, 1) := by decide +kernel
theorem dL_law_26 : decode cL_law 26 = .ok (.arraylength, 1) := by decide +kernel
theorem dL_law_27 : decode cL_law 27 = .ok (.bipush 8, 2) := by decide +kernel
theorem dL_law_29 : decode cL_law 29 = .ok (.isub, 1) := by decide +kernel
theorem dL_law_30 : decode cL_law 30 = .ok (.if_icmp .gt 2303, 3) := by decide +kernel
theorem dL_law_33 : decode cL_law 33 = .ok (.aload_n 0, 1) := by decide +kernel
theorem dL_law_34 : decode cL_law 34 = .ok (.iload 4, 2) := by decide +kernel
theorem dL_law_36 : decode cL_law 36 = .ok (.iaload, 1) := by decide +kernel
theorem dL_law_37 : decode cL_law 37 = .ok (.bipush 63, 2) := by decide +kernel
theorem dL_law_39 : decode cL_law 39 = .ok (.iand, 1) := by decide +kernel
theorem dL_law_40 : decode cL_law 40 = .ok (.tableswitch 2287 0 35 #[160, 209, 270, 351, 388, 437, 486, 535, 642, 711, 736, 773, 842, 879, 904, 932, 960, 1041, 1134, 1261, 1342, 1451, 1544, 1685, 1766, 1779, 1792, 1844, 1893, 1942, 2035, 2084, 2124, 2197, 2234, 2262], 160) := by decide +kernel
theorem dL_law_2327 : decode cL_law 2327 = .ok (.iinc 4 8, 3) := by decide +kernel
theorem dL_law_2330 : decode cL_law 2330 = .ok (.goto (-2307), 3) := by decide +kernel
theorem dL_law_2333 : decode cL_law 2333 = .ok (.iconst 1, 1) := by decide +kernel
theorem dL_law_2334 : decode cL_law 2334 = .ok (.ireturn, 1) := by decide +kernel
