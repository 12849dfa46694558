theorem dX9_layerOf_38 : decode cX9_layerOf 38 = .ok (.ldc2_w 151, 3) := by decide +kernel
theorem dX9_layerOf_41 : decode cX9_layerOf 41 = .ok (.lreturn, 1) := by decide +kernel
theorem dX9_layerOf_42 : decode cX9_layerOf 42 = .ok (.lload 5, 2) := by decide +kernel
theorem dX9_layerOf_44 : decode cX9_layerOf 44 = .ok (.iload_n 1, 1) := by decide +kernel
theorem dX9_layerOf_45 : decode cX9_layerOf 45 = .ok (.i2l, 1) := by decide +kernel
theorem dX9_layerOf_46 : decode cX9_layerOf 46 = .ok (.lcmp, 1) := by decide +kernel
theorem dX9_layerOf_47 : decode cX9_layerOf 47 = .ok (.ifCond .le 10, 3) := by decide +kernel
theorem dX9_layerOf_50 : decode cX9_layerOf 50 = .ok (.lload_n 2, 1) := by decide +kernel
theorem dX9_layerOf_51 : decode cX9_layerOf 51 = .ok (.lconst 1, 1) := by decide +kernel
theorem dX9_layerOf_52 : decode cX9_layerOf 52 = .ok (.iload 4, 2) := by decide +kernel
theorem dX9_layerOf_54 : decode cX9_layerOf 54 = .ok (.lshl, 1) := by decide +kernel
theorem dX9_layerOf_55 : decode cX9_layerOf 55 = .ok (.lor, 1) := by decide +kernel
theorem dX9_layerOf_56 : decode cX9_layerOf 56 = .ok (.lstore_n 2, 1) := by decide +kernel
theorem dX9_layerOf_57 : decode cX9_layerOf 57 = .ok (.iinc 4 1, 3) := by decide +kernel
theorem dX9_layerOf_60 : decode cX9_layerOf 60 = .ok (.goto (-55), 3) := by decide +kernel
theorem dX9_layerOf_63 : decode cX9_layerOf 63 = .ok (.aload_n 0, 1) := by decide +kernel
theorem dX9_layerOf_64 : decode cX9_layerOf 64 = .ok (.invokevirtual 339, 3) := by decide +kernel
theorem dX9_layerOf_67 : decode cX9_layerOf 67 = .ok (.bipush 36, 2) := by decide +kernel
theorem dX9_layerOf_69 : decode cX9_layerOf 69 = .ok (.if_icmp .le 9, 3) := by decide +kernel
theorem dX9_layerOf_72 : decode cX9_layerOf 72 = .ok (.ldc2_w 344, 3) := by decide +kernel
theorem dX9_layerOf_75 : decode cX9_layerOf 75 = .ok (.goto 4, 3) := by decide +kernel
theorem dX9_layerOf_78 : decode cX9_layerOf 78 = .ok (.lload_n 2, 1) := by decide +kernel
theorem dX9_layerOf_79 : decode cX9_layerOf 79 = .ok (.lreturn, 1) := by decide +kernel
