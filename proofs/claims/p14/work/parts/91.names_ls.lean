theorem dL_law_0 : decode cL_law 0 = .ok (.new 8, 3) := d_law oo_187 lawA_0 (k := 0) (by decide +kernel)
theorem dL_law_3 : decode cL_law 3 = .ok (.dup, 1) := d_law oo_89 lawA_0 (k := 3) (by decide +kernel)
theorem dL_law_4 : decode cL_law 4 = .ok (.invokespecial 32, 3) := d_law oo_183 lawA_0 (k := 4) (by decide +kernel)
theorem dL_law_7 : decode cL_law 7 = .ok (.astore_n 1, 1) := d_law oo_76 lawA_0 (k := 7) (by decide +kernel)
theorem dL_law_8 : decode cL_law 8 = .ok (.new 33, 3) := d_law oo_187 lawA_0 (k := 8) (by decide +kernel)
theorem dL_law_11 : decode cL_law 11 = .ok (.dup, 1) := d_law oo_89 lawA_0 (k := 11) (by decide +kernel)
theorem dL_law_12 : decode cL_law 12 = .ok (.invokespecial 35, 3) := d_law oo_183 lawA_0 (k := 12) (by decide +kernel)
theorem dL_law_15 : decode cL_law 15 = .ok (.astore_n 2, 1) := d_law oo_77 lawA_0 (k := 15) (by decide +kernel)
theorem dL_law_16 : decode cL_law 16 = .ok (.iconst 1, 1) := d_law oo_4 lawA_0 (k := 16) (by decide +kernel)
theorem dL_law_17 : decode cL_law 17 = .ok (.newarray .long, 2) := by decide +kernel
theorem dL_law_19 : decode cL_law 19 = .ok (.astore_n 3, 1) := d_law oo_78 lawA_0 (k := 19) (by decide +kernel)
theorem dL_law_20 : decode cL_law 20 = .ok (.iconst 0, 1) := d_law oo_3 lawA_0 (k := 20) (by decide +kernel)
theorem dL_law_21 : decode cL_law 21 = .ok (.istore 4, 2) := d_law oo_54 lawA_0 (k := 21) (by decide +kernel)
set_option maxRecDepth 20000 in
theorem ggL_law_X9_init : GoodIn wsL_law wsX9_init := goodIn_c lwCh lwCh_in _ [(0, 10), (0, 11), (0, 12), (0, 13), (0, 14), (0, 15), (0, 16), (0, 17), (0, 18), (0, 19), (0, 20), (0, 21), (0, 22), (0, 23), (1, 0), (1, 1), (0, 6), (1, 2), (1, 3), (1, 4), (1, 5), (1, 6), (1, 7), (1, 8), (1, 9), (1, 10), (1, 11), (1, 12), (1, 13), (1, 14), (1, 15), (1, 16), (1, 17), (1, 18), (49, 0), (49, 1), (49, 2), (49, 3), (49, 4), (49, 5), (49, 6), (49, 7), (49, 8), (51, 0), (51, 1), (51, 2), (51, 3), (51, 4), (51, 5), (51, 6), (51, 7), (51, 8), (51, 9)] (by rfl) (by decide +kernel)
set_option maxRecDepth 20000 in
theorem gL_law_X9_init : GoodIn wsL_law (wsX9_init) := ggL_law_X9_init
set_option maxRecDepth 20000 in
theorem ggL_law_X10_init : GoodIn wsL_law wsX10_init := goodIn_c lwCh lwCh_in _ [(1, 21), (1, 22), (0, 12), (0, 13), (1, 13), (1, 23), (2, 0), (2, 1), (2, 2), (2, 3), (2, 4), (2, 5), (2, 6), (2, 7), (2, 8), (2, 9), (0, 6), (2, 10), (2, 11), (2, 12), (2, 13), (2, 14), (2, 15), (2, 16), (2, 17), (2, 18), (2, 19), (2, 20), (2, 21), (2, 22), (50, 0), (50, 1), (50, 2), (50, 3), (50, 4), (50, 5), (50, 6), (50, 7), (50, 8), (50, 9), (50, 10), (50, 11), (50, 12), (50, 13), (50, 14), (50, 15), (50, 16), (50, 17), (50, 18), (50, 19), (50, 20), (50, 21), (50, 22), (50, 23), (50, 24), (50, 25), (50, 26), (50, 27), (50, 28), (50, 29), (50, 30), (50, 31), (50, 32), (50, 33), (50, 34)] (by rfl) (by decide +kernel)
set_option maxRecDepth 20000 in
theorem gL_law_X10_init : GoodIn wsL_law (wsX10_init) := ggL_law_X10_init
