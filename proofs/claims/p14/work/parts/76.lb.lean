set_option maxRecDepth 20000 in
theorem lb_all : ∀ w ∈ wsL_law0, w ∈ lw_big := (app_in (app_in (app_in (app_in (app_in (app_in (app_in (app_in (app_in (app_in (app_in (app_in lb_wsL_law0_r1 (app_in lb_wsL_law0_r2 (app_in lb_wsL_law0_r3 (app_in lb_wsL_law0_r4 (app_in lb_wsL_law0_r5 (app_in lb_wsL_law0_r6 (app_in lb_wsL_law0_r7 (app_in lb_wsL_law0_r8 (app_in lb_wsL_law0_r9 (app_in lb_wsL_law0_r10 (app_in lb_wsL_law0_r11 (app_in lb_wsL_law0_r12 (app_in lb_wsL_law0_r13 (app_in lb_wsL_law0_r14 (app_in lb_wsL_law0_r15 (app_in lb_wsL_law0_r16 (app_in lb_wsL_law0_r17 (app_in lb_wsL_law0_r18 (app_in lb_wsL_law0_r19 (app_in lb_wsL_law0_r20 (app_in lb_wsL_law0_r21 (app_in lb_wsL_law0_r22 (app_in lb_wsL_law0_r23 (app_in lb_wsL_law0_r24 (app_in lb_wsL_law0_r25 (app_in lb_wsL_law0_r26 (app_in lb_wsL_law0_r27 (app_in lb_wsL_law0_r28 (app_in lb_wsL_law0_r29 (app_in lb_wsL_law0_r30 (app_in lb_wsL_law0_r31 (app_in lb_wsL_law0_r32 (app_in lb_wsL_law0_r33 (app_in lb_wsL_law0_r34 (app_in lb_wsL_law0_r35 (app_in lb_wsL_law0_r36 (app_in lb_wsL_law0_r37 (app_in lb_wsL_law0_r38 (app_in lb_wsL_law0_r39 (app_in lb_wsL_law0_r40 (app_in lb_wsL_law0_r41 (app_in lb_wsL_law0_r42 (app_in lb_wsL_law0_r43 (app_in lb_wsL_law0_r44 (app_in lb_wsL_law0_r45 (app_in lb_wsL_law0_r46 (app_in lb_wsL_law0_r47 (app_in lb_wsL_law0_r48 lb_wsL_law0_r49)))))))))))))))))))))))))))))))))))))))))))))))) lb_wsX90) lb_wsX100) lb_wsX80) lb_wsX00) lb_wsX40) lb_wsX10) lb_wsX50) lb_wsX30) lb_wsX60) lb_wsX70) (fun _ h => nomatch h))
theorem l_hts0 : ∀ w ∈ wsL_law, w ∈ lw_big := by
  intro w h
  unfold wsL_law at h
  rcases List.mem_append.mp h with h | h
  · rcases List.mem_append.mp h with h | h
    · rcases List.mem_append.mp h with h | h
      · rcases List.mem_append.mp h with h | h
        · rcases List.mem_append.mp h with h | h
          · exact lb_all w h
          · exact lb_x0 w h
        · exact lb_x1 w h
      · exact lb_x2 w h
    · exact lb_x3 w h
  · exact lb_x4 w h

