theorem dX8_advance_37 : decode cX8_advance 37 = .ok (.isub, 1) := by decide +kernel
theorem dX8_advance_38 : decode cX8_advance 38 = .ok (.putfield 13, 3) := by decide +kernel
theorem dX8_advance_41 : decode cX8_advance 41 = .ok (.goto 13, 3) := by decide +kernel
theorem dX8_advance_44 : decode cX8_advance 44 = .ok (.aload_n 0, 1) := by decide +kernel
theorem dX8_advance_45 : decode cX8_advance 45 = .ok (.iload_n 2, 1) := by decide +kernel
theorem dX8_advance_46 : decode cX8_advance 46 = .ok (.invokevirtual 60, 3) := by decide +kernel
theorem dX8_advance_49 : decode cX8_advance 49 = .ok (.ifCond .eq 5, 3) := by decide +kernel
theorem dX8_advance_52 : decode cX8_advance 52 = .ok (.iconst 1, 1) := by decide +kernel
theorem dX8_advance_53 : decode cX8_advance 53 = .ok (.ireturn, 1) := by decide +kernel
theorem dX8_advance_54 : decode cX8_advance 54 = .ok (.iinc 1 1, 3) := by decide +kernel
theorem dX8_advance_57 : decode cX8_advance 57 = .ok (.goto (-55), 3) := by decide +kernel
theorem dX8_advance_60 : decode cX8_advance 60 = .ok (.iconst 0, 1) := by decide +kernel
theorem dX8_advance_61 : decode cX8_advance 61 = .ok (.ireturn, 1) := by decide +kernel
theorem dX8_hasRow_0 : decode cX8_hasRow 0 = .ok (.aload_n 0, 1) := by decide +kernel
theorem dX8_hasRow_1 : decode cX8_hasRow 1 = .ok (.getfield 7, 3) := by decide +kernel
theorem dX8_hasRow_4 : decode cX8_hasRow 4 = .ok (.ifnull 40, 3) := by decide +kernel
theorem dX8_hasRow_7 : decode cX8_hasRow 7 = .ok (.aload_n 0, 1) := by decide +kernel
theorem dX8_hasRow_8 : decode cX8_hasRow 8 = .ok (.getfield 13, 3) := by decide +kernel
theorem dX8_hasRow_11 : decode cX8_hasRow 11 = .ok (.ifCond .lt 33, 3) := by decide +kernel
theorem dX8_hasRow_14 : decode cX8_hasRow 14 = .ok (.aload_n 0, 1) := by decide +kernel
theorem dX8_hasRow_15 : decode cX8_hasRow 15 = .ok (.getfield 13, 3) := by decide +kernel
theorem dX8_hasRow_18 : decode cX8_hasRow 18 = .ok (.aload_n 0, 1) := by decide +kernel
theorem dX8_hasRow_19 : decode cX8_hasRow 19 = .ok (.getfield 7, 3) := by decide +kernel
theorem dX8_hasRow_22 : decode cX8_hasRow 22 = .ok (.getfield 64, 3) := by decide +kernel
theorem dX8_hasRow_25 : decode cX8_hasRow 25 = .ok (.getfield 70, 3) := by decide +kernel
theorem dX8_hasRow_28 : decode cX8_hasRow 28 = .ok (.if_icmp .ge 16, 3) := by decide +kernel
theorem dX8_hasRow_31 : decode cX8_hasRow 31 = .ok (.aload_n 0, 1) := by decide +kernel
theorem dX8_hasRow_32 : decode cX8_hasRow 32 = .ok (.getfield 13, 3) := by decide +kernel
theorem dX8_hasRow_35 : decode cX8_hasRow 35 = .ok (.bipush 6, 2) := by decide +kernel
theorem dX8_hasRow_37 : decode cX8_hasRow 37 = .ok (.if_icmp .ge 7, 3) := by decide +kernel
theorem dX8_hasRow_40 : decode cX8_hasRow 40 = .ok (.iconst 1, 1) := by decide +kernel
theorem dX8_hasRow_41 : decode cX8_hasRow 41 = .ok (.goto 4, 3) := by decide +kernel
theorem dX8_hasRow_44 : decode cX8_hasRow 44 = .ok (.iconst 0, 1) := by decide +kernel
theorem dX8_hasRow_45 : decode cX8_hasRow 45 = .ok (.ireturn, 1) := by decide +kernel
def chX8_enterRow : List (List Cond) := [wsX8_enterRow_r1, wsX8_enterRow_r2, wsX8_enterRow_r3, wsX8_enterRow_r4, wsX80, wsX10, wsX30, wsX40, wsX50, wsX00]
set_option maxRecDepth 20000 in
theorem chX8_enterRow_in : ∀ c ∈ chX8_enterRow, ∀ w ∈ c, w ∈ wsX8_enterRow := (all_c (P := fun c => ∀ w ∈ c, w ∈ wsX8_enterRow) (fun w h => List.mem_cons_of_mem _ (List.mem_append_left _ (List.mem_append_left _ (List.mem_append_left _ (List.mem_append_left _ (List.mem_append_left _ (List.mem_append_left _ (List.mem_append_left _ (h))))))))) (all_c (P := fun c => ∀ w ∈ c, w ∈ wsX8_enterRow) (fun w h => List.mem_cons_of_mem _ (List.mem_append_left _ (List.mem_append_left _ (List.mem_append_left _ (List.mem_append_left _ (List.mem_append_left _ (List.mem_append_left _ (List.mem_append_right _ (List.mem_append_left _ (h)))))))))) (all_c (P := fun c => ∀ w ∈ c, w ∈ wsX8_enterRow) (fun w h => List.mem_cons_of_mem _ (List.mem_append_left _ (List.mem_append_left _ (List.mem_append_left _ (List.mem_append_left _ (List.mem_append_left _ (List.mem_append_left _ (List.mem_append_right _ (List.mem_append_right _ (List.mem_append_left _ (h))))))))))) (all_c (P := fun c => ∀ w ∈ c, w ∈ wsX8_enterRow) (fun w h => List.mem_cons_of_mem _ (List.mem_append_left _ (List.mem_append_left _ (List.mem_append_left _ (List.mem_append_left _ (List.mem_append_left _ (List.mem_append_left _ (List.mem_append_right _ (List.mem_append_right _ (List.mem_append_right _ (h))))))))))) (all_c (P := fun c => ∀ w ∈ c, w ∈ wsX8_enterRow) (fun w h => List.mem_cons_of_mem _ (List.mem_append_left _ (List.mem_append_left _ (List.mem_append_left _ (List.mem_append_left _ (List.mem_append_left _ (List.mem_append_right _ (h)))))))) (all_c (P := fun c => ∀ w ∈ c, w ∈ wsX8_enterRow) (fun w h => List.mem_cons_of_mem _ (List.mem_append_left _ (List.mem_append_left _ (List.mem_append_left _ (List.mem_append_left _ (List.mem_append_right _ (h))))))) (all_c (P := fun c => ∀ w ∈ c, w ∈ wsX8_enterRow) (fun w h => List.mem_cons_of_mem _ (List.mem_append_left _ (List.mem_append_left _ (List.mem_append_left _ (List.mem_append_right _ (h)))))) (all_c (P := fun c => ∀ w ∈ c, w ∈ wsX8_enterRow) (fun w h => List.mem_cons_of_mem _ (List.mem_append_left _ (List.mem_append_left _ (List.mem_append_right _ (h))))) (all_c (P := fun c => ∀ w ∈ c, w ∈ wsX8_enterRow) (fun w h => List.mem_cons_of_mem _ (List.mem_append_left _ (List.mem_append_right _ (h)))) (all_c (P := fun c => ∀ w ∈ c, w ∈ wsX8_enterRow) (fun w h => List.mem_cons_of_mem _ (List.mem_append_right _ (h))) (fun _ h => nomatch h)))))))))))
set_option maxRecDepth 20000 in
theorem ggX8_enterRow_X8_hasRow : GoodIn wsX8_enterRow wsX8_hasRow := goodIn_ca (goodIn_ca (goodIn_ca (goodIn_ca (goodIn_ca (goodIn_ca (goodIn_c chX8_enterRow chX8_enterRow_in _ [(0, 11), (0, 3), (0, 0), (0, 12), (0, 13)] (by rfl) (by decide +kernel)) (goodIn_sub (fun _ h => List.mem_cons_of_mem _ (List.mem_append_left _ (List.mem_append_left _ (List.mem_append_left _ (List.mem_append_left _ (List.mem_append_left _ (List.mem_append_right _ (h)))))))) (by decide +kernel))) (goodIn_sub (fun _ h => List.mem_cons_of_mem _ (List.mem_append_left _ (List.mem_append_left _ (List.mem_append_left _ (List.mem_append_left _ (List.mem_append_right _ (h))))))) (by decide +kernel))) (goodIn_sub (fun _ h => List.mem_cons_of_mem _ (List.mem_append_left _ (List.mem_append_left _ (List.mem_append_left _ (List.mem_append_right _ (h)))))) (by decide +kernel))) (goodIn_sub (fun _ h => List.mem_cons_of_mem _ (List.mem_append_left _ (List.mem_append_left _ (List.mem_append_right _ (h))))) (by decide +kernel))) (goodIn_sub (fun _ h => List.mem_cons_of_mem _ (List.mem_append_left _ (List.mem_append_right _ (h)))) (by decide +kernel))) (goodIn_sub (fun _ h => List.mem_cons_of_mem _ (List.mem_append_right _ (h))) (by decide +kernel))
set_option maxRecDepth 20000 in
theorem gX8_enterRow_X8_hasRow : GoodIn wsX8_enterRow (wsV RX8 52 RX8 yX8_hasRow wsX8_hasRow) := goodIn_app (goodIn_c chX8_enterRow chX8_enterRow_in _ [(0, 7), (0, 8), (0, 9), (0, 10)] (by rfl) (by decide +kernel)) ggX8_enterRow_X8_hasRow
set_option maxRecDepth 20000 in
theorem ggX8_enterRow_X3_sumOf : GoodIn wsX8_enterRow wsX3_sumOf := goodIn_ca (goodIn_ca (goodIn_ca (goodIn_ca (goodIn_c chX8_enterRow chX8_enterRow_in _ [(0, 19), (0, 20)] (by rfl) (by decide +kernel)) (goodIn_sub (fun _ h => List.mem_cons_of_mem _ (List.mem_append_left _ (List.mem_append_left _ (List.mem_append_left _ (List.mem_append_left _ (List.mem_append_right _ (h))))))) (by decide +kernel))) (goodIn_sub (fun _ h => List.mem_cons_of_mem _ (List.mem_append_left _ (List.mem_append_left _ (List.mem_append_left _ (List.mem_append_right _ (h)))))) (by decide +kernel))) (goodIn_sub (fun _ h => List.mem_cons_of_mem _ (List.mem_append_left _ (List.mem_append_left _ (List.mem_append_right _ (h))))) (by decide +kernel))) (goodIn_sub (fun _ h => List.mem_cons_of_mem _ (List.mem_append_left _ (List.mem_append_right _ (h)))) (by decide +kernel))
set_option maxRecDepth 20000 in
theorem gX8_enterRow_X3_sumOf_u73X1 : GoodIn wsX8_enterRow (va_wsU RX8 73 RX1 "ShadowBench$Job" ⟨"ShadowBench$Job", "sumOf", "(II)I"⟩ yX3_sumOf wsX3_sumOf) := goodIn_app (goodIn_c chX8_enterRow chX8_enterRow_in _ [(0, 14), (0, 15), (0, 16), (0, 17), (0, 18)] (by rfl) (by decide +kernel)) ggX8_enterRow_X3_sumOf
set_option maxRecDepth 20000 in
theorem gX8_enterRow_X3_sumOf : GoodIn wsX8_enterRow (wsV RX8 73 RX3 yX3_sumOf wsX3_sumOf) := goodIn_app (goodIn_c chX8_enterRow chX8_enterRow_in _ [(0, 14), (0, 17), (0, 22), (0, 18)] (by rfl) (by decide +kernel)) ggX8_enterRow_X3_sumOf
set_option maxRecDepth 20000 in
theorem gX8_enterRow_X3_sumOf_u73X4 : GoodIn wsX8_enterRow (va_wsU RX8 73 RX4 "ShadowBench$Job" ⟨"ShadowBench$Job", "sumOf", "(II)I"⟩ yX3_sumOf wsX3_sumOf) := goodIn_app (goodIn_c chX8_enterRow chX8_enterRow_in _ [(0, 14), (0, 15), (0, 23), (0, 17), (0, 18)] (by rfl) (by decide +kernel)) ggX8_enterRow_X3_sumOf
set_option maxRecDepth 20000 in
theorem gX8_enterRow_X3_sumOf_u73X5 : GoodIn wsX8_enterRow (va_wsU RX8 73 RX5 "ShadowBench$Job" ⟨"ShadowBench$Job", "sumOf", "(II)I"⟩ yX3_sumOf wsX3_sumOf) := goodIn_app (goodIn_c chX8_enterRow chX8_enterRow_in _ [(0, 14), (0, 15), (1, 0), (0, 17), (0, 18)] (by rfl) (by decide +kernel)) ggX8_enterRow_X3_sumOf
set_option maxRecDepth 20000 in
theorem ggX8_enterRow_X3_onesHeldInRow : GoodIn wsX8_enterRow wsX3_onesHeldInRow := goodIn_ca (goodIn_ca (goodIn_ca (goodIn_ca (goodIn_ca (goodIn_c chX8_enterRow chX8_enterRow_in _ [(1, 5), (1, 6), (1, 7), (1, 8), (1, 9), (1, 10), (1, 11), (1, 12), (1, 13), (1, 14)] (by rfl) (by decide +kernel)) (goodIn_sub (fun _ h => List.mem_cons_of_mem _ (List.mem_append_left _ (List.mem_append_left _ (List.mem_append_left _ (List.mem_append_left _ (List.mem_append_right _ (h))))))) (by decide +kernel))) (goodIn_sub (fun _ h => List.mem_cons_of_mem _ (List.mem_append_left _ (List.mem_append_left _ (List.mem_append_left _ (List.mem_append_right _ (h)))))) (by decide +kernel))) (goodIn_sub (fun _ h => List.mem_cons_of_mem _ (List.mem_append_left _ (List.mem_append_left _ (List.mem_append_right _ (h))))) (by decide +kernel))) (goodIn_sub (fun _ h => List.mem_cons_of_mem _ (List.mem_append_left _ (List.mem_append_right _ (h)))) (by decide +kernel))) (goodIn_sub (fun _ h => List.mem_cons_of_mem _ (List.mem_append_right _ (h))) (by decide +kernel))
set_option maxRecDepth 20000 in
theorem gX8_enterRow_X3_onesHeldInRow_u77X1 : GoodIn wsX8_enterRow (va_wsU RX8 77 RX1 "ShadowBench$Job" ⟨"ShadowBench$Job", "onesHeldInRow", "(I)I"⟩ yX3_onesHeldInRow wsX3_onesHeldInRow) := goodIn_app (goodIn_c chX8_enterRow chX8_enterRow_in _ [(1, 1), (1, 2), (1, 3), (1, 4), (0, 18)] (by rfl) (by decide +kernel)) ggX8_enterRow_X3_onesHeldInRow
set_option maxRecDepth 20000 in
theorem gX8_enterRow_X3_onesHeldInRow : GoodIn wsX8_enterRow (wsV RX8 77 RX3 yX3_onesHeldInRow wsX3_onesHeldInRow) := goodIn_app (goodIn_c chX8_enterRow chX8_enterRow_in _ [(1, 1), (1, 4), (1, 16), (0, 18)] (by rfl) (by decide +kernel)) ggX8_enterRow_X3_onesHeldInRow
set_option maxRecDepth 20000 in
theorem gX8_enterRow_X3_onesHeldInRow_u77X4 : GoodIn wsX8_enterRow (va_wsU RX8 77 RX4 "ShadowBench$Job" ⟨"ShadowBench$Job", "onesHeldInRow", "(I)I"⟩ yX3_onesHeldInRow wsX3_onesHeldInRow) := goodIn_app (goodIn_c chX8_enterRow chX8_enterRow_in _ [(1, 1), (1, 2), (1, 17), (1, 4), (0, 18)] (by rfl) (by decide +kernel)) ggX8_enterRow_X3_onesHeldInRow
set_option maxRecDepth 20000 in
theorem gX8_enterRow_X3_onesHeldInRow_u77X5 : GoodIn wsX8_enterRow (va_wsU RX8 77 RX5 "ShadowBench$Job" ⟨"ShadowBench$Job", "onesHeldInRow", "(I)I"⟩ yX3_onesHeldInRow wsX3_onesHeldInRow) := goodIn_app (goodIn_c chX8_enterRow chX8_enterRow_in _ [(1, 1), (1, 2), (1, 18), (1, 4), (0, 18)] (by rfl) (by decide +kernel)) ggX8_enterRow_X3_onesHeldInRow
set_option maxRecDepth 20000 in
theorem ggX8_enterRow_X3_noughtsHeldInRow : GoodIn wsX8_enterRow wsX3_noughtsHeldInRow := goodIn_ca (goodIn_ca (goodIn_ca (goodIn_ca (goodIn_ca (goodIn_c chX8_enterRow chX8_enterRow_in _ [(1, 23), (1, 6), (2, 0), (1, 8), (1, 9), (1, 10), (1, 11), (1, 12), (1, 13), (1, 14)] (by rfl) (by decide +kernel)) (goodIn_sub (fun _ h => List.mem_cons_of_mem _ (List.mem_append_left _ (List.mem_append_left _ (List.mem_append_left _ (List.mem_append_left _ (List.mem_append_right _ (h))))))) (by decide +kernel))) (goodIn_sub (fun _ h => List.mem_cons_of_mem _ (List.mem_append_left _ (List.mem_append_left _ (List.mem_append_left _ (List.mem_append_right _ (h)))))) (by decide +kernel))) (goodIn_sub (fun _ h => List.mem_cons_of_mem _ (List.mem_append_left _ (List.mem_append_left _ (List.mem_append_right _ (h))))) (by decide +kernel))) (goodIn_sub (fun _ h => List.mem_cons_of_mem _ (List.mem_append_left _ (List.mem_append_right _ (h)))) (by decide +kernel))) (goodIn_sub (fun _ h => List.mem_cons_of_mem _ (List.mem_append_right _ (h))) (by decide +kernel))
set_option maxRecDepth 20000 in
theorem gX8_enterRow_X3_noughtsHeldInRow_u81X1 : GoodIn wsX8_enterRow (va_wsU RX8 81 RX1 "ShadowBench$Job" ⟨"ShadowBench$Job", "noughtsHeldInRow", "(I)I"⟩ yX3_noughtsHeldInRow wsX3_noughtsHeldInRow) := goodIn_app (goodIn_c chX8_enterRow chX8_enterRow_in _ [(1, 19), (1, 20), (1, 21), (1, 22), (0, 18)] (by rfl) (by decide +kernel)) ggX8_enterRow_X3_noughtsHeldInRow
set_option maxRecDepth 20000 in
theorem gX8_enterRow_X3_noughtsHeldInRow : GoodIn wsX8_enterRow (wsV RX8 81 RX3 yX3_noughtsHeldInRow wsX3_noughtsHeldInRow) := goodIn_app (goodIn_c chX8_enterRow chX8_enterRow_in _ [(1, 19), (1, 22), (2, 2), (0, 18)] (by rfl) (by decide +kernel)) ggX8_enterRow_X3_noughtsHeldInRow
set_option maxRecDepth 20000 in
theorem gX8_enterRow_X3_noughtsHeldInRow_u81X4 : GoodIn wsX8_enterRow (va_wsU RX8 81 RX4 "ShadowBench$Job" ⟨"ShadowBench$Job", "noughtsHeldInRow", "(I)I"⟩ yX3_noughtsHeldInRow wsX3_noughtsHeldInRow) := goodIn_app (goodIn_c chX8_enterRow chX8_enterRow_in _ [(1, 19), (1, 20), (2, 3), (1, 22), (0, 18)] (by rfl) (by decide +kernel)) ggX8_enterRow_X3_noughtsHeldInRow
set_option maxRecDepth 20000 in
theorem gX8_enterRow_X3_noughtsHeldInRow_u81X5 : GoodIn wsX8_enterRow (va_wsU RX8 81 RX5 "ShadowBench$Job" ⟨"ShadowBench$Job", "noughtsHeldInRow", "(I)I"⟩ yX3_noughtsHeldInRow wsX3_noughtsHeldInRow) := goodIn_app (goodIn_c chX8_enterRow chX8_enterRow_in _ [(1, 19), (1, 20), (2, 4), (1, 22), (0, 18)] (by rfl) (by decide +kernel)) ggX8_enterRow_X3_noughtsHeldInRow
set_option maxRecDepth 20000 in
theorem ggX8_enterRow_X3_fullColumns : GoodIn wsX8_enterRow wsX3_fullColumns := goodIn_ca (goodIn_ca (goodIn_ca (goodIn_ca (goodIn_ca (goodIn_c chX8_enterRow chX8_enterRow_in _ [(2, 9), (1, 6), (2, 10), (2, 11), (2, 12), (2, 13), (1, 11), (2, 14), (2, 15), (2, 16), (2, 17), (2, 18), (2, 19), (2, 20), (2, 21), (2, 22), (2, 23), (0, 15), (0, 16), (0, 17), (0, 18), (0, 19), (0, 20), (3, 0), (0, 22), (0, 23), (1, 0)] (by rfl) (by decide +kernel)) (goodIn_sub (fun _ h => List.mem_cons_of_mem _ (List.mem_append_left _ (List.mem_append_left _ (List.mem_append_left _ (List.mem_append_left _ (List.mem_append_right _ (h))))))) (by decide +kernel))) (goodIn_sub (fun _ h => List.mem_cons_of_mem _ (List.mem_append_left _ (List.mem_append_left _ (List.mem_append_left _ (List.mem_append_right _ (h)))))) (by decide +kernel))) (goodIn_sub (fun _ h => List.mem_cons_of_mem _ (List.mem_append_left _ (List.mem_append_left _ (List.mem_append_right _ (h))))) (by decide +kernel))) (goodIn_sub (fun _ h => List.mem_cons_of_mem _ (List.mem_append_left _ (List.mem_append_right _ (h)))) (by decide +kernel))) (goodIn_sub (fun _ h => List.mem_cons_of_mem _ (List.mem_append_right _ (h))) (by decide +kernel))
set_option maxRecDepth 20000 in
theorem gX8_enterRow_X3_fullColumns_u84X1 : GoodIn wsX8_enterRow (va_wsU RX8 84 RX1 "ShadowBench$Job" ⟨"ShadowBench$Job", "fullColumns", "(J)I"⟩ yX3_fullColumns wsX3_fullColumns) := goodIn_app (goodIn_c chX8_enterRow chX8_enterRow_in _ [(2, 5), (2, 6), (2, 7), (2, 8), (0, 18)] (by rfl) (by decide +kernel)) ggX8_enterRow_X3_fullColumns
set_option maxRecDepth 20000 in
theorem gX8_enterRow_X3_fullColumns : GoodIn wsX8_enterRow (wsV RX8 84 RX3 yX3_fullColumns wsX3_fullColumns) := goodIn_app (goodIn_c chX8_enterRow chX8_enterRow_in _ [(2, 5), (2, 8), (3, 2), (0, 18)] (by rfl) (by decide +kernel)) ggX8_enterRow_X3_fullColumns
set_option maxRecDepth 20000 in
theorem gX8_enterRow_X3_fullColumns_u84X4 : GoodIn wsX8_enterRow (va_wsU RX8 84 RX4 "ShadowBench$Job" ⟨"ShadowBench$Job", "fullColumns", "(J)I"⟩ yX3_fullColumns wsX3_fullColumns) := goodIn_app (goodIn_c chX8_enterRow chX8_enterRow_in _ [(2, 5), (2, 6), (3, 3), (2, 8), (0, 18)] (by rfl) (by decide +kernel)) ggX8_enterRow_X3_fullColumns
set_option maxRecDepth 20000 in
theorem gX8_enterRow_X3_fullColumns_u84X5 : GoodIn wsX8_enterRow (va_wsU RX8 84 RX5 "ShadowBench$Job" ⟨"ShadowBench$Job", "fullColumns", "(J)I"⟩ yX3_fullColumns wsX3_fullColumns) := goodIn_app (goodIn_c chX8_enterRow chX8_enterRow_in _ [(2, 5), (2, 6), (3, 4), (2, 8), (0, 18)] (by rfl) (by decide +kernel)) ggX8_enterRow_X3_fullColumns
theorem dX8_enterRow_0 : decode cX8_enterRow 0 = .ok (.aload_n 0, 1) := by decide +kernel
theorem dX8_enterRow_1 : decode cX8_enterRow 1 = .ok (.iload_n 1, 1) := by decide +kernel
theorem dX8_enterRow_2 : decode cX8_enterRow 2 = .ok (.putfield 13, 3) := by decide +kernel
theorem dX8_enterRow_5 : decode cX8_enterRow 5 = .ok (.aload_n 0, 1) := by decide +kernel
theorem dX8_enterRow_6 : decode cX8_enterRow 6 = .ok (.invokevirtual 52, 3) := by decide +kernel
theorem dX8_enterRow_9 : decode cX8_enterRow 9 = .ok (.ifCond .eq 93, 3) := by decide +kernel
theorem dX8_enterRow_12 : decode cX8_enterRow 12 = .ok (.aload_n 0, 1) := by decide +kernel
theorem dX8_enterRow_13 : decode cX8_enterRow 13 = .ok (.getfield 30, 3) := by decide +kernel
theorem dX8_enterRow_16 : decode cX8_enterRow 16 = .ok (.aload_n 0, 1) := by decide +kernel
theorem dX8_enterRow_17 : decode cX8_enterRow 17 = .ok (.getfield 13, 3) := by decide +kernel
theorem dX8_enterRow_20 : decode cX8_enterRow 20 = .ok (.iconst 0, 1) := by decide +kernel
theorem dX8_enterRow_21 : decode cX8_enterRow 21 = .ok (.iastore, 1) := by decide +kernel
theorem dX8_enterRow_22 : decode cX8_enterRow 22 = .ok (.aload_n 0, 1) := by decide +kernel
theorem dX8_enterRow_23 : decode cX8_enterRow 23 = .ok (.getfield 34, 3) := by decide +kernel
theorem dX8_enterRow_26 : decode cX8_enterRow 26 = .ok (.aload_n 0, 1) := by decide +kernel
theorem dX8_enterRow_27 : decode cX8_enterRow 27 = .ok (.getfield 13, 3) := by decide +kernel
theorem dX8_enterRow_30 : decode cX8_enterRow 30 = .ok (.aload_n 0, 1) := by decide +kernel
theorem dX8_enterRow_31 : decode cX8_enterRow 31 = .ok (.getfield 7, 3) := by decide +kernel
theorem dX8_enterRow_34 : decode cX8_enterRow 34 = .ok (.iconst 0, 1) := by decide +kernel
theorem dX8_enterRow_35 : decode cX8_enterRow 35 = .ok (.aload_n 0, 1) := by decide +kernel
theorem dX8_enterRow_36 : decode cX8_enterRow 36 = .ok (.getfield 13, 3) := by decide +kernel
theorem dX8_enterRow_39 : decode cX8_enterRow 39 = .ok (.invokevirtual 73, 3) := by decide +kernel
theorem dX8_enterRow_42 : decode cX8_enterRow 42 = .ok (.iastore, 1) := by decide +kernel
theorem dX8_enterRow_43 : decode cX8_enterRow 43 = .ok (.aload_n 0, 1) := by decide +kernel
theorem dX8_enterRow_44 : decode cX8_enterRow 44 = .ok (.getfield 37, 3) := by decide +kernel
theorem dX8_enterRow_47 : decode cX8_enterRow 47 = .ok (.aload_n 0, 1) := by decide +kernel
theorem dX8_enterRow_48 : decode cX8_enterRow 48 = .ok (.getfield 13, 3) := by decide +kernel
theorem dX8_enterRow_51 : decode cX8_enterRow 51 = .ok (.aload_n 0, 1) := by decide +kernel
theorem dX8_enterRow_52 : decode cX8_enterRow 52 = .ok (.getfield 7, 3) := by decide +kernel
theorem dX8_enterRow_55 : decode cX8_enterRow 55 = .ok (.aload_n 0, 1) := by decide +kernel
theorem dX8_enterRow_56 : decode cX8_enterRow 56 = .ok (.getfield 13, 3) := by decide +kernel
theorem dX8_enterRow_59 : decode cX8_enterRow 59 = .ok (.invokevirtual 77, 3) := by decide +kernel
theorem dX8_enterRow_62 : decode cX8_enterRow 62 = .ok (.iastore, 1) := by decide +kernel
theorem dX8_enterRow_63 : decode cX8_enterRow 63 = .ok (.aload_n 0, 1) := by decide +kernel
theorem dX8_enterRow_64 : decode cX8_enterRow 64 = .ok (.getfield 40, 3) := by decide +kernel
theorem dX8_enterRow_67 : decode cX8_enterRow 67 = .ok (.aload_n 0, 1) := by decide +kernel
theorem dX8_enterRow_68 : decode cX8_enterRow 68 = .ok (.getfield 13, 3) := by decide +kernel
theorem dX8_enterRow_71 : decode cX8_enterRow 71 = .ok (.aload_n 0, 1) := by decide +kernel
theorem dX8_enterRow_72 : decode cX8_enterRow 72 = .ok (.getfield 7, 3) := by decide +kernel
theorem dX8_enterRow_75 : decode cX8_enterRow 75 = .ok (.aload_n 0, 1) := by decide +kernel
theorem dX8_enterRow_76 : decode cX8_enterRow 76 = .ok (.getfield 13, 3) := by decide +kernel
theorem dX8_enterRow_79 : decode cX8_enterRow 79 = .ok (.invokevirtual 81, 3) := by decide +kernel
theorem dX8_enterRow_82 : decode cX8_enterRow 82 = .ok (.aload_n 0, 1) := by decide +kernel
theorem dX8_enterRow_83 : decode cX8_enterRow 83 = .ok (.getfield 7, 3) := by decide +kernel
theorem dX8_enterRow_86 : decode cX8_enterRow 86 = .ok (.lload_n 2, 1) := by decide +kernel
theorem dX8_enterRow_87 : decode cX8_enterRow 87 = .ok (.invokevirtual 84, 3) := by decide +kernel
theorem dX8_enterRow_90 : decode cX8_enterRow 90 = .ok (.ior, 1) := by decide +kernel
theorem dX8_enterRow_91 : decode cX8_enterRow 91 = .ok (.iastore, 1) := by decide +kernel
theorem dX8_enterRow_92 : decode cX8_enterRow 92 = .ok (.aload_n 0, 1) := by decide +kernel
theorem dX8_enterRow_93 : decode cX8_enterRow 93 = .ok (.getfield 43, 3) := by decide +kernel
theorem dX8_enterRow_96 : decode cX8_enterRow 96 = .ok (.aload_n 0, 1) := by decide +kernel
theorem dX8_enterRow_97 : decode cX8_enterRow 97 = .ok (.getfield 13, 3) := by decide +kernel
theorem dX8_enterRow_100 : decode cX8_enterRow 100 = .ok (.lload_n 2, 1) := by decide +kernel
theorem dX8_enterRow_101 : decode cX8_enterRow 101 = .ok (.lastore, 1) := by decide +kernel
theorem dX8_enterRow_102 : decode cX8_enterRow 102 = .ok (.return_, 1) := by decide +kernel
set_option maxRecDepth 20000 in
theorem ggX8_nextGoingOn_J6_bitCount_0f7a4 : GoodIn wsX8_nextGoingOn wsJ6_bitCount_0f7a4 := goodIn_r _ [15, 16, 17, 18] (by decide +kernel) (by decide +kernel)
def chX8_nextGoingOn : List (List Cond) := [[.fieldLink RX8 7 "ShadowBench$Walk" "job" "LShadowBench$Job;", .fieldLink RX8 64 "ShadowBench$Job" "board" "LShadowBench$Board;", .fieldLink RX8 88 "ShadowBench$Board" "rowNumbers" "I", .fieldLink RX8 30 "ShadowBench$Walk" "nextRow" "[I", .fieldLink RX8 13 "ShadowBench$Walk" "y" "I", .fieldLink RX8 17 "ShadowBench$Walk" "tried" "I", .constant RX8 91 (200000), .fieldLink RX8 40 "ShadowBench$Walk" "barred" "[I", .fieldLink RX8 37 "ShadowBench$Walk" "needed" "[I", .fieldLink RX8 34 "ShadowBench$Walk" "rowSum" "[I", .fieldLink RX8 20 "ShadowBench$Walk" "spent" "Z", .methodLink RX8 92 yJ6_bitCount_0f7a4, .static yJ6_bitCount_0f7a4, .initialized RJ6, .code yJ6_bitCount_0f7a4 cJ6_bitCount_0f7a4 1 (some .int), .constant RJ6 265 (1431655765), .constant RJ6 266 (858993459), .constant RJ6 267 (252645135)], wsX80, wsX10, wsX30, wsX40, wsX50, wsX00]
set_option maxRecDepth 20000 in
theorem chX8_nextGoingOn_in : ∀ c ∈ chX8_nextGoingOn, ∀ w ∈ c, w ∈ wsX8_nextGoingOn := (all_c (P := fun c => ∀ w ∈ c, w ∈ wsX8_nextGoingOn) (fun w h => List.mem_cons_of_mem _ (List.mem_append_left _ (List.mem_append_left _ (List.mem_append_left _ (List.mem_append_left _ (List.mem_append_left _ (List.mem_append_left _ (h)))))))) (all_c (P := fun c => ∀ w ∈ c, w ∈ wsX8_nextGoingOn) (fun w h => List.mem_cons_of_mem _ (List.mem_append_left _ (List.mem_append_left _ (List.mem_append_left _ (List.mem_append_left _ (List.mem_append_left _ (List.mem_append_right _ (h)))))))) (all_c (P := fun c => ∀ w ∈ c, w ∈ wsX8_nextGoingOn) (fun w h => List.mem_cons_of_mem _ (List.mem_append_left _ (List.mem_append_left _ (List.mem_append_left _ (List.mem_append_left _ (List.mem_append_right _ (h))))))) (all_c (P := fun c => ∀ w ∈ c, w ∈ wsX8_nextGoingOn) (fun w h => List.mem_cons_of_mem _ (List.mem_append_left _ (List.mem_append_left _ (List.mem_append_left _ (List.mem_append_right _ (h)))))) (all_c (P := fun c => ∀ w ∈ c, w ∈ wsX8_nextGoingOn) (fun w h => List.mem_cons_of_mem _ (List.mem_append_left _ (List.mem_append_left _ (List.mem_append_right _ (h))))) (all_c (P := fun c => ∀ w ∈ c, w ∈ wsX8_nextGoingOn) (fun w h => List.mem_cons_of_mem _ (List.mem_append_left _ (List.mem_append_right _ (h)))) (all_c (P := fun c => ∀ w ∈ c, w ∈ wsX8_nextGoingOn) (fun w h => List.mem_cons_of_mem _ (List.mem_append_right _ (h))) (fun _ h => nomatch h))))))))
set_option maxRecDepth 20000 in
theorem gX8_nextGoingOn_J6_bitCount_0f7a4 : GoodIn wsX8_nextGoingOn (va_wsS RX8 92 yJ6_bitCount_0f7a4 wsJ6_bitCount_0f7a4) := goodIn_app (goodIn_c chX8_nextGoingOn chX8_nextGoingOn_in _ [(0, 11), (0, 12), (0, 13)] (by rfl) (by decide +kernel)) ggX8_nextGoingOn_J6_bitCount_0f7a4
theorem dX8_nextGoingOn_0 : decode cX8_nextGoingOn 0 = .ok (.aload_n 0, 1) := by decide +kernel
theorem dX8_nextGoingOn_1 : decode cX8_nextGoingOn 1 = .ok (.getfield 7, 3) := by decide +kernel
theorem dX8_nextGoingOn_4 : decode cX8_nextGoingOn 4 = .ok (.getfield 64, 3) := by decide +kernel
theorem dX8_nextGoingOn_7 : decode cX8_nextGoingOn 7 = .ok (.getfield 88, 3) := by decide +kernel
theorem dX8_nextGoingOn_10 : decode cX8_nextGoingOn 10 = .ok (.istore_n 1, 1) := by decide +kernel
theorem dX8_nextGoingOn_11 : decode cX8_nextGoingOn 11 = .ok (.aload_n 0, 1) := by decide +kernel
theorem dX8_nextGoingOn_12 : decode cX8_nextGoingOn 12 = .ok (.getfield 30, 3) := by decide +kernel
theorem dX8_nextGoingOn_15 : decode cX8_nextGoingOn 15 = .ok (.aload_n 0, 1) := by decide +kernel
theorem dX8_nextGoingOn_16 : decode cX8_nextGoingOn 16 = .ok (.getfield 13, 3) := by decide +kernel
theorem dX8_nextGoingOn_19 : decode cX8_nextGoingOn 19 = .ok (.iaload, 1) := by decide +kernel
theorem dX8_nextGoingOn_20 : decode cX8_nextGoingOn 20 = .ok (.istore_n 2, 1) := by decide +kernel
theorem dX8_nextGoingOn_21 : decode cX8_nextGoingOn 21 = .ok (.iload_n 2, 1) := by decide +kernel
theorem dX8_nextGoingOn_22 : decode cX8_nextGoingOn 22 = .ok (.iload_n 1, 1) := by decide +kernel
theorem dX8_nextGoingOn_23 : decode cX8_nextGoingOn 23 = .ok (.if_icmp .ge 95, 3) := by decide +kernel
theorem dX8_nextGoingOn_26 : decode cX8_nextGoingOn 26 = .ok (.aload_n 0, 1) := by decide +kernel
theorem dX8_nextGoingOn_27 : decode cX8_nextGoingOn 27 = .ok (.getfield 17, 3) := by decide +kernel
theorem dX8_nextGoingOn_30 : decode cX8_nextGoingOn 30 = .ok (.ldc 91, 2) := by decide +kernel
theorem dX8_nextGoingOn_32 : decode cX8_nextGoingOn 32 = .ok (.if_icmp .ge 86, 3) := by decide +kernel
theorem dX8_nextGoingOn_35 : decode cX8_nextGoingOn 35 = .ok (.aload_n 0, 1) := by decide +kernel
theorem dX8_nextGoingOn_36 : decode cX8_nextGoingOn 36 = .ok (.dup, 1) := by decide +kernel
theorem dX8_nextGoingOn_37 : decode cX8_nextGoingOn 37 = .ok (.getfield 17, 3) := by decide +kernel
theorem dX8_nextGoingOn_40 : decode cX8_nextGoingOn 40 = .ok (.iconst 1, 1) := by decide +kernel
theorem dX8_nextGoingOn_41 : decode cX8_nextGoingOn 41 = .ok (.iadd, 1) := by decide +kernel
theorem dX8_nextGoingOn_42 : decode cX8_nextGoingOn 42 = .ok (.putfield 17, 3) := by decide +kernel
theorem dX8_nextGoingOn_45 : decode cX8_nextGoingOn 45 = .ok (.iload_n 2, 1) := by decide +kernel
theorem dX8_nextGoingOn_46 : decode cX8_nextGoingOn 46 = .ok (.aload_n 0, 1) := by decide +kernel
theorem dX8_nextGoingOn_47 : decode cX8_nextGoingOn 47 = .ok (.getfield 40, 3) := by decide +kernel
theorem dX8_nextGoingOn_50 : decode cX8_nextGoingOn 50 = .ok (.aload_n 0, 1) := by decide +kernel
theorem dX8_nextGoingOn_51 : decode cX8_nextGoingOn 51 = .ok (.getfield 13, 3) := by decide +kernel
theorem dX8_nextGoingOn_54 : decode cX8_nextGoingOn 54 = .ok (.iaload, 1) := by decide +kernel
theorem dX8_nextGoingOn_55 : decode cX8_nextGoingOn 55 = .ok (.iand, 1) := by decide +kernel
theorem dX8_nextGoingOn_56 : decode cX8_nextGoingOn 56 = .ok (.ifCond .ne 56, 3) := by decide +kernel
theorem dX8_nextGoingOn_59 : decode cX8_nextGoingOn 59 = .ok (.iload_n 2, 1) := by decide +kernel
theorem dX8_nextGoingOn_60 : decode cX8_nextGoingOn 60 = .ok (.aload_n 0, 1) := by decide +kernel
theorem dX8_nextGoingOn_61 : decode cX8_nextGoingOn 61 = .ok (.getfield 37, 3) := by decide +kernel
theorem dX8_nextGoingOn_64 : decode cX8_nextGoingOn 64 = .ok (.aload_n 0, 1) := by decide +kernel
theorem dX8_nextGoingOn_65 : decode cX8_nextGoingOn 65 = .ok (.getfield 13, 3) := by decide +kernel
theorem dX8_nextGoingOn_68 : decode cX8_nextGoingOn 68 = .ok (.iaload, 1) := by decide +kernel
theorem dX8_nextGoingOn_69 : decode cX8_nextGoingOn 69 = .ok (.iand, 1) := by decide +kernel
theorem dX8_nextGoingOn_70 : decode cX8_nextGoingOn 70 = .ok (.aload_n 0, 1) := by decide +kernel
theorem dX8_nextGoingOn_71 : decode cX8_nextGoingOn 71 = .ok (.getfield 37, 3) := by decide +kernel
theorem dX8_nextGoingOn_74 : decode cX8_nextGoingOn 74 = .ok (.aload_n 0, 1) := by decide +kernel
theorem dX8_nextGoingOn_75 : decode cX8_nextGoingOn 75 = .ok (.getfield 13, 3) := by decide +kernel
theorem dX8_nextGoingOn_78 : decode cX8_nextGoingOn 78 = .ok (.iaload, 1) := by decide +kernel
theorem dX8_nextGoingOn_79 : decode cX8_nextGoingOn 79 = .ok (.if_icmp .ne 33, 3) := by decide +kernel
theorem dX8_nextGoingOn_82 : decode cX8_nextGoingOn 82 = .ok (.iload_n 2, 1) := by decide +kernel
theorem dX8_nextGoingOn_83 : decode cX8_nextGoingOn 83 = .ok (.invokestatic 92, 3) := by decide +kernel
theorem dX8_nextGoingOn_86 : decode cX8_nextGoingOn 86 = .ok (.aload_n 0, 1) := by decide +kernel
theorem dX8_nextGoingOn_87 : decode cX8_nextGoingOn 87 = .ok (.getfield 34, 3) := by decide +kernel
theorem dX8_nextGoingOn_90 : decode cX8_nextGoingOn 90 = .ok (.aload_n 0, 1) := by decide +kernel
theorem dX8_nextGoingOn_91 : decode cX8_nextGoingOn 91 = .ok (.getfield 13, 3) := by decide +kernel
theorem dX8_nextGoingOn_94 : decode cX8_nextGoingOn 94 = .ok (.iaload, 1) := by decide +kernel
theorem dX8_nextGoingOn_95 : decode cX8_nextGoingOn 95 = .ok (.if_icmp .ne 17, 3) := by decide +kernel
theorem dX8_nextGoingOn_98 : decode cX8_nextGoingOn 98 = .ok (.aload_n 0, 1) := by decide +kernel
theorem dX8_nextGoingOn_99 : decode cX8_nextGoingOn 99 = .ok (.getfield 30, 3) := by decide +kernel
theorem dX8_nextGoingOn_102 : decode cX8_nextGoingOn 102 = .ok (.aload_n 0, 1) := by decide +kernel
theorem dX8_nextGoingOn_103 : decode cX8_nextGoingOn 103 = .ok (.getfield 13, 3) := by decide +kernel
theorem dX8_nextGoingOn_106 : decode cX8_nextGoingOn 106 = .ok (.iload_n 2, 1) := by decide +kernel
theorem dX8_nextGoingOn_107 : decode cX8_nextGoingOn 107 = .ok (.iconst 1, 1) := by decide +kernel
theorem dX8_nextGoingOn_108 : decode cX8_nextGoingOn 108 = .ok (.iadd, 1) := by decide +kernel
theorem dX8_nextGoingOn_109 : decode cX8_nextGoingOn 109 = .ok (.iastore, 1) := by decide +kernel
theorem dX8_nextGoingOn_110 : decode cX8_nextGoingOn 110 = .ok (.iload_n 2, 1) := by decide +kernel
theorem dX8_nextGoingOn_111 : decode cX8_nextGoingOn 111 = .ok (.ireturn, 1) := by decide +kernel
theorem dX8_nextGoingOn_112 : decode cX8_nextGoingOn 112 = .ok (.iinc 2 1, 3) := by decide +kernel
theorem dX8_nextGoingOn_115 : decode cX8_nextGoingOn 115 = .ok (.goto (-94), 3) := by decide +kernel
theorem dX8_nextGoingOn_118 : decode cX8_nextGoingOn 118 = .ok (.aload_n 0, 1) := by decide +kernel
theorem dX8_nextGoingOn_119 : decode cX8_nextGoingOn 119 = .ok (.iload_n 2, 1) := by decide +kernel
theorem dX8_nextGoingOn_120 : decode cX8_nextGoingOn 120 = .ok (.iload_n 1, 1) := by decide +kernel
theorem dX8_nextGoingOn_121 : decode cX8_nextGoingOn 121 = .ok (.if_icmp .ge 7, 3) := by decide +kernel
theorem dX8_nextGoingOn_124 : decode cX8_nextGoingOn 124 = .ok (.iconst 1, 1) := by decide +kernel
theorem dX8_nextGoingOn_125 : decode cX8_nextGoingOn 125 = .ok (.goto 4, 3) := by decide +kernel
theorem dX8_nextGoingOn_128 : decode cX8_nextGoingOn 128 = .ok (.iconst 0, 1) := by decide +kernel
theorem dX8_nextGoingOn_129 : decode cX8_nextGoingOn 129 = .ok (.putfield 20, 3) := by decide +kernel
theorem dX8_nextGoingOn_132 : decode cX8_nextGoingOn 132 = .ok (.iconst (-1), 1) := by decide +kernel
theorem dX8_nextGoingOn_133 : decode cX8_nextGoingOn 133 = .ok (.ireturn, 1) := by decide +kernel
def chX8_completes : List (List Cond) := [wsX8_completes_r1, wsX8_completes_r2, wsX8_completes_r3, wsX8_completes_r4, wsX8_completes_r5, wsX8_completes_r6, wsX8_completes_r7, wsX80, wsX10, wsX30, wsX40, wsX50, wsX00]
set_option maxRecDepth 20000 in
theorem chX8_completes_in : ∀ c ∈ chX8_completes, ∀ w ∈ c, w ∈ wsX8_completes := (all_c (P := fun c => ∀ w ∈ c, w ∈ wsX8_completes) (fun w h => List.mem_cons_of_mem _ (List.mem_append_left _ (List.mem_append_left _ (List.mem_append_left _ (List.mem_append_left _ (List.mem_append_left _ (List.mem_append_left _ (List.mem_append_left _ (h))))))))) (all_c (P := fun c => ∀ w ∈ c, w ∈ wsX8_completes) (fun w h => List.mem_cons_of_mem _ (List.mem_append_left _ (List.mem_append_left _ (List.mem_append_left _ (List.mem_append_left _ (List.mem_append_left _ (List.mem_append_left _ (List.mem_append_right _ (List.mem_append_left _ (h)))))))))) (all_c (P := fun c => ∀ w ∈ c, w ∈ wsX8_completes) (fun w h => List.mem_cons_of_mem _ (List.mem_append_left _ (List.mem_append_left _ (List.mem_append_left _ (List.mem_append_left _ (List.mem_append_left _ (List.mem_append_left _ (List.mem_append_right _ (List.mem_append_right _ (List.mem_append_left _ (h))))))))))) (all_c (P := fun c => ∀ w ∈ c, w ∈ wsX8_completes) (fun w h => List.mem_cons_of_mem _ (List.mem_append_left _ (List.mem_append_left _ (List.mem_append_left _ (List.mem_append_left _ (List.mem_append_left _ (List.mem_append_left _ (List.mem_append_right _ (List.mem_append_right _ (List.mem_append_right _ (List.mem_append_left _ (h)))))))))))) (all_c (P := fun c => ∀ w ∈ c, w ∈ wsX8_completes) (fun w h => List.mem_cons_of_mem _ (List.mem_append_left _ (List.mem_append_left _ (List.mem_append_left _ (List.mem_append_left _ (List.mem_append_left _ (List.mem_append_left _ (List.mem_append_right _ (List.mem_append_right _ (List.mem_append_right _ (List.mem_append_right _ (List.mem_append_left _ (h))))))))))))) (all_c (P := fun c => ∀ w ∈ c, w ∈ wsX8_completes) (fun w h => List.mem_cons_of_mem _ (List.mem_append_left _ (List.mem_append_left _ (List.mem_append_left _ (List.mem_append_left _ (List.mem_append_left _ (List.mem_append_left _ (List.mem_append_right _ (List.mem_append_right _ (List.mem_append_right _ (List.mem_append_right _ (List.mem_append_right _ (List.mem_append_left _ (h)))))))))))))) (all_c (P := fun c => ∀ w ∈ c, w ∈ wsX8_completes) (fun w h => List.mem_cons_of_mem _ (List.mem_append_left _ (List.mem_append_left _ (List.mem_append_left _ (List.mem_append_left _ (List.mem_append_left _ (List.mem_append_left _ (List.mem_append_right _ (List.mem_append_right _ (List.mem_append_right _ (List.mem_append_right _ (List.mem_append_right _ (List.mem_append_right _ (h)))))))))))))) (all_c (P := fun c => ∀ w ∈ c, w ∈ wsX8_completes) (fun w h => List.mem_cons_of_mem _ (List.mem_append_left _ (List.mem_append_left _ (List.mem_append_left _ (List.mem_append_left _ (List.mem_append_left _ (List.mem_append_right _ (h)))))))) (all_c (P := fun c => ∀ w ∈ c, w ∈ wsX8_completes) (fun w h => List.mem_cons_of_mem _ (List.mem_append_left _ (List.mem_append_left _ (List.mem_append_left _ (List.mem_append_left _ (List.mem_append_right _ (h))))))) (all_c (P := fun c => ∀ w ∈ c, w ∈ wsX8_completes) (fun w h => List.mem_cons_of_mem _ (List.mem_append_left _ (List.mem_append_left _ (List.mem_append_left _ (List.mem_append_right _ (h)))))) (all_c (P := fun c => ∀ w ∈ c, w ∈ wsX8_completes) (fun w h => List.mem_cons_of_mem _ (List.mem_append_left _ (List.mem_append_left _ (List.mem_append_right _ (h))))) (all_c (P := fun c => ∀ w ∈ c, w ∈ wsX8_completes) (fun w h => List.mem_cons_of_mem _ (List.mem_append_left _ (List.mem_append_right _ (h)))) (all_c (P := fun c => ∀ w ∈ c, w ∈ wsX8_completes) (fun w h => List.mem_cons_of_mem _ (List.mem_append_right _ (h))) (fun _ h => nomatch h))))))))))))))
set_option maxRecDepth 20000 in
theorem ggX8_completes_X8_enterRow : GoodIn wsX8_completes wsX8_enterRow := goodIn_ca (goodIn_ca (goodIn_ca (goodIn_ca (goodIn_ca (goodIn_ca (goodIn_c chX8_completes chX8_completes_in _ [(0, 11), (0, 1), (0, 12), (0, 13), (0, 2), (0, 14), (0, 15), (0, 0), (0, 16), (0, 17), (0, 18), (0, 10), (0, 19), (0, 3), (0, 5), (0, 20), (0, 21), (0, 22), (0, 23), (1, 0), (1, 1), (1, 2), (1, 3), (1, 4), (1, 5), (1, 6), (1, 7), (1, 8), (1, 9), (1, 10), (1, 11), (1, 12), (1, 13), (1, 14), (1, 15), (1, 16), (1, 17), (1, 18), (1, 19), (1, 20), (1, 21), (1, 22), (1, 23), (2, 0), (2, 1), (2, 2), (2, 3), (2, 4), (2, 5), (2, 6), (2, 7), (2, 8), (2, 9), (2, 10), (2, 11), (2, 12), (2, 13), (2, 14), (2, 15), (2, 16), (2, 17), (2, 18), (2, 19), (2, 20), (2, 21), (2, 22), (2, 23), (3, 0), (3, 1), (3, 2), (3, 3), (3, 4), (3, 5), (3, 6), (3, 7), (3, 8), (3, 9), (3, 10)] (by rfl) (by decide +kernel)) (goodIn_sub (fun _ h => List.mem_cons_of_mem _ (List.mem_append_left _ (List.mem_append_left _ (List.mem_append_left _ (List.mem_append_left _ (List.mem_append_left _ (List.mem_append_right _ (h)))))))) (by decide +kernel))) (goodIn_sub (fun _ h => List.mem_cons_of_mem _ (List.mem_append_left _ (List.mem_append_left _ (List.mem_append_left _ (List.mem_append_left _ (List.mem_append_right _ (h))))))) (by decide +kernel))) (goodIn_sub (fun _ h => List.mem_cons_of_mem _ (List.mem_append_left _ (List.mem_append_left _ (List.mem_append_left _ (List.mem_append_right _ (h)))))) (by decide +kernel))) (goodIn_sub (fun _ h => List.mem_cons_of_mem _ (List.mem_append_left _ (List.mem_append_left _ (List.mem_append_right _ (h))))) (by decide +kernel))) (goodIn_sub (fun _ h => List.mem_cons_of_mem _ (List.mem_append_left _ (List.mem_append_right _ (h)))) (by decide +kernel))) (goodIn_sub (fun _ h => List.mem_cons_of_mem _ (List.mem_append_right _ (h))) (by decide +kernel))
set_option maxRecDepth 20000 in
theorem gX8_completes_X8_enterRow : GoodIn wsX8_completes (wsV RX8 47 RX8 yX8_enterRow wsX8_enterRow) := goodIn_app (goodIn_c chX8_completes chX8_completes_in _ [(0, 7), (0, 8), (0, 9), (0, 10)] (by rfl) (by decide +kernel)) ggX8_completes_X8_enterRow
set_option maxRecDepth 20000 in
theorem ggX8_completes_X3_admits : GoodIn wsX8_completes wsX3_admits := goodIn_ca (goodIn_ca (goodIn_ca (goodIn_ca (goodIn_ca (goodIn_c chX8_completes chX8_completes_in _ [(3, 15), (2, 6), (3, 16), (1, 13), (3, 17), (3, 18), (3, 19), (3, 20), (1, 0), (3, 21), (1, 12), (3, 22), (3, 23), (4, 0), (4, 1), (4, 2), (4, 3), (4, 4), (4, 5), (4, 6), (4, 7), (4, 8), (4, 9), (4, 10), (1, 17), (4, 11), (4, 12), (1, 19), (2, 17), (2, 18), (2, 19), (2, 20), (2, 21), (2, 22), (2, 23), (3, 0), (3, 1), (3, 2), (3, 3), (3, 4), (3, 5), (0, 21), (0, 22), (0, 23), (1, 1), (1, 2), (3, 6), (1, 4), (1, 5), (1, 6), (4, 13), (4, 14), (4, 15), (4, 16), (4, 17), (4, 18), (4, 19), (4, 20), (4, 21), (4, 22), (4, 23), (5, 0), (5, 1), (5, 2), (5, 3), (5, 4), (5, 5), (5, 6), (5, 7), (5, 8), (5, 9), (5, 10), (5, 11), (5, 12), (5, 13), (5, 14), (5, 15), (5, 16), (5, 17), (5, 18), (5, 19), (5, 20), (1, 15), (1, 16), (1, 18), (1, 20), (5, 21), (5, 22), (5, 23), (6, 0), (6, 1), (6, 2), (6, 3), (6, 4), (6, 5), (6, 6)] (by rfl) (by decide +kernel)) (goodIn_sub (fun _ h => List.mem_cons_of_mem _ (List.mem_append_left _ (List.mem_append_left _ (List.mem_append_left _ (List.mem_append_left _ (List.mem_append_right _ (h))))))) (by decide +kernel))) (goodIn_sub (fun _ h => List.mem_cons_of_mem _ (List.mem_append_left _ (List.mem_append_left _ (List.mem_append_left _ (List.mem_append_right _ (h)))))) (by decide +kernel))) (goodIn_sub (fun _ h => List.mem_cons_of_mem _ (List.mem_append_left _ (List.mem_append_left _ (List.mem_append_right _ (h))))) (by decide +kernel))) (goodIn_sub (fun _ h => List.mem_cons_of_mem _ (List.mem_append_left _ (List.mem_append_right _ (h)))) (by decide +kernel))) (goodIn_sub (fun _ h => List.mem_cons_of_mem _ (List.mem_append_right _ (h))) (by decide +kernel))
set_option maxRecDepth 20000 in
theorem gX8_completes_X3_admits_u100X1 : GoodIn wsX8_completes (va_wsU RX8 100 RX1 "ShadowBench$Job" ⟨"ShadowBench$Job", "admits", "(J)Z"⟩ yX3_admits wsX3_admits) := goodIn_app (goodIn_c chX8_completes chX8_completes_in _ [(3, 11), (3, 12), (3, 13), (3, 14), (1, 0)] (by rfl) (by decide +kernel)) ggX8_completes_X3_admits
set_option maxRecDepth 20000 in
theorem gX8_completes_X3_admits : GoodIn wsX8_completes (wsV RX8 100 RX3 yX3_admits wsX3_admits) := goodIn_app (goodIn_c chX8_completes chX8_completes_in _ [(3, 11), (3, 14), (6, 8), (1, 0)] (by rfl) (by decide +kernel)) ggX8_completes_X3_admits
set_option maxRecDepth 20000 in
theorem gX8_completes_X3_admits_u100X4 : GoodIn wsX8_completes (va_wsU RX8 100 RX4 "ShadowBench$Job" ⟨"ShadowBench$Job", "admits", "(J)Z"⟩ yX3_admits wsX3_admits) := goodIn_app (goodIn_c chX8_completes chX8_completes_in _ [(3, 11), (3, 12), (6, 9), (3, 14), (1, 0)] (by rfl) (by decide +kernel)) ggX8_completes_X3_admits
set_option maxRecDepth 20000 in
theorem gX8_completes_X3_admits_u100X5 : GoodIn wsX8_completes (va_wsU RX8 100 RX5 "ShadowBench$Job" ⟨"ShadowBench$Job", "admits", "(J)Z"⟩ yX3_admits wsX3_admits) := goodIn_app (goodIn_c chX8_completes chX8_completes_in _ [(3, 11), (3, 12), (6, 10), (3, 14), (1, 0)] (by rfl) (by decide +kernel)) ggX8_completes_X3_admits
theorem dX8_completes_0 : decode cX8_completes 0 = .ok (.aload_n 0, 1) := by decide +kernel
theorem dX8_completes_1 : decode cX8_completes 1 = .ok (.getfield 43, 3) := by decide +kernel
theorem dX8_completes_4 : decode cX8_completes 4 = .ok (.aload_n 0, 1) := by decide +kernel
theorem dX8_completes_5 : decode cX8_completes 5 = .ok (.getfield 13, 3) := by decide +kernel
theorem dX8_completes_8 : decode cX8_completes 8 = .ok (.laload, 1) := by decide +kernel
theorem dX8_completes_9 : decode cX8_completes 9 = .ok (.iload_n 1, 1) := by decide +kernel
theorem dX8_completes_10 : decode cX8_completes 10 = .ok (.i2l, 1) := by decide +kernel
theorem dX8_completes_11 : decode cX8_completes 11 = .ok (.aload_n 0, 1) := by decide +kernel
theorem dX8_completes_12 : decode cX8_completes 12 = .ok (.getfield 13, 3) := by decide +kernel
theorem dX8_completes_15 : decode cX8_completes 15 = .ok (.aload_n 0, 1) := by decide +kernel
theorem dX8_completes_16 : decode cX8_completes 16 = .ok (.getfield 7, 3) := by decide +kernel
theorem dX8_completes_19 : decode cX8_completes 19 = .ok (.getfield 64, 3) := by decide +kernel
theorem dX8_completes_22 : decode cX8_completes 22 = .ok (.getfield 97, 3) := by decide +kernel
theorem dX8_completes_25 : decode cX8_completes 25 = .ok (.imul, 1) := by decide +kernel
theorem dX8_completes_26 : decode cX8_completes 26 = .ok (.lshl, 1) := by decide +kernel
theorem dX8_completes_27 : decode cX8_completes 27 = .ok (.lor, 1) := by decide +kernel
theorem dX8_completes_28 : decode cX8_completes 28 = .ok (.lstore_n 2, 1) := by decide +kernel
theorem dX8_completes_29 : decode cX8_completes 29 = .ok (.aload_n 0, 1) := by decide +kernel
theorem dX8_completes_30 : decode cX8_completes 30 = .ok (.getfield 13, 3) := by decide +kernel
theorem dX8_completes_33 : decode cX8_completes 33 = .ok (.iconst 1, 1) := by decide +kernel
theorem dX8_completes_34 : decode cX8_completes 34 = .ok (.iadd, 1) := by decide +kernel
theorem dX8_completes_35 : decode cX8_completes 35 = .ok (.aload_n 0, 1) := by decide +kernel
theorem dX8_completes_36 : decode cX8_completes 36 = .ok (.getfield 7, 3) := by decide +kernel
theorem dX8_completes_39 : decode cX8_completes 39 = .ok (.getfield 64, 3) := by decide +kernel
theorem dX8_completes_42 : decode cX8_completes 42 = .ok (.getfield 70, 3) := by decide +kernel
theorem dX8_completes_45 : decode cX8_completes 45 = .ok (.if_icmp .ge 16, 3) := by decide +kernel
theorem dX8_completes_48 : decode cX8_completes 48 = .ok (.aload_n 0, 1) := by decide +kernel
theorem dX8_completes_49 : decode cX8_completes 49 = .ok (.aload_n 0, 1) := by decide +kernel
theorem dX8_completes_50 : decode cX8_completes 50 = .ok (.getfield 13, 3) := by decide +kernel
theorem dX8_completes_53 : decode cX8_completes 53 = .ok (.iconst 1, 1) := by decide +kernel
theorem dX8_completes_54 : decode cX8_completes 54 = .ok (.iadd, 1) := by decide +kernel
theorem dX8_completes_55 : decode cX8_completes 55 = .ok (.lload_n 2, 1) := by decide +kernel
theorem dX8_completes_56 : decode cX8_completes 56 = .ok (.invokevirtual 47, 3) := by decide +kernel
theorem dX8_completes_59 : decode cX8_completes 59 = .ok (.iconst 0, 1) := by decide +kernel
theorem dX8_completes_60 : decode cX8_completes 60 = .ok (.ireturn, 1) := by decide +kernel
theorem dX8_completes_61 : decode cX8_completes 61 = .ok (.aload_n 0, 1) := by decide +kernel
theorem dX8_completes_62 : decode cX8_completes 62 = .ok (.lload_n 2, 1) := by decide +kernel
theorem dX8_completes_63 : decode cX8_completes 63 = .ok (.putfield 24, 3) := by decide +kernel
theorem dX8_completes_66 : decode cX8_completes 66 = .ok (.aload_n 0, 1) := by decide +kernel
theorem dX8_completes_67 : decode cX8_completes 67 = .ok (.getfield 7, 3) := by decide +kernel
theorem dX8_completes_70 : decode cX8_completes 70 = .ok (.lload_n 2, 1) := by decide +kernel
theorem dX8_completes_71 : decode cX8_completes 71 = .ok (.invokevirtual 100, 3) := by decide +kernel
theorem dX8_completes_74 : decode cX8_completes 74 = .ok (.ireturn, 1) := by decide +kernel
theorem dJ7_fill_53178_0 : decode cJ7_fill_53178 0 = .ok (.iconst 0, 1) := by decide +kernel
theorem dJ7_fill_53178_1 : decode cJ7_fill_53178 1 = .ok (.istore_n 2, 1) := by decide +kernel
theorem dJ7_fill_53178_2 : decode cJ7_fill_53178 2 = .ok (.aload_n 0, 1) := by decide +kernel
theorem dJ7_fill_53178_3 : decode cJ7_fill_53178 3 = .ok (.arraylength, 1) := by decide +kernel
theorem dJ7_fill_53178_4 : decode cJ7_fill_53178 4 = .ok (.istore_n 3, 1) := by decide +kernel
theorem dJ7_fill_53178_5 : decode cJ7_fill_53178 5 = .ok (.iload_n 2, 1) := by decide +kernel
theorem dJ7_fill_53178_6 : decode cJ7_fill_53178 6 = .ok (.iload_n 3, 1) := by decide +kernel
theorem dJ7_fill_53178_7 : decode cJ7_fill_53178 7 = .ok (.if_icmp .ge 13, 3) := by decide +kernel
theorem dJ7_fill_53178_10 : decode cJ7_fill_53178 10 = .ok (.aload_n 0, 1) := by decide +kernel
theorem dJ7_fill_53178_11 : decode cJ7_fill_53178 11 = .ok (.iload_n 2, 1) := by decide +kernel
theorem dJ7_fill_53178_12 : decode cJ7_fill_53178 12 = .ok (.iload_n 1, 1) := by decide +kernel
theorem dJ7_fill_53178_13 : decode cJ7_fill_53178 13 = .ok (.iastore, 1) := by decide +kernel
theorem dJ7_fill_53178_14 : decode cJ7_fill_53178 14 = .ok (.iinc 2 1, 3) := by decide +kernel
theorem dJ7_fill_53178_17 : decode cJ7_fill_53178 17 = .ok (.goto (-12), 3) := by decide +kernel
theorem dJ7_fill_53178_20 : decode cJ7_fill_53178 20 = .ok (.return_, 1) := by decide +kernel
