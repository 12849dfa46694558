theorem dX9_clash_11 : decode cX9_clash 11 = .ok (.ireturn, 1) := by decide +kernel
theorem dX9_clash_12 : decode cX9_clash 12 = .ok (.aload_n 2, 1) := by decide +kernel
theorem dX9_clash_13 : decode cX9_clash 13 = .ok (.iconst 0, 1) := by decide +kernel
theorem dX9_clash_14 : decode cX9_clash 14 = .ok (.invokevirtual 153, 3) := by decide +kernel
theorem dX9_clash_17 : decode cX9_clash 17 = .ok (.aload_n 2, 1) := by decide +kernel
theorem dX9_clash_18 : decode cX9_clash 18 = .ok (.iconst 1, 1) := by decide +kernel
theorem dX9_clash_19 : decode cX9_clash 19 = .ok (.invokevirtual 153, 3) := by decide +kernel
theorem dX9_clash_22 : decode cX9_clash 22 = .ok (.if_icmp .eq 5, 3) := by decide +kernel
theorem dX9_clash_25 : decode cX9_clash 25 = .ok (.iconst 0, 1) := by decide +kernel
theorem dX9_clash_26 : decode cX9_clash 26 = .ok (.ireturn, 1) := by decide +kernel
theorem dX9_clash_27 : decode cX9_clash 27 = .ok (.iconst 1, 1) := by decide +kernel
theorem dX9_clash_28 : decode cX9_clash 28 = .ok (.istore_n 3, 1) := by decide +kernel
theorem dX9_clash_29 : decode cX9_clash 29 = .ok (.iload_n 3, 1) := by decide +kernel
theorem dX9_clash_30 : decode cX9_clash 30 = .ok (.aload_n 2, 1) := by decide +kernel
theorem dX9_clash_31 : decode cX9_clash 31 = .ok (.getfield 65, 3) := by decide +kernel
theorem dX9_clash_34 : decode cX9_clash 34 = .ok (.getfield 156, 3) := by decide +kernel
theorem dX9_clash_37 : decode cX9_clash 37 = .ok (.if_icmp .gt 24, 3) := by decide +kernel
theorem dX9_clash_40 : decode cX9_clash 40 = .ok (.aload_n 2, 1) := by decide +kernel
theorem dX9_clash_41 : decode cX9_clash 41 = .ok (.iload_n 3, 1) := by decide +kernel
theorem dX9_clash_42 : decode cX9_clash 42 = .ok (.invokevirtual 159, 3) := by decide +kernel
theorem dX9_clash_45 : decode cX9_clash 45 = .ok (.aload_n 2, 1) := by decide +kernel
theorem dX9_clash_46 : decode cX9_clash 46 = .ok (.iload_n 3, 1) := by decide +kernel
theorem dX9_clash_47 : decode cX9_clash 47 = .ok (.invokevirtual 162, 3) := by decide +kernel
theorem dX9_clash_50 : decode cX9_clash 50 = .ok (.if_icmp .le 5, 3) := by decide +kernel
theorem dX9_clash_53 : decode cX9_clash 53 = .ok (.iload_n 3, 1) := by decide +kernel
theorem dX9_clash_54 : decode cX9_clash 54 = .ok (.ireturn, 1) := by decide +kernel
theorem dX9_clash_55 : decode cX9_clash 55 = .ok (.iinc 3 1, 3) := by decide +kernel
theorem dX9_clash_58 : decode cX9_clash 58 = .ok (.goto (-29), 3) := by decide +kernel
theorem dX9_clash_61 : decode cX9_clash 61 = .ok (.bipush (-2), 2) := by decide +kernel
theorem dX9_clash_63 : decode cX9_clash 63 = .ok (.ireturn, 1) := by decide +kernel
def chX9_switches : List (List Cond) := [wsX9_switches_r1, wsX9_switches_r2, wsX9_switches_r3, wsX00, wsX90]
set_option maxRecDepth 20000 in
theorem chX9_switches_in : ∀ c ∈ chX9_switches, ∀ w ∈ c, w ∈ wsX9_switches := (all_c (P := fun c => ∀ w ∈ c, w ∈ wsX9_switches) (fun w h => List.mem_cons_of_mem _ (List.mem_append_left _ (List.mem_append_left _ (List.mem_append_left _ (h))))) (all_c (P := fun c => ∀ w ∈ c, w ∈ wsX9_switches) (fun w h => List.mem_cons_of_mem _ (List.mem_append_left _ (List.mem_append_left _ (List.mem_append_right _ (List.mem_append_left _ (h)))))) (all_c (P := fun c => ∀ w ∈ c, w ∈ wsX9_switches) (fun w h => List.mem_cons_of_mem _ (List.mem_append_left _ (List.mem_append_left _ (List.mem_append_right _ (List.mem_append_right _ (h)))))) (all_c (P := fun c => ∀ w ∈ c, w ∈ wsX9_switches) (fun w h => List.mem_cons_of_mem _ (List.mem_append_left _ (List.mem_append_right _ (h)))) (all_c (P := fun c => ∀ w ∈ c, w ∈ wsX9_switches) (fun w h => List.mem_cons_of_mem _ (List.mem_append_right _ (h))) (fun _ h => nomatch h))))))
set_option maxRecDepth 20000 in
theorem ggX9_switches_X9_boardOf : GoodIn wsX9_switches wsX9_boardOf := goodIn_ca (goodIn_ca (goodIn_c chX9_switches chX9_switches_in _ [(0, 5), (0, 6), (0, 7), (0, 8), (0, 9), (0, 10), (0, 11), (0, 12), (0, 13), (0, 14), (0, 15), (0, 16), (0, 17), (0, 18), (0, 19), (0, 20), (0, 21), (0, 22), (0, 23), (1, 0), (1, 1), (1, 2), (1, 3), (1, 4), (1, 5), (1, 6), (1, 7), (1, 8), (1, 9), (1, 10), (1, 11), (1, 12), (1, 13), (1, 14), (1, 15), (1, 16), (1, 17), (1, 18), (1, 19), (1, 20), (1, 21), (1, 22), (1, 23)] (by rfl) (by decide +kernel)) (goodIn_sub (fun _ h => List.mem_cons_of_mem _ (List.mem_append_right _ (h))) (by decide +kernel))) (goodIn_sub (fun _ h => List.mem_cons_of_mem _ (List.mem_append_left _ (List.mem_append_right _ (h)))) (by decide +kernel))
set_option maxRecDepth 20000 in
theorem gX9_switches_X9_boardOf : GoodIn wsX9_switches (wsV RX9 53 RX9 yX9_boardOf wsX9_boardOf) := goodIn_app (goodIn_c chX9_switches chX9_switches_in _ [(0, 1), (0, 2), (0, 3), (0, 4)] (by rfl) (by decide +kernel)) ggX9_switches_X9_boardOf
set_option maxRecDepth 20000 in
theorem ggX9_switches_X0_isPicture : GoodIn wsX9_switches wsX0_isPicture := goodIn_ca (goodIn_c chX9_switches chX9_switches_in _ [(2, 3), (0, 20)] (by rfl) (by decide +kernel)) (goodIn_sub (fun _ h => List.mem_cons_of_mem _ (List.mem_append_left _ (List.mem_append_right _ (h)))) (by decide +kernel))
set_option maxRecDepth 20000 in
theorem gX9_switches_X0_isPicture : GoodIn wsX9_switches (wsV RX9 80 RX0 yX0_isPicture wsX0_isPicture) := goodIn_app (goodIn_c chX9_switches chX9_switches_in _ [(2, 0), (2, 1), (2, 2), (0, 9)] (by rfl) (by decide +kernel)) ggX9_switches_X0_isPicture
set_option maxRecDepth 20000 in
theorem ggX9_switches_X0_behindFour : GoodIn wsX9_switches wsX0_behindFour := goodIn_ca (goodIn_c chX9_switches chX9_switches_in _ [(2, 7), (0, 22), (0, 23), (1, 0)] (by rfl) (by decide +kernel)) (goodIn_sub (fun _ h => List.mem_cons_of_mem _ (List.mem_append_left _ (List.mem_append_right _ (h)))) (by decide +kernel))
set_option maxRecDepth 20000 in
theorem gX9_switches_X0_behindFour : GoodIn wsX9_switches (wsV RX9 179 RX0 yX0_behindFour wsX0_behindFour) := goodIn_app (goodIn_c chX9_switches chX9_switches_in _ [(2, 4), (2, 5), (2, 6), (0, 9)] (by rfl) (by decide +kernel)) ggX9_switches_X0_behindFour
theorem dX9_switches_0 : decode cX9_switches 0 = .ok (.aload_n 0, 1) := by decide +kernel
theorem dX9_switches_1 : decode cX9_switches 1 = .ok (.iload_n 1, 1) := by decide +kernel
theorem dX9_switches_2 : decode cX9_switches 2 = .ok (.iload_n 2, 1) := by decide +kernel
theorem dX9_switches_3 : decode cX9_switches 3 = .ok (.invokevirtual 53, 3) := by decide +kernel
theorem dX9_switches_6 : decode cX9_switches 6 = .ok (.astore 5, 2) := by decide +kernel
theorem dX9_switches_8 : decode cX9_switches 8 = .ok (.aload 5, 2) := by decide +kernel
theorem dX9_switches_10 : decode cX9_switches 10 = .ok (.ifnull 12, 3) := by decide +kernel
theorem dX9_switches_13 : decode cX9_switches 13 = .ok (.aload 5, 2) := by decide +kernel
theorem dX9_switches_15 : decode cX9_switches 15 = .ok (.lload_n 3, 1) := by decide +kernel
theorem dX9_switches_16 : decode cX9_switches 16 = .ok (.invokevirtual 80, 3) := by decide +kernel
theorem dX9_switches_19 : decode cX9_switches 19 = .ok (.ifCond .ne 5, 3) := by decide +kernel
theorem dX9_switches_22 : decode cX9_switches 22 = .ok (.iconst (-1), 1) := by decide +kernel
theorem dX9_switches_23 : decode cX9_switches 23 = .ok (.ireturn, 1) := by decide +kernel
theorem dX9_switches_24 : decode cX9_switches 24 = .ok (.iconst 0, 1) := by decide +kernel
theorem dX9_switches_25 : decode cX9_switches 25 = .ok (.istore 6, 2) := by decide +kernel
theorem dX9_switches_27 : decode cX9_switches 27 = .ok (.iconst 0, 1) := by decide +kernel
theorem dX9_switches_28 : decode cX9_switches 28 = .ok (.istore 7, 2) := by decide +kernel
theorem dX9_switches_30 : decode cX9_switches 30 = .ok (.iload 7, 2) := by decide +kernel
theorem dX9_switches_32 : decode cX9_switches 32 = .ok (.aload 5, 2) := by decide +kernel
theorem dX9_switches_34 : decode cX9_switches 34 = .ok (.getfield 176, 3) := by decide +kernel
theorem dX9_switches_37 : decode cX9_switches 37 = .ok (.if_icmp .ge 25, 3) := by decide +kernel
theorem dX9_switches_40 : decode cX9_switches 40 = .ok (.aload 5, 2) := by decide +kernel
theorem dX9_switches_42 : decode cX9_switches 42 = .ok (.iload 7, 2) := by decide +kernel
theorem dX9_switches_44 : decode cX9_switches 44 = .ok (.lload_n 3, 1) := by decide +kernel
theorem dX9_switches_45 : decode cX9_switches 45 = .ok (.invokevirtual 179, 3) := by decide +kernel
theorem dX9_switches_48 : decode cX9_switches 48 = .ok (.lload_n 3, 1) := by decide +kernel
theorem dX9_switches_49 : decode cX9_switches 49 = .ok (.lcmp, 1) := by decide +kernel
theorem dX9_switches_50 : decode cX9_switches 50 = .ok (.ifCond .eq 6, 3) := by decide +kernel
theorem dX9_switches_53 : decode cX9_switches 53 = .ok (.iinc 6 1, 3) := by decide +kernel
theorem dX9_switches_56 : decode cX9_switches 56 = .ok (.iinc 7 1, 3) := by decide +kernel
theorem dX9_switches_59 : decode cX9_switches 59 = .ok (.goto (-29), 3) := by decide +kernel
theorem dX9_switches_62 : decode cX9_switches 62 = .ok (.iload 6, 2) := by decide +kernel
theorem dX9_switches_64 : decode cX9_switches 64 = .ok (.ireturn, 1) := by decide +kernel
def chX9_switched : List (List Cond) := [wsX9_switched_r1, wsX9_switched_r2, wsX9_switched_r3, wsX00, wsX90]
set_option maxRecDepth 20000 in
theorem chX9_switched_in : ∀ c ∈ chX9_switched, ∀ w ∈ c, w ∈ wsX9_switched := (all_c (P := fun c => ∀ w ∈ c, w ∈ wsX9_switched) (fun w h => List.mem_cons_of_mem _ (List.mem_append_left _ (List.mem_append_left _ (List.mem_append_left _ (h))))) (all_c (P := fun c => ∀ w ∈ c, w ∈ wsX9_switched) (fun w h => List.mem_cons_of_mem _ (List.mem_append_left _ (List.mem_append_left _ (List.mem_append_right _ (List.mem_append_left _ (h)))))) (all_c (P := fun c => ∀ w ∈ c, w ∈ wsX9_switched) (fun w h => List.mem_cons_of_mem _ (List.mem_append_left _ (List.mem_append_left _ (List.mem_append_right _ (List.mem_append_right _ (h)))))) (all_c (P := fun c => ∀ w ∈ c, w ∈ wsX9_switched) (fun w h => List.mem_cons_of_mem _ (List.mem_append_left _ (List.mem_append_right _ (h)))) (all_c (P := fun c => ∀ w ∈ c, w ∈ wsX9_switched) (fun w h => List.mem_cons_of_mem _ (List.mem_append_right _ (h))) (fun _ h => nomatch h))))))
set_option maxRecDepth 20000 in
theorem ggX9_switched_X9_boardOf : GoodIn wsX9_switched wsX9_boardOf := goodIn_ca (goodIn_ca (goodIn_c chX9_switched chX9_switched_in _ [(0, 7), (0, 8), (0, 9), (0, 10), (0, 11), (0, 12), (0, 13), (0, 14), (0, 15), (0, 16), (0, 17), (0, 18), (0, 19), (0, 20), (0, 21), (0, 22), (0, 23), (1, 0), (1, 1), (1, 2), (1, 3), (1, 4), (1, 5), (1, 6), (1, 7), (1, 8), (1, 9), (1, 10), (1, 11), (1, 12), (1, 13), (1, 14), (1, 15), (1, 16), (1, 17), (1, 18), (1, 19), (1, 20), (1, 21), (1, 22), (1, 23), (2, 0), (2, 1)] (by rfl) (by decide +kernel)) (goodIn_sub (fun _ h => List.mem_cons_of_mem _ (List.mem_append_right _ (h))) (by decide +kernel))) (goodIn_sub (fun _ h => List.mem_cons_of_mem _ (List.mem_append_left _ (List.mem_append_right _ (h)))) (by decide +kernel))
set_option maxRecDepth 20000 in
theorem gX9_switched_X9_boardOf : GoodIn wsX9_switched (wsV RX9 53 RX9 yX9_boardOf wsX9_boardOf) := goodIn_app (goodIn_c chX9_switched chX9_switched_in _ [(0, 3), (0, 4), (0, 5), (0, 6)] (by rfl) (by decide +kernel)) ggX9_switched_X9_boardOf
set_option maxRecDepth 20000 in
theorem ggX9_switched_X0_isPicture : GoodIn wsX9_switched wsX0_isPicture := goodIn_ca (goodIn_c chX9_switched chX9_switched_in _ [(2, 5), (0, 22)] (by rfl) (by decide +kernel)) (goodIn_sub (fun _ h => List.mem_cons_of_mem _ (List.mem_append_left _ (List.mem_append_right _ (h)))) (by decide +kernel))
set_option maxRecDepth 20000 in
theorem gX9_switched_X0_isPicture : GoodIn wsX9_switched (wsV RX9 80 RX0 yX0_isPicture wsX0_isPicture) := goodIn_app (goodIn_c chX9_switched chX9_switched_in _ [(2, 2), (2, 3), (2, 4), (0, 11)] (by rfl) (by decide +kernel)) ggX9_switched_X0_isPicture
set_option maxRecDepth 20000 in
theorem ggX9_switched_X0_behindFour : GoodIn wsX9_switched wsX0_behindFour := goodIn_ca (goodIn_c chX9_switched chX9_switched_in _ [(2, 9), (1, 0), (1, 1), (1, 2)] (by rfl) (by decide +kernel)) (goodIn_sub (fun _ h => List.mem_cons_of_mem _ (List.mem_append_left _ (List.mem_append_right _ (h)))) (by decide +kernel))
set_option maxRecDepth 20000 in
theorem gX9_switched_X0_behindFour : GoodIn wsX9_switched (wsV RX9 179 RX0 yX0_behindFour wsX0_behindFour) := goodIn_app (goodIn_c chX9_switched chX9_switched_in _ [(2, 6), (2, 7), (2, 8), (0, 11)] (by rfl) (by decide +kernel)) ggX9_switched_X0_behindFour
theorem dX9_switched_0 : decode cX9_switched 0 = .ok (.aload_n 0, 1) := by decide +kernel
theorem dX9_switched_1 : decode cX9_switched 1 = .ok (.iload_n 1, 1) := by decide +kernel
theorem dX9_switched_2 : decode cX9_switched 2 = .ok (.iload_n 2, 1) := by decide +kernel
theorem dX9_switched_3 : decode cX9_switched 3 = .ok (.invokevirtual 53, 3) := by decide +kernel
theorem dX9_switched_6 : decode cX9_switched 6 = .ok (.astore 6, 2) := by decide +kernel
theorem dX9_switched_8 : decode cX9_switched 8 = .ok (.aload 6, 2) := by decide +kernel
theorem dX9_switched_10 : decode cX9_switched 10 = .ok (.ifnull 17, 3) := by decide +kernel
theorem dX9_switched_13 : decode cX9_switched 13 = .ok (.aload 6, 2) := by decide +kernel
theorem dX9_switched_15 : decode cX9_switched 15 = .ok (.lload_n 3, 1) := by decide +kernel
theorem dX9_switched_16 : decode cX9_switched 16 = .ok (.invokevirtual 80, 3) := by decide +kernel
theorem dX9_switched_19 : decode cX9_switched 19 = .ok (.ifCond .eq 8, 3) := by decide +kernel
theorem dX9_switched_22 : decode cX9_switched 22 = .ok (.iload 5, 2) := by decide +kernel
theorem dX9_switched_24 : decode cX9_switched 24 = .ok (.ifCond .ge 7, 3) := by decide +kernel
theorem dX9_switched_27 : decode cX9_switched 27 = .ok (.ldc2_w 143, 3) := by decide +kernel
theorem dX9_switched_30 : decode cX9_switched 30 = .ok (.lreturn, 1) := by decide +kernel
theorem dX9_switched_31 : decode cX9_switched 31 = .ok (.iconst 0, 1) := by decide +kernel
theorem dX9_switched_32 : decode cX9_switched 32 = .ok (.istore 7, 2) := by decide +kernel
theorem dX9_switched_34 : decode cX9_switched 34 = .ok (.iconst 0, 1) := by decide +kernel
theorem dX9_switched_35 : decode cX9_switched 35 = .ok (.istore 8, 2) := by decide +kernel
theorem dX9_switched_37 : decode cX9_switched 37 = .ok (.iload 8, 2) := by decide +kernel
theorem dX9_switched_39 : decode cX9_switched 39 = .ok (.aload 6, 2) := by decide +kernel
theorem dX9_switched_41 : decode cX9_switched 41 = .ok (.getfield 176, 3) := by decide +kernel
theorem dX9_switched_44 : decode cX9_switched 44 = .ok (.if_icmp .ge 39, 3) := by decide +kernel
theorem dX9_switched_47 : decode cX9_switched 47 = .ok (.aload 6, 2) := by decide +kernel
theorem dX9_switched_49 : decode cX9_switched 49 = .ok (.iload 8, 2) := by decide +kernel
theorem dX9_switched_51 : decode cX9_switched 51 = .ok (.lload_n 3, 1) := by decide +kernel
theorem dX9_switched_52 : decode cX9_switched 52 = .ok (.invokevirtual 179, 3) := by decide +kernel
theorem dX9_switched_55 : decode cX9_switched 55 = .ok (.lstore 9, 2) := by decide +kernel
theorem dX9_switched_57 : decode cX9_switched 57 = .ok (.lload 9, 2) := by decide +kernel
theorem dX9_switched_59 : decode cX9_switched 59 = .ok (.lload_n 3, 1) := by decide +kernel
theorem dX9_switched_60 : decode cX9_switched 60 = .ok (.lcmp, 1) := by decide +kernel
theorem dX9_switched_61 : decode cX9_switched 61 = .ok (.ifCond .eq 16, 3) := by decide +kernel
theorem dX9_switched_64 : decode cX9_switched 64 = .ok (.iload 7, 2) := by decide +kernel
theorem dX9_switched_66 : decode cX9_switched 66 = .ok (.iload 5, 2) := by decide +kernel
theorem dX9_switched_68 : decode cX9_switched 68 = .ok (.if_icmp .ne 6, 3) := by decide +kernel
theorem dX9_switched_71 : decode cX9_switched 71 = .ok (.lload 9, 2) := by decide +kernel
theorem dX9_switched_73 : decode cX9_switched 73 = .ok (.lreturn, 1) := by decide +kernel
theorem dX9_switched_74 : decode cX9_switched 74 = .ok (.iinc 7 1, 3) := by decide +kernel
theorem dX9_switched_77 : decode cX9_switched 77 = .ok (.iinc 8 1, 3) := by decide +kernel
theorem dX9_switched_80 : decode cX9_switched 80 = .ok (.goto (-43), 3) := by decide +kernel
theorem dX9_switched_83 : decode cX9_switched 83 = .ok (.ldc2_w 151, 3) := by decide +kernel
theorem dX9_switched_86 : decode cX9_switched 86 = .ok (.lreturn, 1) := by decide +kernel
def chX9_joined : List (List Cond) := [wsX9_joined_r1, wsX9_joined_r2, wsX9_joined_r3, wsX90, wsX00]
set_option maxRecDepth 20000 in
theorem chX9_joined_in : ∀ c ∈ chX9_joined, ∀ w ∈ c, w ∈ wsX9_joined := (all_c (P := fun c => ∀ w ∈ c, w ∈ wsX9_joined) (fun w h => List.mem_cons_of_mem _ (List.mem_append_left _ (List.mem_append_left _ (List.mem_append_left _ (h))))) (all_c (P := fun c => ∀ w ∈ c, w ∈ wsX9_joined) (fun w h => List.mem_cons_of_mem _ (List.mem_append_left _ (List.mem_append_left _ (List.mem_append_right _ (List.mem_append_left _ (h)))))) (all_c (P := fun c => ∀ w ∈ c, w ∈ wsX9_joined) (fun w h => List.mem_cons_of_mem _ (List.mem_append_left _ (List.mem_append_left _ (List.mem_append_right _ (List.mem_append_right _ (h)))))) (all_c (P := fun c => ∀ w ∈ c, w ∈ wsX9_joined) (fun w h => List.mem_cons_of_mem _ (List.mem_append_left _ (List.mem_append_right _ (h)))) (all_c (P := fun c => ∀ w ∈ c, w ∈ wsX9_joined) (fun w h => List.mem_cons_of_mem _ (List.mem_append_right _ (h))) (fun _ h => nomatch h))))))
set_option maxRecDepth 20000 in
theorem ggX9_joined_X9_boardOf : GoodIn wsX9_joined wsX9_boardOf := goodIn_ca (goodIn_ca (goodIn_c chX9_joined chX9_joined_in _ [(0, 4), (0, 5), (0, 6), (0, 7), (0, 8), (0, 9), (0, 10), (0, 11), (0, 12), (0, 13), (0, 14), (0, 15), (0, 16), (0, 17), (0, 18), (0, 19), (0, 20), (0, 21), (0, 22), (0, 23), (1, 0), (1, 1), (1, 2), (1, 3), (1, 4), (1, 5), (1, 6), (1, 7), (1, 8), (1, 9), (1, 10), (1, 11), (1, 12), (1, 13), (1, 14), (1, 15), (1, 16), (1, 17), (1, 18), (1, 19), (1, 20), (1, 21), (1, 22)] (by rfl) (by decide +kernel)) (goodIn_sub (fun _ h => List.mem_cons_of_mem _ (List.mem_append_left _ (List.mem_append_right _ (h)))) (by decide +kernel))) (goodIn_sub (fun _ h => List.mem_cons_of_mem _ (List.mem_append_right _ (h))) (by decide +kernel))
set_option maxRecDepth 20000 in
theorem gX9_joined_X9_boardOf : GoodIn wsX9_joined (wsV RX9 53 RX9 yX9_boardOf wsX9_boardOf) := goodIn_app (goodIn_c chX9_joined chX9_joined_in _ [(0, 0), (0, 1), (0, 2), (0, 3)] (by rfl) (by decide +kernel)) ggX9_joined_X9_boardOf
set_option maxRecDepth 20000 in
theorem ggX9_joined_X0_isPicture : GoodIn wsX9_joined wsX0_isPicture := goodIn_ca (goodIn_c chX9_joined chX9_joined_in _ [(2, 2), (0, 19)] (by rfl) (by decide +kernel)) (goodIn_sub (fun _ h => List.mem_cons_of_mem _ (List.mem_append_right _ (h))) (by decide +kernel))
set_option maxRecDepth 20000 in
theorem gX9_joined_X0_isPicture : GoodIn wsX9_joined (wsV RX9 80 RX0 yX0_isPicture wsX0_isPicture) := goodIn_app (goodIn_c chX9_joined chX9_joined_in _ [(1, 23), (2, 0), (2, 1), (0, 8)] (by rfl) (by decide +kernel)) ggX9_joined_X0_isPicture
set_option maxRecDepth 20000 in
theorem ggX9_joined_X0_hangsTogether : GoodIn wsX9_joined wsX0_hangsTogether := goodIn_ca (goodIn_c chX9_joined chX9_joined_in _ [(2, 6), (0, 16), (0, 17), (0, 19), (2, 7)] (by rfl) (by decide +kernel)) (goodIn_sub (fun _ h => List.mem_cons_of_mem _ (List.mem_append_right _ (h))) (by decide +kernel))
set_option maxRecDepth 20000 in
theorem gX9_joined_X0_hangsTogether : GoodIn wsX9_joined (wsV RX9 194 RX0 yX0_hangsTogether wsX0_hangsTogether) := goodIn_app (goodIn_c chX9_joined chX9_joined_in _ [(2, 3), (2, 4), (2, 5), (0, 8)] (by rfl) (by decide +kernel)) ggX9_joined_X0_hangsTogether
theorem dX9_joined_0 : decode cX9_joined 0 = .ok (.aload_n 0, 1) := by decide +kernel
theorem dX9_joined_1 : decode cX9_joined 1 = .ok (.iload_n 1, 1) := by decide +kernel
theorem dX9_joined_2 : decode cX9_joined 2 = .ok (.iload_n 2, 1) := by decide +kernel
theorem dX9_joined_3 : decode cX9_joined 3 = .ok (.invokevirtual 53, 3) := by decide +kernel
theorem dX9_joined_6 : decode cX9_joined 6 = .ok (.astore 5, 2) := by decide +kernel
theorem dX9_joined_8 : decode cX9_joined 8 = .ok (.aload 5, 2) := by decide +kernel
theorem dX9_joined_10 : decode cX9_joined 10 = .ok (.ifnull 12, 3) := by decide +kernel
theorem dX9_joined_13 : decode cX9_joined 13 = .ok (.aload 5, 2) := by decide +kernel
theorem dX9_joined_15 : decode cX9_joined 15 = .ok (.lload_n 3, 1) := by decide +kernel
theorem dX9_joined_16 : decode cX9_joined 16 = .ok (.invokevirtual 80, 3) := by decide +kernel
theorem dX9_joined_19 : decode cX9_joined 19 = .ok (.ifCond .ne 5, 3) := by decide +kernel
theorem dX9_joined_22 : decode cX9_joined 22 = .ok (.iconst (-1), 1) := by decide +kernel
theorem dX9_joined_23 : decode cX9_joined 23 = .ok (.ireturn, 1) := by decide +kernel
theorem dX9_joined_24 : decode cX9_joined 24 = .ok (.aload 5, 2) := by decide +kernel
theorem dX9_joined_26 : decode cX9_joined 26 = .ok (.lload_n 3, 1) := by decide +kernel
theorem dX9_joined_27 : decode cX9_joined 27 = .ok (.invokevirtual 194, 3) := by decide +kernel
theorem dX9_joined_30 : decode cX9_joined 30 = .ok (.ifCond .eq 7, 3) := by decide +kernel
theorem dX9_joined_33 : decode cX9_joined 33 = .ok (.iconst 1, 1) := by decide +kernel
theorem dX9_joined_34 : decode cX9_joined 34 = .ok (.goto 4, 3) := by decide +kernel
theorem dX9_joined_37 : decode cX9_joined 37 = .ok (.iconst 0, 1) := by decide +kernel
theorem dX9_joined_38 : decode cX9_joined 38 = .ok (.ireturn, 1) := by decide +kernel
def chX9_even : List (List Cond) := [wsX9_even_r1, wsX9_even_r2, wsX9_even_r3, wsX90, wsX00]
set_option maxRecDepth 20000 in
theorem chX9_even_in : ∀ c ∈ chX9_even, ∀ w ∈ c, w ∈ wsX9_even := (all_c (P := fun c => ∀ w ∈ c, w ∈ wsX9_even) (fun w h => List.mem_cons_of_mem _ (List.mem_append_left _ (List.mem_append_left _ (List.mem_append_left _ (h))))) (all_c (P := fun c => ∀ w ∈ c, w ∈ wsX9_even) (fun w h => List.mem_cons_of_mem _ (List.mem_append_left _ (List.mem_append_left _ (List.mem_append_right _ (List.mem_append_left _ (h)))))) (all_c (P := fun c => ∀ w ∈ c, w ∈ wsX9_even) (fun w h => List.mem_cons_of_mem _ (List.mem_append_left _ (List.mem_append_left _ (List.mem_append_right _ (List.mem_append_right _ (h)))))) (all_c (P := fun c => ∀ w ∈ c, w ∈ wsX9_even) (fun w h => List.mem_cons_of_mem _ (List.mem_append_left _ (List.mem_append_right _ (h)))) (all_c (P := fun c => ∀ w ∈ c, w ∈ wsX9_even) (fun w h => List.mem_cons_of_mem _ (List.mem_append_right _ (h))) (fun _ h => nomatch h))))))
set_option maxRecDepth 20000 in
theorem ggX9_even_X9_boardOf : GoodIn wsX9_even wsX9_boardOf := goodIn_ca (goodIn_ca (goodIn_c chX9_even chX9_even_in _ [(0, 4), (0, 5), (0, 6), (0, 7), (0, 8), (0, 9), (0, 10), (0, 11), (0, 12), (0, 13), (0, 14), (0, 15), (0, 16), (0, 17), (0, 18), (0, 19), (0, 20), (0, 21), (0, 22), (0, 23), (1, 0), (1, 1), (1, 2), (1, 3), (1, 4), (1, 5), (1, 6), (1, 7), (1, 8), (1, 9), (1, 10), (1, 11), (1, 12), (1, 13), (1, 14), (1, 15), (1, 16), (1, 17), (1, 18), (1, 19), (1, 20), (1, 21), (1, 22)] (by rfl) (by decide +kernel)) (goodIn_sub (fun _ h => List.mem_cons_of_mem _ (List.mem_append_left _ (List.mem_append_right _ (h)))) (by decide +kernel))) (goodIn_sub (fun _ h => List.mem_cons_of_mem _ (List.mem_append_right _ (h))) (by decide +kernel))
set_option maxRecDepth 20000 in
theorem gX9_even_X9_boardOf : GoodIn wsX9_even (wsV RX9 53 RX9 yX9_boardOf wsX9_boardOf) := goodIn_app (goodIn_c chX9_even chX9_even_in _ [(0, 0), (0, 1), (0, 2), (0, 3)] (by rfl) (by decide +kernel)) ggX9_even_X9_boardOf
set_option maxRecDepth 20000 in
theorem ggX9_even_X0_isPicture : GoodIn wsX9_even wsX0_isPicture := goodIn_ca (goodIn_c chX9_even chX9_even_in _ [(2, 2), (0, 19)] (by rfl) (by decide +kernel)) (goodIn_sub (fun _ h => List.mem_cons_of_mem _ (List.mem_append_right _ (h))) (by decide +kernel))
set_option maxRecDepth 20000 in
theorem gX9_even_X0_isPicture : GoodIn wsX9_even (wsV RX9 80 RX0 yX0_isPicture wsX0_isPicture) := goodIn_app (goodIn_c chX9_even chX9_even_in _ [(1, 23), (2, 0), (2, 1), (0, 8)] (by rfl) (by decide +kernel)) ggX9_even_X0_isPicture
set_option maxRecDepth 20000 in
theorem ggX9_even_X0_columnsAreWhole : GoodIn wsX9_even wsX0_columnsAreWhole := goodIn_ca (goodIn_c chX9_even chX9_even_in _ [(2, 6), (0, 18), (2, 7), (2, 8), (2, 9), (0, 8), (2, 10), (0, 17), (0, 20)] (by rfl) (by decide +kernel)) (goodIn_sub (fun _ h => List.mem_cons_of_mem _ (List.mem_append_right _ (h))) (by decide +kernel))
set_option maxRecDepth 20000 in
theorem gX9_even_X0_columnsAreWhole : GoodIn wsX9_even (wsV RX9 197 RX0 yX0_columnsAreWhole wsX0_columnsAreWhole) := goodIn_app (goodIn_c chX9_even chX9_even_in _ [(2, 3), (2, 4), (2, 5), (0, 8)] (by rfl) (by decide +kernel)) ggX9_even_X0_columnsAreWhole
set_option maxRecDepth 20000 in
theorem ggX9_even_X0_rowsAreWhole : GoodIn wsX9_even wsX0_rowsAreWhole := goodIn_ca (goodIn_c chX9_even chX9_even_in _ [(2, 14), (0, 18), (2, 7), (2, 8), (2, 9), (0, 8), (2, 10), (0, 17), (0, 20)] (by rfl) (by decide +kernel)) (goodIn_sub (fun _ h => List.mem_cons_of_mem _ (List.mem_append_right _ (h))) (by decide +kernel))
set_option maxRecDepth 20000 in
theorem gX9_even_X0_rowsAreWhole : GoodIn wsX9_even (wsV RX9 200 RX0 yX0_rowsAreWhole wsX0_rowsAreWhole) := goodIn_app (goodIn_c chX9_even chX9_even_in _ [(2, 11), (2, 12), (2, 13), (0, 8)] (by rfl) (by decide +kernel)) ggX9_even_X0_rowsAreWhole
theorem dX9_even_0 : decode cX9_even 0 = .ok (.aload_n 0, 1) := by decide +kernel
theorem dX9_even_1 : decode cX9_even 1 = .ok (.iload_n 1, 1) := by decide +kernel
theorem dX9_even_2 : decode cX9_even 2 = .ok (.iload_n 2, 1) := by decide +kernel
theorem dX9_even_3 : decode cX9_even 3 = .ok (.invokevirtual 53, 3) := by decide +kernel
theorem dX9_even_6 : decode cX9_even 6 = .ok (.astore 6, 2) := by decide +kernel
theorem dX9_even_8 : decode cX9_even 8 = .ok (.aload 6, 2) := by decide +kernel
theorem dX9_even_10 : decode cX9_even 10 = .ok (.ifnull 12, 3) := by decide +kernel
theorem dX9_even_13 : decode cX9_even 13 = .ok (.aload 6, 2) := by decide +kernel
theorem dX9_even_15 : decode cX9_even 15 = .ok (.lload_n 3, 1) := by decide +kernel
theorem dX9_even_16 : decode cX9_even 16 = .ok (.invokevirtual 80, 3) := by decide +kernel
theorem dX9_even_19 : decode cX9_even 19 = .ok (.ifCond .ne 5, 3) := by decide +kernel
theorem dX9_even_22 : decode cX9_even 22 = .ok (.iconst (-1), 1) := by decide +kernel
theorem dX9_even_23 : decode cX9_even 23 = .ok (.ireturn, 1) := by decide +kernel
theorem dX9_even_24 : decode cX9_even 24 = .ok (.iload 5, 2) := by decide +kernel
theorem dX9_even_26 : decode cX9_even 26 = .ok (.ifCond .eq 12, 3) := by decide +kernel
theorem dX9_even_29 : decode cX9_even 29 = .ok (.aload 6, 2) := by decide +kernel
theorem dX9_even_31 : decode cX9_even 31 = .ok (.lload_n 3, 1) := by decide +kernel
theorem dX9_even_32 : decode cX9_even 32 = .ok (.invokevirtual 197, 3) := by decide +kernel
theorem dX9_even_35 : decode cX9_even 35 = .ok (.goto 9, 3) := by decide +kernel
theorem dX9_even_38 : decode cX9_even 38 = .ok (.aload 6, 2) := by decide +kernel
theorem dX9_even_40 : decode cX9_even 40 = .ok (.lload_n 3, 1) := by decide +kernel
theorem dX9_even_41 : decode cX9_even 41 = .ok (.invokevirtual 200, 3) := by decide +kernel
theorem dX9_even_44 : decode cX9_even 44 = .ok (.istore 7, 2) := by decide +kernel
theorem dX9_even_46 : decode cX9_even 46 = .ok (.iload 7, 2) := by decide +kernel
theorem dX9_even_48 : decode cX9_even 48 = .ok (.ifCond .eq 7, 3) := by decide +kernel
theorem dX9_even_51 : decode cX9_even 51 = .ok (.iconst 1, 1) := by decide +kernel
theorem dX9_even_52 : decode cX9_even 52 = .ok (.goto 4, 3) := by decide +kernel
theorem dX9_even_55 : decode cX9_even 55 = .ok (.iconst 0, 1) := by decide +kernel
theorem dX9_even_56 : decode cX9_even 56 = .ok (.ireturn, 1) := by decide +kernel
def chX9_turned : List (List Cond) := [wsX9_turned_r1, wsX9_turned_r2, wsX9_turned_r3, wsX90, wsX00]
set_option maxRecDepth 20000 in
theorem chX9_turned_in : ∀ c ∈ chX9_turned, ∀ w ∈ c, w ∈ wsX9_turned := (all_c (P := fun c => ∀ w ∈ c, w ∈ wsX9_turned) (fun w h => List.mem_cons_of_mem _ (List.mem_append_left _ (List.mem_append_left _ (List.mem_append_left _ (h))))) (all_c (P := fun c => ∀ w ∈ c, w ∈ wsX9_turned) (fun w h => List.mem_cons_of_mem _ (List.mem_append_left _ (List.mem_append_left _ (List.mem_append_right _ (List.mem_append_left _ (h)))))) (all_c (P := fun c => ∀ w ∈ c, w ∈ wsX9_turned) (fun w h => List.mem_cons_of_mem _ (List.mem_append_left _ (List.mem_append_left _ (List.mem_append_right _ (List.mem_append_right _ (h)))))) (all_c (P := fun c => ∀ w ∈ c, w ∈ wsX9_turned) (fun w h => List.mem_cons_of_mem _ (List.mem_append_left _ (List.mem_append_right _ (h)))) (all_c (P := fun c => ∀ w ∈ c, w ∈ wsX9_turned) (fun w h => List.mem_cons_of_mem _ (List.mem_append_right _ (h))) (fun _ h => nomatch h))))))
set_option maxRecDepth 20000 in
theorem ggX9_turned_X9_boardOf : GoodIn wsX9_turned wsX9_boardOf := goodIn_ca (goodIn_ca (goodIn_c chX9_turned chX9_turned_in _ [(0, 5), (0, 6), (0, 7), (0, 8), (0, 9), (0, 10), (0, 11), (0, 12), (0, 13), (0, 14), (0, 15), (0, 16), (0, 17), (0, 18), (0, 19), (0, 20), (0, 21), (0, 22), (0, 23), (1, 0), (1, 1), (1, 2), (1, 3), (1, 4), (1, 5), (1, 6), (1, 7), (1, 8), (1, 9), (1, 10), (1, 11), (1, 12), (1, 13), (1, 14), (1, 15), (1, 16), (1, 17), (1, 18), (1, 19), (1, 20), (1, 21), (1, 22), (1, 23)] (by rfl) (by decide +kernel)) (goodIn_sub (fun _ h => List.mem_cons_of_mem _ (List.mem_append_left _ (List.mem_append_right _ (h)))) (by decide +kernel))) (goodIn_sub (fun _ h => List.mem_cons_of_mem _ (List.mem_append_right _ (h))) (by decide +kernel))
set_option maxRecDepth 20000 in
theorem gX9_turned_X9_boardOf : GoodIn wsX9_turned (wsV RX9 53 RX9 yX9_boardOf wsX9_boardOf) := goodIn_app (goodIn_c chX9_turned chX9_turned_in _ [(0, 1), (0, 2), (0, 3), (0, 4)] (by rfl) (by decide +kernel)) ggX9_turned_X9_boardOf
set_option maxRecDepth 20000 in
theorem ggX9_turned_X0_isPicture : GoodIn wsX9_turned wsX0_isPicture := goodIn_ca (goodIn_c chX9_turned chX9_turned_in _ [(2, 3), (0, 20)] (by rfl) (by decide +kernel)) (goodIn_sub (fun _ h => List.mem_cons_of_mem _ (List.mem_append_right _ (h))) (by decide +kernel))
set_option maxRecDepth 20000 in
theorem gX9_turned_X0_isPicture : GoodIn wsX9_turned (wsV RX9 80 RX0 yX0_isPicture wsX0_isPicture) := goodIn_app (goodIn_c chX9_turned chX9_turned_in _ [(2, 0), (2, 1), (2, 2), (0, 9)] (by rfl) (by decide +kernel)) ggX9_turned_X0_isPicture
set_option maxRecDepth 20000 in
theorem ggX9_turned_X0_turnedPicture : GoodIn wsX9_turned wsX0_turnedPicture := goodIn_ca (goodIn_c chX9_turned chX9_turned_in _ [(2, 7), (2, 8), (0, 20), (0, 19), (0, 18), (1, 12), (1, 13), (1, 14), (0, 9), (1, 15), (2, 9), (2, 10), (2, 11), (2, 12)] (by rfl) (by decide +kernel)) (goodIn_sub (fun _ h => List.mem_cons_of_mem _ (List.mem_append_right _ (h))) (by decide +kernel))
set_option maxRecDepth 20000 in
theorem gX9_turned_X0_turnedPicture : GoodIn wsX9_turned (wsV RX9 203 RX0 yX0_turnedPicture wsX0_turnedPicture) := goodIn_app (goodIn_c chX9_turned chX9_turned_in _ [(2, 4), (2, 5), (2, 6), (0, 9)] (by rfl) (by decide +kernel)) ggX9_turned_X0_turnedPicture
theorem dX9_turned_0 : decode cX9_turned 0 = .ok (.aload_n 0, 1) := by decide +kernel
theorem dX9_turned_1 : decode cX9_turned 1 = .ok (.iload_n 1, 1) := by decide +kernel
theorem dX9_turned_2 : decode cX9_turned 2 = .ok (.iload_n 2, 1) := by decide +kernel
theorem dX9_turned_3 : decode cX9_turned 3 = .ok (.invokevirtual 53, 3) := by decide +kernel
theorem dX9_turned_6 : decode cX9_turned 6 = .ok (.astore 6, 2) := by decide +kernel
theorem dX9_turned_8 : decode cX9_turned 8 = .ok (.aload 6, 2) := by decide +kernel
theorem dX9_turned_10 : decode cX9_turned 10 = .ok (.ifnull 23, 3) := by decide +kernel
theorem dX9_turned_13 : decode cX9_turned 13 = .ok (.aload 6, 2) := by decide +kernel
theorem dX9_turned_15 : decode cX9_turned 15 = .ok (.lload_n 3, 1) := by decide +kernel
theorem dX9_turned_16 : decode cX9_turned 16 = .ok (.invokevirtual 80, 3) := by decide +kernel
theorem dX9_turned_19 : decode cX9_turned 19 = .ok (.ifCond .eq 14, 3) := by decide +kernel
theorem dX9_turned_22 : decode cX9_turned 22 = .ok (.iload 5, 2) := by decide +kernel
theorem dX9_turned_24 : decode cX9_turned 24 = .ok (.ifCond .lt 9, 3) := by decide +kernel
theorem dX9_turned_27 : decode cX9_turned 27 = .ok (.iload 5, 2) := by decide +kernel
theorem dX9_turned_29 : decode cX9_turned 29 = .ok (.iconst 3, 1) := by decide +kernel
theorem dX9_turned_30 : decode cX9_turned 30 = .ok (.if_icmp .le 7, 3) := by decide +kernel
theorem dX9_turned_33 : decode cX9_turned 33 = .ok (.ldc2_w 143, 3) := by decide +kernel
theorem dX9_turned_36 : decode cX9_turned 36 = .ok (.lreturn, 1) := by decide +kernel
theorem dX9_turned_37 : decode cX9_turned 37 = .ok (.aload 6, 2) := by decide +kernel
theorem dX9_turned_39 : decode cX9_turned 39 = .ok (.lload_n 3, 1) := by decide +kernel
theorem dX9_turned_40 : decode cX9_turned 40 = .ok (.iload 5, 2) := by decide +kernel
theorem dX9_turned_42 : decode cX9_turned 42 = .ok (.invokevirtual 203, 3) := by decide +kernel
theorem dX9_turned_45 : decode cX9_turned 45 = .ok (.lreturn, 1) := by decide +kernel
def chX9_parts : List (List Cond) := [wsX9_parts_r1, wsX9_parts_r2, wsX9_parts_r3, wsX9_parts_r4, wsX90, wsX00]
set_option maxRecDepth 20000 in
theorem chX9_parts_in : ∀ c ∈ chX9_parts, ∀ w ∈ c, w ∈ wsX9_parts := (all_c (P := fun c => ∀ w ∈ c, w ∈ wsX9_parts) (fun w h => List.mem_cons_of_mem _ (List.mem_append_left _ (List.mem_append_left _ (List.mem_append_left _ (h))))) (all_c (P := fun c => ∀ w ∈ c, w ∈ wsX9_parts) (fun w h => List.mem_cons_of_mem _ (List.mem_append_left _ (List.mem_append_left _ (List.mem_append_right _ (List.mem_append_left _ (h)))))) (all_c (P := fun c => ∀ w ∈ c, w ∈ wsX9_parts) (fun w h => List.mem_cons_of_mem _ (List.mem_append_left _ (List.mem_append_left _ (List.mem_append_right _ (List.mem_append_right _ (List.mem_append_left _ (h))))))) (all_c (P := fun c => ∀ w ∈ c, w ∈ wsX9_parts) (fun w h => List.mem_cons_of_mem _ (List.mem_append_left _ (List.mem_append_left _ (List.mem_append_right _ (List.mem_append_right _ (List.mem_append_right _ (h))))))) (all_c (P := fun c => ∀ w ∈ c, w ∈ wsX9_parts) (fun w h => List.mem_cons_of_mem _ (List.mem_append_left _ (List.mem_append_right _ (h)))) (all_c (P := fun c => ∀ w ∈ c, w ∈ wsX9_parts) (fun w h => List.mem_cons_of_mem _ (List.mem_append_right _ (h))) (fun _ h => nomatch h)))))))
set_option maxRecDepth 20000 in
theorem ggX9_parts_X9_boardOf : GoodIn wsX9_parts wsX9_boardOf := goodIn_ca (goodIn_ca (goodIn_c chX9_parts chX9_parts_in _ [(0, 4), (0, 5), (0, 6), (0, 7), (0, 8), (0, 9), (0, 10), (0, 11), (0, 12), (0, 13), (0, 14), (0, 15), (0, 16), (0, 17), (0, 18), (0, 19), (0, 20), (0, 21), (0, 22), (0, 23), (1, 0), (1, 1), (1, 2), (1, 3), (1, 4), (1, 5), (1, 6), (1, 7), (1, 8), (1, 9), (1, 10), (1, 11), (1, 12), (1, 13), (1, 14), (1, 15), (1, 16), (1, 17), (1, 18), (1, 19), (1, 20), (1, 21), (1, 22)] (by rfl) (by decide +kernel)) (goodIn_sub (fun _ h => List.mem_cons_of_mem _ (List.mem_append_left _ (List.mem_append_right _ (h)))) (by decide +kernel))) (goodIn_sub (fun _ h => List.mem_cons_of_mem _ (List.mem_append_right _ (h))) (by decide +kernel))
set_option maxRecDepth 20000 in
theorem gX9_parts_X9_boardOf : GoodIn wsX9_parts (wsV RX9 53 RX9 yX9_boardOf wsX9_boardOf) := goodIn_app (goodIn_c chX9_parts chX9_parts_in _ [(0, 0), (0, 1), (0, 2), (0, 3)] (by rfl) (by decide +kernel)) ggX9_parts_X9_boardOf
set_option maxRecDepth 20000 in
theorem ggX9_parts_X0_isPicture : GoodIn wsX9_parts wsX0_isPicture := goodIn_ca (goodIn_c chX9_parts chX9_parts_in _ [(2, 2), (0, 19)] (by rfl) (by decide +kernel)) (goodIn_sub (fun _ h => List.mem_cons_of_mem _ (List.mem_append_right _ (h))) (by decide +kernel))
set_option maxRecDepth 20000 in
theorem gX9_parts_X0_isPicture : GoodIn wsX9_parts (wsV RX9 80 RX0 yX0_isPicture wsX0_isPicture) := goodIn_app (goodIn_c chX9_parts chX9_parts_in _ [(1, 23), (2, 0), (2, 1), (0, 8)] (by rfl) (by decide +kernel)) ggX9_parts_X0_isPicture
set_option maxRecDepth 20000 in
theorem ggX9_parts_X0_firstUnlikeWay : GoodIn wsX9_parts wsX0_firstUnlikeWay := goodIn_ca (goodIn_c chX9_parts chX9_parts_in _ [(2, 6), (2, 7), (2, 8), (2, 9), (0, 8), (2, 10), (2, 11), (2, 12), (2, 13), (2, 14), (0, 18), (0, 17), (2, 15), (2, 16), (2, 17), (2, 18), (0, 16), (2, 19), (2, 20), (2, 21), (2, 22), (2, 23), (3, 0), (3, 1)] (by rfl) (by decide +kernel)) (goodIn_sub (fun _ h => List.mem_cons_of_mem _ (List.mem_append_right _ (h))) (by decide +kernel))
set_option maxRecDepth 20000 in
theorem gX9_parts_X0_firstUnlikeWay : GoodIn wsX9_parts (wsV RX9 183 RX0 yX0_firstUnlikeWay wsX0_firstUnlikeWay) := goodIn_app (goodIn_c chX9_parts chX9_parts_in _ [(2, 3), (2, 4), (2, 5), (0, 8)] (by rfl) (by decide +kernel)) ggX9_parts_X0_firstUnlikeWay
theorem dX9_parts_0 : decode cX9_parts 0 = .ok (.aload_n 0, 1) := by decide +kernel
theorem dX9_parts_1 : decode cX9_parts 1 = .ok (.iload_n 1, 1) := by decide +kernel
theorem dX9_parts_2 : decode cX9_parts 2 = .ok (.iload_n 2, 1) := by decide +kernel
theorem dX9_parts_3 : decode cX9_parts 3 = .ok (.invokevirtual 53, 3) := by decide +kernel
theorem dX9_parts_6 : decode cX9_parts 6 = .ok (.astore 8, 2) := by decide +kernel
theorem dX9_parts_8 : decode cX9_parts 8 = .ok (.aload 8, 2) := by decide +kernel
theorem dX9_parts_10 : decode cX9_parts 10 = .ok (.ifnull 34, 3) := by decide +kernel
theorem dX9_parts_13 : decode cX9_parts 13 = .ok (.aload 8, 2) := by decide +kernel
theorem dX9_parts_15 : decode cX9_parts 15 = .ok (.lload_n 3, 1) := by decide +kernel
theorem dX9_parts_16 : decode cX9_parts 16 = .ok (.invokevirtual 80, 3) := by decide +kernel
theorem dX9_parts_19 : decode cX9_parts 19 = .ok (.ifCond .eq 25, 3) := by decide +kernel
theorem dX9_parts_22 : decode cX9_parts 22 = .ok (.aload 8, 2) := by decide +kernel
theorem dX9_parts_24 : decode cX9_parts 24 = .ok (.lload 5, 2) := by decide +kernel
theorem dX9_parts_26 : decode cX9_parts 26 = .ok (.invokevirtual 80, 3) := by decide +kernel
theorem dX9_parts_29 : decode cX9_parts 29 = .ok (.ifCond .eq 15, 3) := by decide +kernel
theorem dX9_parts_32 : decode cX9_parts 32 = .ok (.iload 7, 2) := by decide +kernel
theorem dX9_parts_34 : decode cX9_parts 34 = .ok (.ifCond .lt 10, 3) := by decide +kernel
theorem dX9_parts_37 : decode cX9_parts 37 = .ok (.iload 7, 2) := by decide +kernel
theorem dX9_parts_39 : decode cX9_parts 39 = .ok (.bipush 16, 2) := by decide +kernel
theorem dX9_parts_41 : decode cX9_parts 41 = .ok (.if_icmp .lt 5, 3) := by decide +kernel
theorem dX9_parts_44 : decode cX9_parts 44 = .ok (.iconst (-1), 1) := by decide +kernel
theorem dX9_parts_45 : decode cX9_parts 45 = .ok (.ireturn, 1) := by decide +kernel
theorem dX9_parts_46 : decode cX9_parts 46 = .ok (.aload 8, 2) := by decide +kernel
theorem dX9_parts_48 : decode cX9_parts 48 = .ok (.lload_n 3, 1) := by decide +kernel
theorem dX9_parts_49 : decode cX9_parts 49 = .ok (.lload 5, 2) := by decide +kernel
theorem dX9_parts_51 : decode cX9_parts 51 = .ok (.iload 7, 2) := by decide +kernel
theorem dX9_parts_53 : decode cX9_parts 53 = .ok (.invokevirtual 183, 3) := by decide +kernel
theorem dX9_parts_56 : decode cX9_parts 56 = .ok (.istore 9, 2) := by decide +kernel
theorem dX9_parts_58 : decode cX9_parts 58 = .ok (.iload 9, 2) := by decide +kernel
theorem dX9_parts_60 : decode cX9_parts 60 = .ok (.ifCond .ge 8, 3) := by decide +kernel
theorem dX9_parts_63 : decode cX9_parts 63 = .ok (.bipush (-2), 2) := by decide +kernel
theorem dX9_parts_65 : decode cX9_parts 65 = .ok (.goto 5, 3) := by decide +kernel
theorem dX9_parts_68 : decode cX9_parts 68 = .ok (.iload 9, 2) := by decide +kernel
theorem dX9_parts_70 : decode cX9_parts 70 = .ok (.ireturn, 1) := by decide +kernel
set_option maxRecDepth 20000 in
theorem ggX9_ways_J6_bitCount_0f7a4 : GoodIn wsX9_ways wsJ6_bitCount_0f7a4 := goodIn_r _ [4, 5, 6, 7] (by decide +kernel) (by decide +kernel)
def chX9_ways : List (List Cond) := [wsX9_ways_r1, wsX9_ways_r2, wsX90, wsX00]
set_option maxRecDepth 20000 in
theorem chX9_ways_in : ∀ c ∈ chX9_ways, ∀ w ∈ c, w ∈ wsX9_ways := (all_c (P := fun c => ∀ w ∈ c, w ∈ wsX9_ways) (fun w h => List.mem_cons_of_mem _ (List.mem_append_left _ (List.mem_append_left _ (List.mem_append_left _ (h))))) (all_c (P := fun c => ∀ w ∈ c, w ∈ wsX9_ways) (fun w h => List.mem_cons_of_mem _ (List.mem_append_left _ (List.mem_append_left _ (List.mem_append_right _ (h))))) (all_c (P := fun c => ∀ w ∈ c, w ∈ wsX9_ways) (fun w h => List.mem_cons_of_mem _ (List.mem_append_left _ (List.mem_append_right _ (h)))) (all_c (P := fun c => ∀ w ∈ c, w ∈ wsX9_ways) (fun w h => List.mem_cons_of_mem _ (List.mem_append_right _ (h))) (fun _ h => nomatch h)))))
set_option maxRecDepth 20000 in
theorem gX9_ways_J6_bitCount_0f7a4 : GoodIn wsX9_ways (va_wsS RX9 213 yJ6_bitCount_0f7a4 wsJ6_bitCount_0f7a4) := goodIn_app (goodIn_c chX9_ways chX9_ways_in _ [(0, 0), (0, 1), (0, 2)] (by rfl) (by decide +kernel)) ggX9_ways_J6_bitCount_0f7a4
set_option maxRecDepth 20000 in
theorem ggX9_ways_X9_tellsListApart : GoodIn wsX9_ways wsX9_tellsListApart := goodIn_ca (goodIn_ca (goodIn_c chX9_ways chX9_ways_in _ [(0, 11), (0, 12), (0, 13), (0, 14), (0, 15), (0, 16), (0, 17), (0, 18), (0, 19), (0, 20), (0, 21), (0, 22), (0, 23), (1, 0), (1, 1), (1, 2), (1, 3), (1, 4), (1, 5), (1, 6), (1, 7), (1, 8), (1, 9), (1, 10), (1, 11), (1, 12), (1, 13), (1, 14), (1, 15), (1, 16), (1, 17)] (by rfl) (by decide +kernel)) (goodIn_sub (fun _ h => List.mem_cons_of_mem _ (List.mem_append_left _ (List.mem_append_right _ (h)))) (by decide +kernel))) (goodIn_sub (fun _ h => List.mem_cons_of_mem _ (List.mem_append_right _ (h))) (by decide +kernel))
set_option maxRecDepth 20000 in
theorem gX9_ways_X9_tellsListApart : GoodIn wsX9_ways (wsV RX9 217 RX9 yX9_tellsListApart wsX9_tellsListApart) := goodIn_app (goodIn_c chX9_ways chX9_ways_in _ [(0, 7), (0, 8), (0, 9), (0, 10)] (by rfl) (by decide +kernel)) ggX9_ways_X9_tellsListApart
theorem dX9_ways_0 : decode cX9_ways 0 = .ok (.iconst 0, 1) := by decide +kernel
theorem dX9_ways_1 : decode cX9_ways 1 = .ok (.istore_n 1, 1) := by decide +kernel
theorem dX9_ways_2 : decode cX9_ways 2 = .ok (.iload_n 1, 1) := by decide +kernel
theorem dX9_ways_3 : decode cX9_ways 3 = .ok (.iconst 4, 1) := by decide +kernel
theorem dX9_ways_4 : decode cX9_ways 4 = .ok (.if_icmp .gt 41, 3) := by decide +kernel
theorem dX9_ways_7 : decode cX9_ways 7 = .ok (.iconst 0, 1) := by decide +kernel
theorem dX9_ways_8 : decode cX9_ways 8 = .ok (.istore_n 2, 1) := by decide +kernel
theorem dX9_ways_9 : decode cX9_ways 9 = .ok (.iload_n 2, 1) := by decide +kernel
theorem dX9_ways_10 : decode cX9_ways 10 = .ok (.bipush 16, 2) := by decide +kernel
theorem dX9_ways_12 : decode cX9_ways 12 = .ok (.if_icmp .ge 27, 3) := by decide +kernel
theorem dX9_ways_15 : decode cX9_ways 15 = .ok (.iload_n 2, 1) := by decide +kernel
theorem dX9_ways_16 : decode cX9_ways 16 = .ok (.invokestatic 213, 3) := by decide +kernel
theorem dX9_ways_19 : decode cX9_ways 19 = .ok (.iload_n 1, 1) := by decide +kernel
theorem dX9_ways_20 : decode cX9_ways 20 = .ok (.if_icmp .ne 13, 3) := by decide +kernel
theorem dX9_ways_23 : decode cX9_ways 23 = .ok (.aload_n 0, 1) := by decide +kernel
theorem dX9_ways_24 : decode cX9_ways 24 = .ok (.iload_n 2, 1) := by decide +kernel
theorem dX9_ways_25 : decode cX9_ways 25 = .ok (.invokevirtual 217, 3) := by decide +kernel
theorem dX9_ways_28 : decode cX9_ways 28 = .ok (.ifCond .eq 5, 3) := by decide +kernel
theorem dX9_ways_31 : decode cX9_ways 31 = .ok (.iload_n 2, 1) := by decide +kernel
theorem dX9_ways_32 : decode cX9_ways 32 = .ok (.ireturn, 1) := by decide +kernel
theorem dX9_ways_33 : decode cX9_ways 33 = .ok (.iinc 2 1, 3) := by decide +kernel
theorem dX9_ways_36 : decode cX9_ways 36 = .ok (.goto (-27), 3) := by decide +kernel
theorem dX9_ways_39 : decode cX9_ways 39 = .ok (.iinc 1 1, 3) := by decide +kernel
theorem dX9_ways_42 : decode cX9_ways 42 = .ok (.goto (-40), 3) := by decide +kernel
theorem dX9_ways_45 : decode cX9_ways 45 = .ok (.bipush (-2), 2) := by decide +kernel
theorem dX9_ways_47 : decode cX9_ways 47 = .ok (.ireturn, 1) := by decide +kernel
set_option maxRecDepth 20000 in
theorem ggX9_keep_X9_isShelf : GoodIn wsX9_keep wsX9_isShelf := goodIn_r _ [5] (by decide +kernel) (by decide +kernel)
def chX9_keep : List (List Cond) := [wsX9_keep_r1, wsX9_keep_r2, wsX9_keep_r3, wsX9_keep_r4, wsX9_keep_r5, wsX9_keep_r6, wsX90, wsX10, wsX30, wsX40, wsX50, wsX00, wsX70]
set_option maxRecDepth 20000 in
theorem chX9_keep_in : ∀ c ∈ chX9_keep, ∀ w ∈ c, w ∈ wsX9_keep := (all_c (P := fun c => ∀ w ∈ c, w ∈ wsX9_keep) (fun w h => List.mem_cons_of_mem _ (List.mem_append_left _ (List.mem_append_left _ (List.mem_append_left _ (List.mem_append_left _ (List.mem_append_left _ (List.mem_append_left _ (List.mem_append_left _ (List.mem_append_left _ (h)))))))))) (all_c (P := fun c => ∀ w ∈ c, w ∈ wsX9_keep) (fun w h => List.mem_cons_of_mem _ (List.mem_append_left _ (List.mem_append_left _ (List.mem_append_left _ (List.mem_append_left _ (List.mem_append_left _ (List.mem_append_left _ (List.mem_append_left _ (List.mem_append_right _ (List.mem_append_left _ (h))))))))))) (all_c (P := fun c => ∀ w ∈ c, w ∈ wsX9_keep) (fun w h => List.mem_cons_of_mem _ (List.mem_append_left _ (List.mem_append_left _ (List.mem_append_left _ (List.mem_append_left _ (List.mem_append_left _ (List.mem_append_left _ (List.mem_append_left _ (List.mem_append_right _ (List.mem_append_right _ (List.mem_append_left _ (h)))))))))))) (all_c (P := fun c => ∀ w ∈ c, w ∈ wsX9_keep) (fun w h => List.mem_cons_of_mem _ (List.mem_append_left _ (List.mem_append_left _ (List.mem_append_left _ (List.mem_append_left _ (List.mem_append_left _ (List.mem_append_left _ (List.mem_append_left _ (List.mem_append_right _ (List.mem_append_right _ (List.mem_append_right _ (List.mem_append_left _ (h))))))))))))) (all_c (P := fun c => ∀ w ∈ c, w ∈ wsX9_keep) (fun w h => List.mem_cons_of_mem _ (List.mem_append_left _ (List.mem_append_left _ (List.mem_append_left _ (List.mem_append_left _ (List.mem_append_left _ (List.mem_append_left _ (List.mem_append_left _ (List.mem_append_right _ (List.mem_append_right _ (List.mem_append_right _ (List.mem_append_right _ (List.mem_append_left _ (h)))))))))))))) (all_c (P := fun c => ∀ w ∈ c, w ∈ wsX9_keep) (fun w h => List.mem_cons_of_mem _ (List.mem_append_left _ (List.mem_append_left _ (List.mem_append_left _ (List.mem_append_left _ (List.mem_append_left _ (List.mem_append_left _ (List.mem_append_left _ (List.mem_append_right _ (List.mem_append_right _ (List.mem_append_right _ (List.mem_append_right _ (List.mem_append_right _ (h)))))))))))))) (all_c (P := fun c => ∀ w ∈ c, w ∈ wsX9_keep) (fun w h => List.mem_cons_of_mem _ (List.mem_append_left _ (List.mem_append_left _ (List.mem_append_left _ (List.mem_append_left _ (List.mem_append_left _ (List.mem_append_left _ (List.mem_append_right _ (h))))))))) (all_c (P := fun c => ∀ w ∈ c, w ∈ wsX9_keep) (fun w h => List.mem_cons_of_mem _ (List.mem_append_left _ (List.mem_append_left _ (List.mem_append_left _ (List.mem_append_left _ (List.mem_append_left _ (List.mem_append_right _ (h)))))))) (all_c (P := fun c => ∀ w ∈ c, w ∈ wsX9_keep) (fun w h => List.mem_cons_of_mem _ (List.mem_append_left _ (List.mem_append_left _ (List.mem_append_left _ (List.mem_append_left _ (List.mem_append_right _ (h))))))) (all_c (P := fun c => ∀ w ∈ c, w ∈ wsX9_keep) (fun w h => List.mem_cons_of_mem _ (List.mem_append_left _ (List.mem_append_left _ (List.mem_append_left _ (List.mem_append_right _ (h)))))) (all_c (P := fun c => ∀ w ∈ c, w ∈ wsX9_keep) (fun w h => List.mem_cons_of_mem _ (List.mem_append_left _ (List.mem_append_left _ (List.mem_append_right _ (h))))) (all_c (P := fun c => ∀ w ∈ c, w ∈ wsX9_keep) (fun w h => List.mem_cons_of_mem _ (List.mem_append_left _ (List.mem_append_right _ (h)))) (all_c (P := fun c => ∀ w ∈ c, w ∈ wsX9_keep) (fun w h => List.mem_cons_of_mem _ (List.mem_append_right _ (h))) (fun _ h => nomatch h))))))))))))))
set_option maxRecDepth 20000 in
theorem gX9_keep_X9_isShelf : GoodIn wsX9_keep (va_wsS RX9 238 yX9_isShelf wsX9_isShelf) := goodIn_app (goodIn_c chX9_keep chX9_keep_in _ [(0, 1), (0, 2), (0, 3)] (by rfl) (by decide +kernel)) ggX9_keep_X9_isShelf
set_option maxRecDepth 20000 in
theorem ggX9_keep_X9_jobOf : GoodIn wsX9_keep wsX9_jobOf := goodIn_ca (goodIn_c chX9_keep chX9_keep_in _ [(0, 8), (0, 9), (0, 10)] (by rfl) (by decide +kernel)) (goodIn_sub (fun _ h => List.mem_cons_of_mem _ (List.mem_append_left _ (List.mem_append_left _ (List.mem_append_left _ (List.mem_append_left _ (List.mem_append_left _ (List.mem_append_left _ (List.mem_append_right _ (h))))))))) (by decide +kernel))
set_option maxRecDepth 20000 in
theorem gX9_keep_X9_jobOf : GoodIn wsX9_keep (wsV RX9 61 RX9 yX9_jobOf wsX9_jobOf) := goodIn_app (goodIn_c chX9_keep chX9_keep_in _ [(0, 5), (0, 6), (0, 7), (0, 3)] (by rfl) (by decide +kernel)) ggX9_keep_X9_jobOf
set_option maxRecDepth 20000 in
theorem ggX9_keep_X9_thingToKeep : GoodIn wsX9_keep wsX9_thingToKeep := goodIn_ca (goodIn_ca (goodIn_ca (goodIn_ca (goodIn_ca (goodIn_ca (goodIn_c chX9_keep chX9_keep_in _ [(0, 13), (0, 14), (0, 15), (0, 16), (0, 17), (0, 18), (0, 19), (0, 20), (0, 21), (0, 22), (0, 23), (1, 0), (1, 1), (1, 2), (1, 3), (1, 4), (1, 5), (1, 6), (1, 7), (1, 8), (1, 9), (1, 10), (1, 11), (1, 12), (1, 13), (1, 14), (1, 15), (1, 16), (1, 17), (1, 18), (1, 19), (1, 20), (1, 21), (1, 22), (1, 23), (2, 0), (2, 1), (2, 2), (2, 3), (2, 4), (2, 5), (2, 6), (2, 7), (2, 8), (2, 9), (2, 10), (2, 11), (2, 12), (2, 13), (2, 14), (2, 15), (2, 16), (2, 17), (2, 18), (2, 19), (2, 20), (2, 21), (2, 22), (2, 23), (3, 0), (3, 1), (3, 2), (3, 3), (3, 4), (3, 5), (3, 6), (3, 7), (3, 8), (3, 9), (3, 10), (3, 11), (3, 12), (3, 13), (3, 14), (3, 15), (3, 16), (3, 17), (3, 18), (3, 19), (3, 20), (3, 21), (3, 22), (3, 23), (4, 0), (4, 1), (4, 2), (4, 3), (4, 4), (4, 5), (4, 6), (4, 7), (4, 8), (4, 9), (4, 10), (4, 11), (4, 12), (4, 13), (0, 3), (4, 14), (4, 15), (4, 16), (4, 17), (4, 18), (4, 19), (4, 20), (4, 21), (4, 22), (4, 23), (5, 0), (5, 1), (5, 2), (5, 3), (5, 4), (5, 5), (5, 6), (5, 7), (5, 8), (5, 9), (5, 10), (5, 11), (5, 12), (5, 13), (5, 14), (5, 15), (5, 16), (5, 17), (5, 18), (5, 19), (5, 20), (5, 21), (5, 22)] (by rfl) (by decide +kernel)) (goodIn_sub (fun _ h => List.mem_cons_of_mem _ (List.mem_append_left _ (List.mem_append_left _ (List.mem_append_left _ (List.mem_append_left _ (List.mem_append_left _ (List.mem_append_right _ (h)))))))) (by decide +kernel))) (goodIn_sub (fun _ h => List.mem_cons_of_mem _ (List.mem_append_left _ (List.mem_append_left _ (List.mem_append_left _ (List.mem_append_left _ (List.mem_append_right _ (h))))))) (by decide +kernel))) (goodIn_sub (fun _ h => List.mem_cons_of_mem _ (List.mem_append_left _ (List.mem_append_left _ (List.mem_append_left _ (List.mem_append_right _ (h)))))) (by decide +kernel))) (goodIn_sub (fun _ h => List.mem_cons_of_mem _ (List.mem_append_left _ (List.mem_append_left _ (List.mem_append_right _ (h))))) (by decide +kernel))) (goodIn_sub (fun _ h => List.mem_cons_of_mem _ (List.mem_append_left _ (List.mem_append_right _ (h)))) (by decide +kernel))) (goodIn_sub (fun _ h => List.mem_cons_of_mem _ (List.mem_append_right _ (h))) (by decide +kernel))
set_option maxRecDepth 20000 in
theorem gX9_keep_X9_thingToKeep : GoodIn wsX9_keep (va_wsS RX9 241 yX9_thingToKeep wsX9_thingToKeep) := goodIn_app (goodIn_c chX9_keep chX9_keep_in _ [(0, 11), (0, 12), (0, 3)] (by rfl) (by decide +kernel)) ggX9_keep_X9_thingToKeep
theorem dX9_keep_0 : decode cX9_keep 0 = .ok (.iload_n 1, 1) := by decide +kernel
theorem dX9_keep_1 : decode cX9_keep 1 = .ok (.invokestatic 238, 3) := by decide +kernel
theorem dX9_keep_4 : decode cX9_keep 4 = .ok (.ifCond .ne 5, 3) := by decide +kernel
theorem dX9_keep_7 : decode cX9_keep 7 = .ok (.iconst (-1), 1) := by decide +kernel
theorem dX9_keep_8 : decode cX9_keep 8 = .ok (.ireturn, 1) := by decide +kernel
theorem dX9_keep_9 : decode cX9_keep 9 = .ok (.iload_n 2, 1) := by decide +kernel
theorem dX9_keep_10 : decode cX9_keep 10 = .ok (.ifCond .ne 12, 3) := by decide +kernel
theorem dX9_keep_13 : decode cX9_keep 13 = .ok (.aload_n 0, 1) := by decide +kernel
theorem dX9_keep_14 : decode cX9_keep 14 = .ok (.getfield 27, 3) := by decide +kernel
theorem dX9_keep_17 : decode cX9_keep 17 = .ok (.iload_n 1, 1) := by decide +kernel
theorem dX9_keep_18 : decode cX9_keep 18 = .ok (.aconst_null, 1) := by decide +kernel
theorem dX9_keep_19 : decode cX9_keep 19 = .ok (.aastore, 1) := by decide +kernel
theorem dX9_keep_20 : decode cX9_keep 20 = .ok (.iconst 0, 1) := by decide +kernel
theorem dX9_keep_21 : decode cX9_keep 21 = .ok (.ireturn, 1) := by decide +kernel
theorem dX9_keep_22 : decode cX9_keep 22 = .ok (.iload_n 2, 1) := by decide +kernel
theorem dX9_keep_23 : decode cX9_keep 23 = .ok (.aload_n 0, 1) := by decide +kernel
theorem dX9_keep_24 : decode cX9_keep 24 = .ok (.iload_n 3, 1) := by decide +kernel
theorem dX9_keep_25 : decode cX9_keep 25 = .ok (.invokevirtual 61, 3) := by decide +kernel
theorem dX9_keep_28 : decode cX9_keep 28 = .ok (.lload 4, 2) := by decide +kernel
theorem dX9_keep_30 : decode cX9_keep 30 = .ok (.invokestatic 241, 3) := by decide +kernel
theorem dX9_keep_33 : decode cX9_keep 33 = .ok (.astore 6, 2) := by decide +kernel
theorem dX9_keep_35 : decode cX9_keep 35 = .ok (.aload 6, 2) := by decide +kernel
theorem dX9_keep_37 : decode cX9_keep 37 = .ok (.ifnonnull 5, 3) := by decide +kernel
theorem dX9_keep_40 : decode cX9_keep 40 = .ok (.iconst (-1), 1) := by decide +kernel
theorem dX9_keep_41 : decode cX9_keep 41 = .ok (.ireturn, 1) := by decide +kernel
theorem dX9_keep_42 : decode cX9_keep 42 = .ok (.aload_n 0, 1) := by decide +kernel
theorem dX9_keep_43 : decode cX9_keep 43 = .ok (.getfield 27, 3) := by decide +kernel
theorem dX9_keep_46 : decode cX9_keep 46 = .ok (.iload_n 1, 1) := by decide +kernel
theorem dX9_keep_47 : decode cX9_keep 47 = .ok (.aload 6, 2) := by decide +kernel
theorem dX9_keep_49 : decode cX9_keep 49 = .ok (.aastore, 1) := by decide +kernel
theorem dX9_keep_50 : decode cX9_keep 50 = .ok (.iconst 0, 1) := by decide +kernel
theorem dX9_keep_51 : decode cX9_keep 51 = .ok (.ireturn, 1) := by decide +kernel
set_option maxRecDepth 20000 in
theorem ggX9_make_X9_isShelf : GoodIn wsX9_make wsX9_isShelf := goodIn_r _ [8] (by decide +kernel) (by decide +kernel)
def chX9_make : List (List Cond) := [[.fieldLink RX9 27 "ShadowBench" "shelves" "[LShadowBench$Held;", .classLink RX9 245 RX7, .instantiable RX7 2, .initialized RX7, .methodLink RX9 238 yX9_isShelf, .static yX9_isShelf, .initialized RX9, .code yX9_isShelf cX9_isShelf 1 (some .boolean), .methodLink RX9 247 yX7_init, .instanceMethod yX7_init, .code yX7_init cX7_init 3 none, .fieldLink RX7 7 "ShadowBench$Row" "ofBytes" "Z", .arrayClass .long, .fieldLink RX7 13 "ShadowBench$Row" "numbers" "[J", .instanceMethod yX2_init, .initialized RX2, .code yX2_init cX2_init 1 none, .methodLink RX2 1 objectInit, .instanceMethod objectInit, .code objectInit ⟨#[0xb1]⟩ 1 none], wsX90, wsX70]
set_option maxRecDepth 20000 in
theorem chX9_make_in : ∀ c ∈ chX9_make, ∀ w ∈ c, w ∈ wsX9_make := (all_c (P := fun c => ∀ w ∈ c, w ∈ wsX9_make) (fun w h => List.mem_cons_of_mem _ (List.mem_append_left _ (List.mem_append_left _ (h)))) (all_c (P := fun c => ∀ w ∈ c, w ∈ wsX9_make) (fun w h => List.mem_cons_of_mem _ (List.mem_append_left _ (List.mem_append_right _ (h)))) (all_c (P := fun c => ∀ w ∈ c, w ∈ wsX9_make) (fun w h => List.mem_cons_of_mem _ (List.mem_append_right _ (h))) (fun _ h => nomatch h))))
set_option maxRecDepth 20000 in
theorem gX9_make_X9_isShelf : GoodIn wsX9_make (va_wsS RX9 238 yX9_isShelf wsX9_isShelf) := goodIn_app (goodIn_c chX9_make chX9_make_in _ [(0, 4), (0, 5), (0, 6)] (by rfl) (by decide +kernel)) ggX9_make_X9_isShelf
set_option maxRecDepth 20000 in
theorem ggX9_make_X7_init : GoodIn wsX9_make wsX7_init := goodIn_ca (goodIn_c chX9_make chX9_make_in _ [(0, 10), (0, 11), (0, 12), (0, 13), (0, 14), (0, 15), (0, 16), (0, 17), (0, 18), (0, 19)] (by rfl) (by decide +kernel)) (goodIn_sub (fun _ h => List.mem_cons_of_mem _ (List.mem_append_right _ (h))) (by decide +kernel))
set_option maxRecDepth 20000 in
theorem gX9_make_X7_init : GoodIn wsX9_make (wsX7_init) := ggX9_make_X7_init
theorem dX9_make_0 : decode cX9_make 0 = .ok (.iload_n 1, 1) := by decide +kernel
theorem dX9_make_1 : decode cX9_make 1 = .ok (.invokestatic 238, 3) := by decide +kernel
theorem dX9_make_4 : decode cX9_make 4 = .ok (.ifCond .eq 19, 3) := by decide +kernel
theorem dX9_make_7 : decode cX9_make 7 = .ok (.iload_n 2, 1) := by decide +kernel
theorem dX9_make_8 : decode cX9_make 8 = .ok (.iconst 3, 1) := by decide +kernel
theorem dX9_make_9 : decode cX9_make 9 = .ok (.if_icmp .eq 8, 3) := by decide +kernel
theorem dX9_make_12 : decode cX9_make 12 = .ok (.iload_n 2, 1) := by decide +kernel
theorem dX9_make_13 : decode cX9_make 13 = .ok (.iconst 4, 1) := by decide +kernel
theorem dX9_make_14 : decode cX9_make 14 = .ok (.if_icmp .ne 9, 3) := by decide +kernel
theorem dX9_make_17 : decode cX9_make 17 = .ok (.iload_n 3, 1) := by decide +kernel
theorem dX9_make_18 : decode cX9_make 18 = .ok (.bipush 60, 2) := by decide +kernel
theorem dX9_make_20 : decode cX9_make 20 = .ok (.if_icmp .le 5, 3) := by decide +kernel
theorem dX9_make_23 : decode cX9_make 23 = .ok (.iconst (-1), 1) := by decide +kernel
theorem dX9_make_24 : decode cX9_make 24 = .ok (.ireturn, 1) := by decide +kernel
theorem dX9_make_25 : decode cX9_make 25 = .ok (.iload_n 3, 1) := by decide +kernel
theorem dX9_make_26 : decode cX9_make 26 = .ok (.ifCond .ge 6, 3) := by decide +kernel
theorem dX9_make_29 : decode cX9_make 29 = .ok (.bipush (-14), 2) := by decide +kernel
theorem dX9_make_31 : decode cX9_make 31 = .ok (.ireturn, 1) := by decide +kernel
theorem dX9_make_32 : decode cX9_make 32 = .ok (.aload_n 0, 1) := by decide +kernel
theorem dX9_make_33 : decode cX9_make 33 = .ok (.getfield 27, 3) := by decide +kernel
theorem dX9_make_36 : decode cX9_make 36 = .ok (.iload_n 1, 1) := by decide +kernel
theorem dX9_make_37 : decode cX9_make 37 = .ok (.new 245, 3) := by decide +kernel
theorem dX9_make_40 : decode cX9_make 40 = .ok (.dup, 1) := by decide +kernel
theorem dX9_make_41 : decode cX9_make 41 = .ok (.iload_n 2, 1) := by decide +kernel
theorem dX9_make_42 : decode cX9_make 42 = .ok (.iconst 3, 1) := by decide +kernel
theorem dX9_make_43 : decode cX9_make 43 = .ok (.if_icmp .ne 7, 3) := by decide +kernel
theorem dX9_make_46 : decode cX9_make 46 = .ok (.iconst 1, 1) := by decide +kernel
theorem dX9_make_47 : decode cX9_make 47 = .ok (.goto 4, 3) := by decide +kernel
theorem dX9_make_50 : decode cX9_make 50 = .ok (.iconst 0, 1) := by decide +kernel
theorem dX9_make_51 : decode cX9_make 51 = .ok (.iload_n 3, 1) := by decide +kernel
theorem dX9_make_52 : decode cX9_make 52 = .ok (.invokespecial 247, 3) := by decide +kernel
theorem dX9_make_55 : decode cX9_make 55 = .ok (.aastore, 1) := by decide +kernel
theorem dX9_make_56 : decode cX9_make 56 = .ok (.iconst 0, 1) := by decide +kernel
theorem dX9_make_57 : decode cX9_make 57 = .ok (.ireturn, 1) := by decide +kernel
set_option maxRecDepth 20000 in
theorem ggX9_copy_X9_isShelf : GoodIn wsX9_copy wsX9_isShelf := goodIn_r _ [7] (by decide +kernel) (by decide +kernel)
def chX9_copy : List (List Cond) := [[.fieldLink RX9 27 "ShadowBench" "shelves" "[LShadowBench$Held;", .classLink RX9 245 "ShadowBench$Row", .fieldLink RX9 264 "ShadowBench$Row" "ofBytes" "Z", .methodLink RX9 238 yX9_isShelf, .static yX9_isShelf, .initialized RX9, .code yX9_isShelf cX9_isShelf 1 (some .boolean), .methodLink RX9 252 yX7_has, .instanceMethod yX7_has, .selects RX7 yX7_has yX7_has, .initialized RX7, .code yX7_has cX7_has 3 (some .boolean), .fieldLink RX7 13 "ShadowBench$Row" "numbers" "[J", .methodLink RX9 268 yX7_takeFrom, .instanceMethod yX7_takeFrom, .selects RX7 yX7_takeFrom yX7_takeFrom, .code yX7_takeFrom cX7_takeFrom 5 none, .methodLink RX7 21 arraycopyName, .native arraycopyName, .static arraycopyName, .initialized "java/lang/System", .methodLink RX7 17 yX7_has], wsX90, wsX70]
set_option maxRecDepth 20000 in
theorem chX9_copy_in : ∀ c ∈ chX9_copy, ∀ w ∈ c, w ∈ wsX9_copy := (all_c (P := fun c => ∀ w ∈ c, w ∈ wsX9_copy) (fun w h => List.mem_cons_of_mem _ (List.mem_append_left _ (List.mem_append_left _ (h)))) (all_c (P := fun c => ∀ w ∈ c, w ∈ wsX9_copy) (fun w h => List.mem_cons_of_mem _ (List.mem_append_left _ (List.mem_append_right _ (h)))) (all_c (P := fun c => ∀ w ∈ c, w ∈ wsX9_copy) (fun w h => List.mem_cons_of_mem _ (List.mem_append_right _ (h))) (fun _ h => nomatch h))))
set_option maxRecDepth 20000 in
theorem gX9_copy_X9_isShelf : GoodIn wsX9_copy (va_wsS RX9 238 yX9_isShelf wsX9_isShelf) := goodIn_app (goodIn_c chX9_copy chX9_copy_in _ [(0, 3), (0, 4), (0, 5)] (by rfl) (by decide +kernel)) ggX9_copy_X9_isShelf
set_option maxRecDepth 20000 in
theorem ggX9_copy_X7_has : GoodIn wsX9_copy wsX7_has := goodIn_r _ [12, 13, 32, 33] (by decide +kernel) (by decide +kernel)
set_option maxRecDepth 20000 in
theorem gX9_copy_X7_has : GoodIn wsX9_copy (wsV RX9 252 RX7 yX7_has wsX7_has) := goodIn_app (goodIn_c chX9_copy chX9_copy_in _ [(0, 7), (0, 8), (0, 9), (0, 10)] (by rfl) (by decide +kernel)) ggX9_copy_X7_has
set_option maxRecDepth 20000 in
theorem ggX9_copy_X7_takeFrom : GoodIn wsX9_copy wsX7_takeFrom := goodIn_ca (goodIn_c chX9_copy chX9_copy_in _ [(0, 16), (0, 12), (0, 17), (0, 18), (0, 19), (0, 20), (0, 21), (0, 8), (0, 9), (0, 10), (0, 11)] (by rfl) (by decide +kernel)) (goodIn_sub (fun _ h => List.mem_cons_of_mem _ (List.mem_append_right _ (h))) (by decide +kernel))
set_option maxRecDepth 20000 in
theorem gX9_copy_X7_takeFrom : GoodIn wsX9_copy (wsV RX9 268 RX7 yX7_takeFrom wsX7_takeFrom) := goodIn_app (goodIn_c chX9_copy chX9_copy_in _ [(0, 13), (0, 14), (0, 15), (0, 10)] (by rfl) (by decide +kernel)) ggX9_copy_X7_takeFrom
theorem dX9_copy_0 : decode cX9_copy 0 = .ok (.iload_n 1, 1) := by decide +kernel
theorem dX9_copy_1 : decode cX9_copy 1 = .ok (.invokestatic 238, 3) := by decide +kernel
theorem dX9_copy_4 : decode cX9_copy 4 = .ok (.ifCond .eq 10, 3) := by decide +kernel
theorem dX9_copy_7 : decode cX9_copy 7 = .ok (.iload_n 3, 1) := by decide +kernel
theorem dX9_copy_8 : decode cX9_copy 8 = .ok (.invokestatic 238, 3) := by decide +kernel
theorem dX9_copy_11 : decode cX9_copy 11 = .ok (.ifCond .ne 5, 3) := by decide +kernel
theorem dX9_copy_14 : decode cX9_copy 14 = .ok (.iconst (-1), 1) := by decide +kernel
theorem dX9_copy_15 : decode cX9_copy 15 = .ok (.ireturn, 1) := by decide +kernel
theorem dX9_copy_16 : decode cX9_copy 16 = .ok (.aload_n 0, 1) := by decide +kernel
theorem dX9_copy_17 : decode cX9_copy 17 = .ok (.getfield 27, 3) := by decide +kernel
theorem dX9_copy_20 : decode cX9_copy 20 = .ok (.iload_n 1, 1) := by decide +kernel
theorem dX9_copy_21 : decode cX9_copy 21 = .ok (.aaload, 1) := by decide +kernel
theorem dX9_copy_22 : decode cX9_copy 22 = .ok (.ifnull 12, 3) := by decide +kernel
theorem dX9_copy_25 : decode cX9_copy 25 = .ok (.aload_n 0, 1) := by decide +kernel
theorem dX9_copy_26 : decode cX9_copy 26 = .ok (.getfield 27, 3) := by decide +kernel
theorem dX9_copy_29 : decode cX9_copy 29 = .ok (.iload_n 3, 1) := by decide +kernel
theorem dX9_copy_30 : decode cX9_copy 30 = .ok (.aaload, 1) := by decide +kernel
theorem dX9_copy_31 : decode cX9_copy 31 = .ok (.ifnonnull 6, 3) := by decide +kernel
