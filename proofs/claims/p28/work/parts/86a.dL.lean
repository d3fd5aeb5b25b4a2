theorem dL_dice_0 : decode cL_dice 0 = .ok (.iload_n 1, 1) := by decide +kernel
theorem dL_dice_1 : decode cL_dice 1 = .ok (.aload_n 0, 1) := by decide +kernel
theorem dL_dice_2 : decode cL_dice 2 = .ok (.arraylength, 1) := by decide +kernel
theorem dL_dice_3 : decode cL_dice 3 = .ok (.if_icmp .ge 9, 3) := by decide +kernel
theorem dL_dice_6 : decode cL_dice 6 = .ok (.aload_n 0, 1) := by decide +kernel
theorem dL_dice_7 : decode cL_dice 7 = .ok (.iload_n 1, 1) := by decide +kernel
theorem dL_dice_8 : decode cL_dice 8 = .ok (.iaload, 1) := by decide +kernel
theorem dL_dice_9 : decode cL_dice 9 = .ok (.goto 22, 3) := by decide +kernel
theorem dL_dice_12 : decode cL_dice 12 = .ok (.ldc 7, 2) := by decide +kernel
theorem dL_dice_14 : decode cL_dice 14 = .ok (.iload_n 1, 1) := by decide +kernel
theorem dL_dice_15 : decode cL_dice 15 = .ok (.bipush 83, 2) := by decide +kernel
theorem dL_dice_17 : decode cL_dice 17 = .ok (.iadd, 1) := by decide +kernel
theorem dL_dice_18 : decode cL_dice 18 = .ok (.imul, 1) := by decide +kernel
theorem dL_dice_19 : decode cL_dice 19 = .ok (.sipush 379, 3) := by decide +kernel
theorem dL_dice_22 : decode cL_dice 22 = .ok (.iload_n 1, 1) := by decide +kernel
theorem dL_dice_23 : decode cL_dice 23 = .ok (.imul, 1) := by decide +kernel
theorem dL_dice_24 : decode cL_dice 24 = .ok (.iload_n 1, 1) := by decide +kernel
theorem dL_dice_25 : decode cL_dice 25 = .ok (.imul, 1) := by decide +kernel
theorem dL_dice_26 : decode cL_dice 26 = .ok (.iadd, 1) := by decide +kernel
theorem dL_dice_27 : decode cL_dice 27 = .ok (.sipush 6007, 3) := by decide +kernel
theorem dL_dice_30 : decode cL_dice 30 = .ok (.iadd, 1) := by decide +kernel
theorem dL_dice_31 : decode cL_dice 31 = .ok (.ldc 8, 2) := by decide +kernel
theorem dL_dice_33 : decode cL_dice 33 = .ok (.iand, 1) := by decide +kernel
theorem dL_dice_34 : decode cL_dice 34 = .ok (.ireturn, 1) := by decide +kernel
set_option maxRecDepth 20000 in
theorem ggL_reset_X5_reset : GoodIn wsL_reset wsX5_reset := goodIn_ca (goodIn_r _ [6, 7, 8, 9, 10, 5, 11, 12, 13, 14, 15, 16, 17, 18, 19, 20, 21, 22, 23, 24, 25, 26, 27, 28, 29, 30, 31, 32, 33, 34, 35, 36, 37, 38, 39, 40, 41, 42, 43, 44, 45, 46, 47, 48, 49, 50, 51, 52, 53, 54, 55, 56, 57, 58, 59, 60, 61, 62, 63] (by decide +kernel) (by decide +kernel)) (goodIn_sub (fun _ h => List.mem_cons_of_mem _ (List.mem_append_right _ h)) (by decide +kernel))
set_option maxRecDepth 20000 in
theorem gL_reset_X5_reset : GoodIn wsL_reset (wsV RL 9 RX5 yX5_reset wsX5_reset) := goodIn_app (goodIn_of _ (by decide +kernel)) ggL_reset_X5_reset
theorem dL_reset_0 : decode cL_reset 0 = .ok (.aload_n 0, 1) := by decide +kernel
theorem dL_reset_1 : decode cL_reset 1 = .ok (.iload_n 1, 1) := by decide +kernel
theorem dL_reset_2 : decode cL_reset 2 = .ok (.iload_n 2, 1) := by decide +kernel
theorem dL_reset_3 : decode cL_reset 3 = .ok (.iload_n 3, 1) := by decide +kernel
theorem dL_reset_4 : decode cL_reset 4 = .ok (.invokevirtual 9, 3) := by decide +kernel
theorem dL_reset_7 : decode cL_reset 7 = .ok (.iconst 0, 1) := by decide +kernel
theorem dL_reset_8 : decode cL_reset 8 = .ok (.ireturn, 1) := by decide +kernel
theorem dL_reset_9 : decode cL_reset 9 = .ok (.astore 4, 2) := by decide +kernel
theorem dL_reset_11 : decode cL_reset 11 = .ok (.bipush (-62), 2) := by decide +kernel
theorem dL_reset_13 : decode cL_reset 13 = .ok (.ireturn, 1) := by decide +kernel
set_option maxRecDepth 20000 in
theorem ggL_addFlow_X5_addFlow : GoodIn wsL_addFlow wsX5_addFlow := goodIn_ca (goodIn_ca (goodIn_r _ [7, 8, 9, 10, 11, 12, 13, 14, 15, 16, 6, 17, 18, 19, 20, 21, 22, 23, 24, 25, 26, 27, 28, 29, 30, 31, 32, 33, 34, 35, 36, 37, 38, 39, 40, 41, 42, 43, 44, 45, 46, 47, 48, 49, 50, 51, 52, 53, 54, 55, 56, 57, 58, 59, 60, 61, 62, 63] (by decide +kernel) (by decide +kernel)) (goodIn_sub (fun _ h => List.mem_cons_of_mem _ (List.mem_append_left _ (List.mem_append_right _ h))) (by decide +kernel))) (goodIn_sub (fun _ h => List.mem_cons_of_mem _ (List.mem_append_right _ h)) (by decide +kernel))
set_option maxRecDepth 20000 in
theorem gL_addFlow_X5_addFlow : GoodIn wsL_addFlow (wsV RL 17 RX5 yX5_addFlow wsX5_addFlow) := goodIn_app (goodIn_of _ (by decide +kernel)) ggL_addFlow_X5_addFlow
theorem dL_addFlow_0 : decode cL_addFlow 0 = .ok (.aload_n 0, 1) := by decide +kernel
theorem dL_addFlow_1 : decode cL_addFlow 1 = .ok (.iload_n 1, 1) := by decide +kernel
theorem dL_addFlow_2 : decode cL_addFlow 2 = .ok (.iload_n 2, 1) := by decide +kernel
theorem dL_addFlow_3 : decode cL_addFlow 3 = .ok (.iload_n 3, 1) := by decide +kernel
theorem dL_addFlow_4 : decode cL_addFlow 4 = .ok (.iload 4, 2) := by decide +kernel
theorem dL_addFlow_6 : decode cL_addFlow 6 = .ok (.invokevirtual 17, 3) := by decide +kernel
theorem dL_addFlow_9 : decode cL_addFlow 9 = .ok (.ireturn, 1) := by decide +kernel
theorem dL_addFlow_10 : decode cL_addFlow 10 = .ok (.astore 5, 2) := by decide +kernel
theorem dL_addFlow_12 : decode cL_addFlow 12 = .ok (.bipush (-62), 2) := by decide +kernel
theorem dL_addFlow_14 : decode cL_addFlow 14 = .ok (.ireturn, 1) := by decide +kernel
theorem dL_addFlow_15 : decode cL_addFlow 15 = .ok (.astore 5, 2) := by decide +kernel
theorem dL_addFlow_17 : decode cL_addFlow 17 = .ok (.bipush (-63), 2) := by decide +kernel
theorem dL_addFlow_19 : decode cL_addFlow 19 = .ok (.ireturn, 1) := by decide +kernel
set_option maxRecDepth 20000 in
theorem ggL_cut_X5_cut : GoodIn wsL_cut wsX5_cut := goodIn_ca (goodIn_ca (goodIn_r _ [7, 8, 9, 10, 11, 12, 6, 13, 14, 15, 16, 17, 18, 19, 20, 21, 22, 23, 24, 25, 26, 27, 28, 29, 30, 31, 32, 33, 34, 35, 36, 37, 38, 39, 40, 41, 42, 43, 44, 45, 46, 47, 48, 49, 50, 51, 52] (by decide +kernel) (by decide +kernel)) (goodIn_sub (fun _ h => List.mem_cons_of_mem _ (List.mem_append_left _ (List.mem_append_right _ h))) (by decide +kernel))) (goodIn_sub (fun _ h => List.mem_cons_of_mem _ (List.mem_append_right _ h)) (by decide +kernel))
set_option maxRecDepth 20000 in
theorem gL_cut_X5_cut : GoodIn wsL_cut (wsV RL 23 RX5 yX5_cut wsX5_cut) := goodIn_app (goodIn_of _ (by decide +kernel)) ggL_cut_X5_cut
theorem dL_cut_0 : decode cL_cut 0 = .ok (.aload_n 0, 1) := by decide +kernel
theorem dL_cut_1 : decode cL_cut 1 = .ok (.iload_n 1, 1) := by decide +kernel
theorem dL_cut_2 : decode cL_cut 2 = .ok (.iload_n 2, 1) := by decide +kernel
theorem dL_cut_3 : decode cL_cut 3 = .ok (.invokevirtual 23, 3) := by decide +kernel
theorem dL_cut_6 : decode cL_cut 6 = .ok (.ireturn, 1) := by decide +kernel
theorem dL_cut_7 : decode cL_cut 7 = .ok (.astore_n 3, 1) := by decide +kernel
theorem dL_cut_8 : decode cL_cut 8 = .ok (.bipush (-62), 2) := by decide +kernel
theorem dL_cut_10 : decode cL_cut 10 = .ok (.ireturn, 1) := by decide +kernel
theorem dL_cut_11 : decode cL_cut 11 = .ok (.astore_n 3, 1) := by decide +kernel
theorem dL_cut_12 : decode cL_cut 12 = .ok (.bipush (-63), 2) := by decide +kernel
theorem dL_cut_14 : decode cL_cut 14 = .ok (.ireturn, 1) := by decide +kernel
set_option maxRecDepth 20000 in
theorem ggL_restore_X5_restore : GoodIn wsL_restore wsX5_restore := goodIn_ca (goodIn_ca (goodIn_r _ [7, 8, 9, 10, 11, 12, 6, 13, 14, 15, 16, 17, 18, 19, 20, 21, 22, 23, 24, 25, 26, 27, 28, 29, 30, 31, 32, 33, 34, 35, 36, 37, 38, 39, 40, 41, 42] (by decide +kernel) (by decide +kernel)) (goodIn_sub (fun _ h => List.mem_cons_of_mem _ (List.mem_append_left _ (List.mem_append_right _ h))) (by decide +kernel))) (goodIn_sub (fun _ h => List.mem_cons_of_mem _ (List.mem_append_right _ h)) (by decide +kernel))
set_option maxRecDepth 20000 in
theorem gL_restore_X5_restore : GoodIn wsL_restore (wsV RL 27 RX5 yX5_restore wsX5_restore) := goodIn_app (goodIn_of _ (by decide +kernel)) ggL_restore_X5_restore
theorem dL_restore_0 : decode cL_restore 0 = .ok (.aload_n 0, 1) := by decide +kernel
theorem dL_restore_1 : decode cL_restore 1 = .ok (.iload_n 1, 1) := by decide +kernel
theorem dL_restore_2 : decode cL_restore 2 = .ok (.iload_n 2, 1) := by decide +kernel
theorem dL_restore_3 : decode cL_restore 3 = .ok (.invokevirtual 27, 3) := by decide +kernel
theorem dL_restore_6 : decode cL_restore 6 = .ok (.ireturn, 1) := by decide +kernel
theorem dL_restore_7 : decode cL_restore 7 = .ok (.astore_n 3, 1) := by decide +kernel
theorem dL_restore_8 : decode cL_restore 8 = .ok (.bipush (-62), 2) := by decide +kernel
theorem dL_restore_10 : decode cL_restore 10 = .ok (.ireturn, 1) := by decide +kernel
theorem dL_restore_11 : decode cL_restore 11 = .ok (.astore_n 3, 1) := by decide +kernel
theorem dL_restore_12 : decode cL_restore 12 = .ok (.bipush (-63), 2) := by decide +kernel
theorem dL_restore_14 : decode cL_restore 14 = .ok (.ireturn, 1) := by decide +kernel
set_option maxRecDepth 20000 in
theorem ggL_pass_X5_pass : GoodIn wsL_pass wsX5_pass := goodIn_ca (goodIn_ca (goodIn_r _ [7, 8, 9, 10, 11, 12, 13, 14, 15, 6, 16, 17, 18, 19, 20, 21, 22, 23, 24, 25, 26, 27, 28, 29, 30, 31, 32, 33, 34, 35, 36, 37, 38, 39, 40, 41, 42, 43, 44, 45, 46, 47, 48, 49, 50, 51, 52, 53, 54, 55, 56, 57, 58, 59, 60, 61, 62, 63, 64, 65, 66, 67, 68, 69, 70, 71, 72, 73, 74, 75, 76, 77, 78, 79, 80, 81, 82, 83, 84, 85, 86, 87, 88, 89, 90, 91, 92, 93, 94, 95, 96, 97, 98, 99, 100, 101, 102, 103, 104, 105, 106, 107, 108, 109, 110, 111, 112, 113, 114, 115, 116, 117, 118, 119, 120, 121, 122, 123, 124, 125, 126, 127, 128, 129, 130, 131, 132, 133, 134, 135, 136, 137, 138, 139, 140, 141, 142, 143, 144, 145, 146, 147, 148, 149, 150, 151, 152, 153, 154, 155, 156, 157, 158, 159, 160, 161, 162, 163, 164, 165, 166, 167, 168, 169, 170, 171, 172, 173, 174, 175, 176, 177, 178, 179, 180, 181, 182, 183, 184, 185, 186, 187, 188, 189, 190, 191, 192, 193, 194, 195, 196, 197, 198, 199, 200, 201, 202, 203, 204, 205, 206, 207, 208, 209, 210, 211, 212, 213, 214, 215, 216, 217, 218, 219, 220, 221, 222, 223, 224, 225, 226] (by decide +kernel) (by decide +kernel)) (goodIn_sub (fun _ h => List.mem_cons_of_mem _ (List.mem_append_left _ (List.mem_append_right _ h))) (by decide +kernel))) (goodIn_sub (fun _ h => List.mem_cons_of_mem _ (List.mem_append_right _ h)) (by decide +kernel))
set_option maxRecDepth 20000 in
theorem gL_pass_X5_pass : GoodIn wsL_pass (wsV RL 30 RX5 yX5_pass wsX5_pass) := goodIn_app (goodIn_of _ (by decide +kernel)) ggL_pass_X5_pass
theorem dL_pass_0 : decode cL_pass 0 = .ok (.aload_n 0, 1) := by decide +kernel
theorem dL_pass_1 : decode cL_pass 1 = .ok (.iload_n 1, 1) := by decide +kernel
theorem dL_pass_2 : decode cL_pass 2 = .ok (.invokevirtual 30, 3) := by decide +kernel
theorem dL_pass_5 : decode cL_pass 5 = .ok (.ireturn, 1) := by decide +kernel
theorem dL_pass_6 : decode cL_pass 6 = .ok (.astore_n 2, 1) := by decide +kernel
theorem dL_pass_7 : decode cL_pass 7 = .ok (.bipush (-62), 2) := by decide +kernel
theorem dL_pass_9 : decode cL_pass 9 = .ok (.ireturn, 1) := by decide +kernel
theorem dL_pass_10 : decode cL_pass 10 = .ok (.astore_n 2, 1) := by decide +kernel
theorem dL_pass_11 : decode cL_pass 11 = .ok (.bipush (-63), 2) := by decide +kernel
theorem dL_pass_13 : decode cL_pass 13 = .ok (.ireturn, 1) := by decide +kernel
set_option maxRecDepth 20000 in
theorem ggL_of_X5_sent : GoodIn wsL_of wsX5_sent := goodIn_ca (goodIn_r _ [6, 7, 8, 9, 10, 5, 11, 12, 13, 14, 15, 16, 17, 42, 43, 44, 45, 46, 47, 48, 49, 50, 51, 52, 53, 54, 55, 56, 57, 58, 59, 60, 61, 62, 63, 64, 65, 66, 67] (by decide +kernel) (by decide +kernel)) (goodIn_sub (fun _ h => List.mem_cons_of_mem _ (List.mem_append_right _ h)) (by decide +kernel))
set_option maxRecDepth 20000 in
theorem gL_of_X5_sent : GoodIn wsL_of (wsV RL 34 RX5 yX5_sent wsX5_sent) := goodIn_app (goodIn_of _ (by decide +kernel)) ggL_of_X5_sent
set_option maxRecDepth 20000 in
theorem ggL_of_X5_delivered : GoodIn wsL_of wsX5_delivered := goodIn_ca (goodIn_r _ [21, 7, 8, 9, 10, 5, 11, 12, 13, 14, 15, 16, 17, 42, 43, 44, 45, 46, 47, 48, 49, 50, 51, 52, 53, 54, 55, 56, 57, 58, 59, 60, 61, 62, 63, 64, 65, 66, 67] (by decide +kernel) (by decide +kernel)) (goodIn_sub (fun _ h => List.mem_cons_of_mem _ (List.mem_append_right _ h)) (by decide +kernel))
set_option maxRecDepth 20000 in
theorem gL_of_X5_delivered : GoodIn wsL_of (wsV RL 37 RX5 yX5_delivered wsX5_delivered) := goodIn_app (goodIn_of _ (by decide +kernel)) ggL_of_X5_delivered
set_option maxRecDepth 20000 in
theorem ggL_of_X5_lost : GoodIn wsL_of wsX5_lost := goodIn_ca (goodIn_r _ [25, 7, 8, 9, 10, 5, 11, 12, 13, 14, 15, 16, 17, 42, 43, 44, 45, 46, 47, 48, 49, 50, 51, 52, 53, 54, 55, 56, 57, 58, 59, 60, 61, 62, 63, 64, 65, 66, 67] (by decide +kernel) (by decide +kernel)) (goodIn_sub (fun _ h => List.mem_cons_of_mem _ (List.mem_append_right _ h)) (by decide +kernel))
set_option maxRecDepth 20000 in
theorem gL_of_X5_lost : GoodIn wsL_of (wsV RL 40 RX5 yX5_lost wsX5_lost) := goodIn_app (goodIn_of _ (by decide +kernel)) ggL_of_X5_lost
set_option maxRecDepth 20000 in
theorem ggL_of_X5_outOfOrder : GoodIn wsL_of wsX5_outOfOrder := goodIn_ca (goodIn_r _ [29, 7, 8, 9, 10, 5, 11, 12, 13, 14, 15, 16, 17, 42, 43, 44, 45, 46, 47, 48, 49, 50, 51, 52, 53, 54, 55, 56, 57, 58, 59, 60, 61, 62, 63, 64, 65, 66, 67] (by decide +kernel) (by decide +kernel)) (goodIn_sub (fun _ h => List.mem_cons_of_mem _ (List.mem_append_right _ h)) (by decide +kernel))
set_option maxRecDepth 20000 in
theorem gL_of_X5_outOfOrder : GoodIn wsL_of (wsV RL 43 RX5 yX5_outOfOrder wsX5_outOfOrder) := goodIn_app (goodIn_of _ (by decide +kernel)) ggL_of_X5_outOfOrder
set_option maxRecDepth 20000 in
theorem ggL_of_X5_doneIn : GoodIn wsL_of wsX5_doneIn := goodIn_ca (goodIn_r _ [33, 7, 8, 9, 10, 5, 11, 12, 13, 14, 15, 16, 17, 42, 43, 44, 45, 46, 47, 48, 49, 50, 51, 52, 53, 54, 55, 56, 57, 58, 59, 60, 61, 62, 63, 64, 65, 66, 67] (by decide +kernel) (by decide +kernel)) (goodIn_sub (fun _ h => List.mem_cons_of_mem _ (List.mem_append_right _ h)) (by decide +kernel))
set_option maxRecDepth 20000 in
theorem gL_of_X5_doneIn : GoodIn wsL_of (wsV RL 46 RX5 yX5_doneIn wsX5_doneIn) := goodIn_app (goodIn_of _ (by decide +kernel)) ggL_of_X5_doneIn
set_option maxRecDepth 20000 in
theorem ggL_of_X5_flowlets : GoodIn wsL_of wsX5_flowlets := goodIn_ca (goodIn_r _ [37, 7, 8, 9, 10, 5, 11, 12, 13, 14, 15, 16, 17, 42, 43, 44, 45, 46, 47, 48, 49, 50, 51, 52, 53, 54, 55, 56, 57, 58, 59, 60, 61, 62, 63, 64, 65, 66, 67] (by decide +kernel) (by decide +kernel)) (goodIn_sub (fun _ h => List.mem_cons_of_mem _ (List.mem_append_right _ h)) (by decide +kernel))
set_option maxRecDepth 20000 in
theorem gL_of_X5_flowlets : GoodIn wsL_of (wsV RL 49 RX5 yX5_flowlets wsX5_flowlets) := goodIn_app (goodIn_of _ (by decide +kernel)) ggL_of_X5_flowlets
set_option maxRecDepth 20000 in
theorem ggL_of_X5_spineOf : GoodIn wsL_of wsX5_spineOf := goodIn_ca (goodIn_r _ [41, 7, 8, 9, 10, 5, 11, 12, 13, 14, 15, 16, 17, 42, 43, 44, 45, 46, 47, 48, 49, 50, 51, 52, 53, 54, 55, 56, 57, 58, 59, 60, 61, 62, 63, 64, 65, 66, 67] (by decide +kernel) (by decide +kernel)) (goodIn_sub (fun _ h => List.mem_cons_of_mem _ (List.mem_append_right _ h)) (by decide +kernel))
set_option maxRecDepth 20000 in
theorem gL_of_X5_spineOf : GoodIn wsL_of (wsV RL 52 RX5 yX5_spineOf wsX5_spineOf) := goodIn_app (goodIn_of _ (by decide +kernel)) ggL_of_X5_spineOf
theorem dL_of_0 : decode cL_of 0 = .ok (.iload_n 1, 1) := by decide +kernel
theorem dL_of_1 : decode cL_of 1 = .ok (.ifCond .ne 11, 3) := by decide +kernel
theorem dL_of_4 : decode cL_of 4 = .ok (.aload_n 0, 1) := by decide +kernel
theorem dL_of_5 : decode cL_of 5 = .ok (.iload_n 2, 1) := by decide +kernel
theorem dL_of_6 : decode cL_of 6 = .ok (.invokevirtual 34, 3) := by decide +kernel
theorem dL_of_9 : decode cL_of 9 = .ok (.goto 73, 3) := by decide +kernel
theorem dL_of_12 : decode cL_of 12 = .ok (.iload_n 1, 1) := by decide +kernel
theorem dL_of_13 : decode cL_of 13 = .ok (.iconst 1, 1) := by decide +kernel
theorem dL_of_14 : decode cL_of 14 = .ok (.if_icmp .ne 11, 3) := by decide +kernel
theorem dL_of_17 : decode cL_of 17 = .ok (.aload_n 0, 1) := by decide +kernel
theorem dL_of_18 : decode cL_of 18 = .ok (.iload_n 2, 1) := by decide +kernel
theorem dL_of_19 : decode cL_of 19 = .ok (.invokevirtual 37, 3) := by decide +kernel
theorem dL_of_22 : decode cL_of 22 = .ok (.goto 60, 3) := by decide +kernel
theorem dL_of_25 : decode cL_of 25 = .ok (.iload_n 1, 1) := by decide +kernel
theorem dL_of_26 : decode cL_of 26 = .ok (.iconst 2, 1) := by decide +kernel
theorem dL_of_27 : decode cL_of 27 = .ok (.if_icmp .ne 11, 3) := by decide +kernel
theorem dL_of_30 : decode cL_of 30 = .ok (.aload_n 0, 1) := by decide +kernel
theorem dL_of_31 : decode cL_of 31 = .ok (.iload_n 2, 1) := by decide +kernel
theorem dL_of_32 : decode cL_of 32 = .ok (.invokevirtual 40, 3) := by decide +kernel
theorem dL_of_35 : decode cL_of 35 = .ok (.goto 47, 3) := by decide +kernel
theorem dL_of_38 : decode cL_of 38 = .ok (.iload_n 1, 1) := by decide +kernel
theorem dL_of_39 : decode cL_of 39 = .ok (.iconst 3, 1) := by decide +kernel
theorem dL_of_40 : decode cL_of 40 = .ok (.if_icmp .ne 11, 3) := by decide +kernel
theorem dL_of_43 : decode cL_of 43 = .ok (.aload_n 0, 1) := by decide +kernel
theorem dL_of_44 : decode cL_of 44 = .ok (.iload_n 2, 1) := by decide +kernel
theorem dL_of_45 : decode cL_of 45 = .ok (.invokevirtual 43, 3) := by decide +kernel
theorem dL_of_48 : decode cL_of 48 = .ok (.goto 34, 3) := by decide +kernel
theorem dL_of_51 : decode cL_of 51 = .ok (.iload_n 1, 1) := by decide +kernel
theorem dL_of_52 : decode cL_of 52 = .ok (.iconst 4, 1) := by decide +kernel
theorem dL_of_53 : decode cL_of 53 = .ok (.if_icmp .ne 11, 3) := by decide +kernel
theorem dL_of_56 : decode cL_of 56 = .ok (.aload_n 0, 1) := by decide +kernel
theorem dL_of_57 : decode cL_of 57 = .ok (.iload_n 2, 1) := by decide +kernel
theorem dL_of_58 : decode cL_of 58 = .ok (.invokevirtual 46, 3) := by decide +kernel
theorem dL_of_61 : decode cL_of 61 = .ok (.goto 21, 3) := by decide +kernel
theorem dL_of_64 : decode cL_of 64 = .ok (.iload_n 1, 1) := by decide +kernel
theorem dL_of_65 : decode cL_of 65 = .ok (.iconst 5, 1) := by decide +kernel
theorem dL_of_66 : decode cL_of 66 = .ok (.if_icmp .ne 11, 3) := by decide +kernel
theorem dL_of_69 : decode cL_of 69 = .ok (.aload_n 0, 1) := by decide +kernel
theorem dL_of_70 : decode cL_of 70 = .ok (.iload_n 2, 1) := by decide +kernel
theorem dL_of_71 : decode cL_of 71 = .ok (.invokevirtual 49, 3) := by decide +kernel
theorem dL_of_74 : decode cL_of 74 = .ok (.goto 8, 3) := by decide +kernel
theorem dL_of_77 : decode cL_of 77 = .ok (.aload_n 0, 1) := by decide +kernel
theorem dL_of_78 : decode cL_of 78 = .ok (.iload_n 2, 1) := by decide +kernel
theorem dL_of_79 : decode cL_of 79 = .ok (.invokevirtual 52, 3) := by decide +kernel
theorem dL_of_82 : decode cL_of 82 = .ok (.ireturn, 1) := by decide +kernel
theorem dL_of_83 : decode cL_of 83 = .ok (.astore_n 3, 1) := by decide +kernel
theorem dL_of_84 : decode cL_of 84 = .ok (.bipush (-61), 2) := by decide +kernel
theorem dL_of_86 : decode cL_of 86 = .ok (.ireturn, 1) := by decide +kernel
set_option maxRecDepth 20000 in
theorem ggL_ask_X5_upQueue : GoodIn wsL_ask wsX5_upQueue := goodIn_ca (goodIn_r _ [6, 7, 8, 9, 5, 10, 11, 12, 13, 14, 15, 62, 63, 64, 65, 66, 67, 68, 69, 70, 71, 72, 73, 74, 75, 76, 77, 78, 79, 80, 81, 82, 83, 84, 85] (by decide +kernel) (by decide +kernel)) (goodIn_sub (fun _ h => List.mem_cons_of_mem _ (List.mem_append_right _ h)) (by decide +kernel))
set_option maxRecDepth 20000 in
theorem gL_ask_X5_upQueue : GoodIn wsL_ask (wsV RL 57 RX5 yX5_upQueue wsX5_upQueue) := goodIn_app (goodIn_of _ (by decide +kernel)) ggL_ask_X5_upQueue
set_option maxRecDepth 20000 in
theorem ggL_ask_X5_downQueue : GoodIn wsL_ask wsX5_downQueue := goodIn_ca (goodIn_r _ [19, 7, 8, 9, 5, 10, 11, 12, 13, 14, 15, 62, 63, 64, 65, 66, 67, 68, 69, 70, 71, 72, 73, 74, 75, 76, 77, 78, 79, 80, 81, 82, 83, 84, 85] (by decide +kernel) (by decide +kernel)) (goodIn_sub (fun _ h => List.mem_cons_of_mem _ (List.mem_append_right _ h)) (by decide +kernel))
set_option maxRecDepth 20000 in
theorem gL_ask_X5_downQueue : GoodIn wsL_ask (wsV RL 60 RX5 yX5_downQueue wsX5_downQueue) := goodIn_app (goodIn_of _ (by decide +kernel)) ggL_ask_X5_downQueue
set_option maxRecDepth 20000 in
theorem ggL_ask_X5_upCredits : GoodIn wsL_ask wsX5_upCredits := goodIn_ca (goodIn_r _ [23, 7, 8, 9, 5, 10, 11, 12, 13, 14, 15, 62, 63, 64, 65, 66, 67, 68, 69, 70, 71, 72, 73, 74, 75, 76, 77, 78, 79, 80, 81, 82, 83, 84, 85] (by decide +kernel) (by decide +kernel)) (goodIn_sub (fun _ h => List.mem_cons_of_mem _ (List.mem_append_right _ h)) (by decide +kernel))
set_option maxRecDepth 20000 in
theorem gL_ask_X5_upCredits : GoodIn wsL_ask (wsV RL 63 RX5 yX5_upCredits wsX5_upCredits) := goodIn_app (goodIn_of _ (by decide +kernel)) ggL_ask_X5_upCredits
set_option maxRecDepth 20000 in
theorem ggL_ask_X5_open : GoodIn wsL_ask wsX5_open := goodIn_ca (goodIn_r _ [27, 7, 8, 9, 5, 10, 11, 12, 13, 14, 15, 62, 63, 64, 65, 66, 67, 68, 69, 70, 71, 72, 73, 74, 75, 76, 77, 78] (by decide +kernel) (by decide +kernel)) (goodIn_sub (fun _ h => List.mem_cons_of_mem _ (List.mem_append_right _ h)) (by decide +kernel))
set_option maxRecDepth 20000 in
theorem gL_ask_X5_open : GoodIn wsL_ask (wsV RL 66 RX5 yX5_open wsX5_open) := goodIn_app (goodIn_of _ (by decide +kernel)) ggL_ask_X5_open
set_option maxRecDepth 20000 in
theorem ggL_ask_X5_northQueue : GoodIn wsL_ask wsX5_northQueue := goodIn_ca (goodIn_r _ [31, 32, 33, 5, 34, 11, 12, 13, 14, 15, 35, 36, 37, 38, 39, 79, 80, 81, 82, 83, 84, 85, 62, 63, 64, 65, 66, 67, 68, 69, 70, 71, 72, 73, 74] (by decide +kernel) (by decide +kernel)) (goodIn_sub (fun _ h => List.mem_cons_of_mem _ (List.mem_append_right _ h)) (by decide +kernel))
set_option maxRecDepth 20000 in
theorem gL_ask_X5_northQueue : GoodIn wsL_ask (wsV RL 69 RX5 yX5_northQueue wsX5_northQueue) := goodIn_app (goodIn_of _ (by decide +kernel)) ggL_ask_X5_northQueue
set_option maxRecDepth 20000 in
theorem ggL_ask_X5_southQueue : GoodIn wsL_ask wsX5_southQueue := goodIn_ca (goodIn_r _ [43, 32, 33, 5, 34, 11, 12, 13, 14, 15, 44, 45, 46, 47, 48, 79, 80, 81, 82, 83, 84, 85, 62, 63, 64, 65, 66, 67, 68, 69, 70, 71, 72, 73, 74] (by decide +kernel) (by decide +kernel)) (goodIn_sub (fun _ h => List.mem_cons_of_mem _ (List.mem_append_right _ h)) (by decide +kernel))
set_option maxRecDepth 20000 in
theorem gL_ask_X5_southQueue : GoodIn wsL_ask (wsV RL 72 RX5 yX5_southQueue wsX5_southQueue) := goodIn_app (goodIn_of _ (by decide +kernel)) ggL_ask_X5_southQueue
set_option maxRecDepth 20000 in
theorem ggL_ask_X5_northCredits : GoodIn wsL_ask wsX5_northCredits := goodIn_ca (goodIn_r _ [52, 32, 33, 5, 34, 11, 12, 13, 14, 15, 35, 36, 37, 38, 39, 79, 80, 81, 82, 83, 84, 85, 62, 63, 64, 65, 66, 67, 68, 69, 70, 71, 72, 73, 74] (by decide +kernel) (by decide +kernel)) (goodIn_sub (fun _ h => List.mem_cons_of_mem _ (List.mem_append_right _ h)) (by decide +kernel))
set_option maxRecDepth 20000 in
theorem gL_ask_X5_northCredits : GoodIn wsL_ask (wsV RL 75 RX5 yX5_northCredits wsX5_northCredits) := goodIn_app (goodIn_of _ (by decide +kernel)) ggL_ask_X5_northCredits
set_option maxRecDepth 20000 in
theorem ggL_ask_X5_usable : GoodIn wsL_ask wsX5_usable := goodIn_ca (goodIn_r _ [56, 11, 12, 13, 14, 5, 15, 57, 58, 59, 60, 61, 62, 63, 64, 65, 66, 67, 68, 69, 70, 71, 72, 73, 74] (by decide +kernel) (by decide +kernel)) (goodIn_sub (fun _ h => List.mem_cons_of_mem _ (List.mem_append_right _ h)) (by decide +kernel))
set_option maxRecDepth 20000 in
theorem gL_ask_X5_usable : GoodIn wsL_ask (wsV RL 78 RX5 yX5_usable wsX5_usable) := goodIn_app (goodIn_of _ (by decide +kernel)) ggL_ask_X5_usable
theorem dL_ask_0 : decode cL_ask 0 = .ok (.iload_n 1, 1) := by decide +kernel
theorem dL_ask_1 : decode cL_ask 1 = .ok (.ifCond .ne 11, 3) := by decide +kernel
theorem dL_ask_4 : decode cL_ask 4 = .ok (.aload_n 0, 1) := by decide +kernel
theorem dL_ask_5 : decode cL_ask 5 = .ok (.iload_n 2, 1) := by decide +kernel
theorem dL_ask_6 : decode cL_ask 6 = .ok (.invokevirtual 57, 3) := by decide +kernel
theorem dL_ask_9 : decode cL_ask 9 = .ok (.goto 91, 3) := by decide +kernel
theorem dL_ask_12 : decode cL_ask 12 = .ok (.iload_n 1, 1) := by decide +kernel
theorem dL_ask_13 : decode cL_ask 13 = .ok (.iconst 1, 1) := by decide +kernel
theorem dL_ask_14 : decode cL_ask 14 = .ok (.if_icmp .ne 11, 3) := by decide +kernel
theorem dL_ask_17 : decode cL_ask 17 = .ok (.aload_n 0, 1) := by decide +kernel
theorem dL_ask_18 : decode cL_ask 18 = .ok (.iload_n 2, 1) := by decide +kernel
theorem dL_ask_19 : decode cL_ask 19 = .ok (.invokevirtual 60, 3) := by decide +kernel
theorem dL_ask_22 : decode cL_ask 22 = .ok (.goto 78, 3) := by decide +kernel
theorem dL_ask_25 : decode cL_ask 25 = .ok (.iload_n 1, 1) := by decide +kernel
theorem dL_ask_26 : decode cL_ask 26 = .ok (.iconst 2, 1) := by decide +kernel
theorem dL_ask_27 : decode cL_ask 27 = .ok (.if_icmp .ne 11, 3) := by decide +kernel
theorem dL_ask_30 : decode cL_ask 30 = .ok (.aload_n 0, 1) := by decide +kernel
theorem dL_ask_31 : decode cL_ask 31 = .ok (.iload_n 2, 1) := by decide +kernel
theorem dL_ask_32 : decode cL_ask 32 = .ok (.invokevirtual 63, 3) := by decide +kernel
theorem dL_ask_35 : decode cL_ask 35 = .ok (.goto 65, 3) := by decide +kernel
theorem dL_ask_38 : decode cL_ask 38 = .ok (.iload_n 1, 1) := by decide +kernel
theorem dL_ask_39 : decode cL_ask 39 = .ok (.iconst 3, 1) := by decide +kernel
theorem dL_ask_40 : decode cL_ask 40 = .ok (.if_icmp .ne 11, 3) := by decide +kernel
theorem dL_ask_43 : decode cL_ask 43 = .ok (.aload_n 0, 1) := by decide +kernel
theorem dL_ask_44 : decode cL_ask 44 = .ok (.iload_n 2, 1) := by decide +kernel
theorem dL_ask_45 : decode cL_ask 45 = .ok (.invokevirtual 66, 3) := by decide +kernel
theorem dL_ask_48 : decode cL_ask 48 = .ok (.goto 52, 3) := by decide +kernel
theorem dL_ask_51 : decode cL_ask 51 = .ok (.iload_n 1, 1) := by decide +kernel
theorem dL_ask_52 : decode cL_ask 52 = .ok (.iconst 4, 1) := by decide +kernel
theorem dL_ask_53 : decode cL_ask 53 = .ok (.if_icmp .ne 12, 3) := by decide +kernel
theorem dL_ask_56 : decode cL_ask 56 = .ok (.aload_n 0, 1) := by decide +kernel
theorem dL_ask_57 : decode cL_ask 57 = .ok (.iload_n 2, 1) := by decide +kernel
theorem dL_ask_58 : decode cL_ask 58 = .ok (.iload_n 3, 1) := by decide +kernel
theorem dL_ask_59 : decode cL_ask 59 = .ok (.invokevirtual 69, 3) := by decide +kernel
theorem dL_ask_62 : decode cL_ask 62 = .ok (.goto 38, 3) := by decide +kernel
theorem dL_ask_65 : decode cL_ask 65 = .ok (.iload_n 1, 1) := by decide +kernel
theorem dL_ask_66 : decode cL_ask 66 = .ok (.iconst 5, 1) := by decide +kernel
theorem dL_ask_67 : decode cL_ask 67 = .ok (.if_icmp .ne 12, 3) := by decide +kernel
theorem dL_ask_70 : decode cL_ask 70 = .ok (.aload_n 0, 1) := by decide +kernel
theorem dL_ask_71 : decode cL_ask 71 = .ok (.iload_n 2, 1) := by decide +kernel
theorem dL_ask_72 : decode cL_ask 72 = .ok (.iload_n 3, 1) := by decide +kernel
theorem dL_ask_73 : decode cL_ask 73 = .ok (.invokevirtual 72, 3) := by decide +kernel
theorem dL_ask_76 : decode cL_ask 76 = .ok (.goto 24, 3) := by decide +kernel
theorem dL_ask_79 : decode cL_ask 79 = .ok (.iload_n 1, 1) := by decide +kernel
theorem dL_ask_80 : decode cL_ask 80 = .ok (.bipush 6, 2) := by decide +kernel
theorem dL_ask_82 : decode cL_ask 82 = .ok (.if_icmp .ne 12, 3) := by decide +kernel
theorem dL_ask_85 : decode cL_ask 85 = .ok (.aload_n 0, 1) := by decide +kernel
theorem dL_ask_86 : decode cL_ask 86 = .ok (.iload_n 2, 1) := by decide +kernel
theorem dL_ask_87 : decode cL_ask 87 = .ok (.iload_n 3, 1) := by decide +kernel
theorem dL_ask_88 : decode cL_ask 88 = .ok (.invokevirtual 75, 3) := by decide +kernel
theorem dL_ask_91 : decode cL_ask 91 = .ok (.goto 9, 3) := by decide +kernel
theorem dL_ask_94 : decode cL_ask 94 = .ok (.aload_n 0, 1) := by decide +kernel
theorem dL_ask_95 : decode cL_ask 95 = .ok (.iload_n 2, 1) := by decide +kernel
theorem dL_ask_96 : decode cL_ask 96 = .ok (.iload_n 3, 1) := by decide +kernel
theorem dL_ask_97 : decode cL_ask 97 = .ok (.invokevirtual 78, 3) := by decide +kernel
theorem dL_ask_100 : decode cL_ask 100 = .ok (.ireturn, 1) := by decide +kernel
theorem dL_ask_101 : decode cL_ask 101 = .ok (.astore 4, 2) := by decide +kernel
theorem dL_ask_103 : decode cL_ask 103 = .ok (.bipush (-62), 2) := by decide +kernel
theorem dL_ask_105 : decode cL_ask 105 = .ok (.ireturn, 1) := by decide +kernel
theorem dL_source_0 : decode cL_source 0 = .ok (.aload_n 0, 1) := by decide +kernel
theorem dL_source_1 : decode cL_source 1 = .ok (.iload_n 1, 1) := by decide +kernel
theorem dL_source_2 : decode cL_source 2 = .ok (.iaload, 1) := by decide +kernel
theorem dL_source_3 : decode cL_source 3 = .ok (.bipush 15, 2) := by decide +kernel
theorem dL_source_5 : decode cL_source 5 = .ok (.iand, 1) := by decide +kernel
theorem dL_source_6 : decode cL_source 6 = .ok (.ireturn, 1) := by decide +kernel
theorem dL_target_0 : decode cL_target 0 = .ok (.aload_n 0, 1) := by decide +kernel
theorem dL_target_1 : decode cL_target 1 = .ok (.iload_n 1, 1) := by decide +kernel
theorem dL_target_2 : decode cL_target 2 = .ok (.iaload, 1) := by decide +kernel
theorem dL_target_3 : decode cL_target 3 = .ok (.iconst 4, 1) := by decide +kernel
theorem dL_target_4 : decode cL_target 4 = .ok (.ishr, 1) := by decide +kernel
theorem dL_target_5 : decode cL_target 5 = .ok (.bipush 15, 2) := by decide +kernel
theorem dL_target_7 : decode cL_target 7 = .ok (.iand, 1) := by decide +kernel
theorem dL_target_8 : decode cL_target 8 = .ok (.ireturn, 1) := by decide +kernel
theorem dL_packets_0 : decode cL_packets 0 = .ok (.aload_n 0, 1) := by decide +kernel
theorem dL_packets_1 : decode cL_packets 1 = .ok (.iload_n 1, 1) := by decide +kernel
theorem dL_packets_2 : decode cL_packets 2 = .ok (.iaload, 1) := by decide +kernel
theorem dL_packets_3 : decode cL_packets 3 = .ok (.bipush 8, 2) := by decide +kernel
theorem dL_packets_5 : decode cL_packets 5 = .ok (.ishr, 1) := by decide +kernel
theorem dL_packets_6 : decode cL_packets 6 = .ok (.sipush 255, 3) := by decide +kernel
theorem dL_packets_9 : decode cL_packets 9 = .ok (.iand, 1) := by decide +kernel
theorem dL_packets_10 : decode cL_packets 10 = .ok (.ireturn, 1) := by decide +kernel
theorem dL_start_0 : decode cL_start 0 = .ok (.aload_n 0, 1) := by decide +kernel
theorem dL_start_1 : decode cL_start 1 = .ok (.iload_n 1, 1) := by decide +kernel
theorem dL_start_2 : decode cL_start 2 = .ok (.iaload, 1) := by decide +kernel
theorem dL_start_3 : decode cL_start 3 = .ok (.bipush 16, 2) := by decide +kernel
theorem dL_start_5 : decode cL_start 5 = .ok (.ishr, 1) := by decide +kernel
theorem dL_start_6 : decode cL_start 6 = .ok (.ireturn, 1) := by decide +kernel
set_option maxRecDepth 20000 in
theorem ggL_isFar_L_source : GoodIn wsL_isFar wsL_source := goodIn_r _ [4] (by decide +kernel) (by decide +kernel)
set_option maxRecDepth 20000 in
theorem gL_isFar_L_source : GoodIn wsL_isFar (va_wsS RL 81 yL_source wsL_source) := goodIn_app (goodIn_of _ (by decide +kernel)) ggL_isFar_L_source
set_option maxRecDepth 20000 in
theorem ggL_isFar_L_target : GoodIn wsL_isFar wsL_target := goodIn_r _ [7] (by decide +kernel) (by decide +kernel)
set_option maxRecDepth 20000 in
theorem gL_isFar_L_target : GoodIn wsL_isFar (va_wsS RL 87 yL_target wsL_target) := goodIn_app (goodIn_of _ (by decide +kernel)) ggL_isFar_L_target
theorem dL_isFar_0 : decode cL_isFar 0 = .ok (.aload_n 0, 1) := by decide +kernel
theorem dL_isFar_1 : decode cL_isFar 1 = .ok (.iload_n 1, 1) := by decide +kernel
theorem dL_isFar_2 : decode cL_isFar 2 = .ok (.invokestatic 81, 3) := by decide +kernel
theorem dL_isFar_5 : decode cL_isFar 5 = .ok (.iconst 4, 1) := by decide +kernel
theorem dL_isFar_6 : decode cL_isFar 6 = .ok (.idiv, 1) := by decide +kernel
theorem dL_isFar_7 : decode cL_isFar 7 = .ok (.aload_n 0, 1) := by decide +kernel
theorem dL_isFar_8 : decode cL_isFar 8 = .ok (.iload_n 1, 1) := by decide +kernel
theorem dL_isFar_9 : decode cL_isFar 9 = .ok (.invokestatic 87, 3) := by decide +kernel
theorem dL_isFar_12 : decode cL_isFar 12 = .ok (.iconst 4, 1) := by decide +kernel
theorem dL_isFar_13 : decode cL_isFar 13 = .ok (.idiv, 1) := by decide +kernel
theorem dL_isFar_14 : decode cL_isFar 14 = .ok (.if_icmp .eq 7, 3) := by decide +kernel
theorem dL_isFar_17 : decode cL_isFar 17 = .ok (.iconst 1, 1) := by decide +kernel
theorem dL_isFar_18 : decode cL_isFar 18 = .ok (.goto 4, 3) := by decide +kernel
theorem dL_isFar_21 : decode cL_isFar 21 = .ok (.iconst 0, 1) := by decide +kernel
theorem dL_isFar_22 : decode cL_isFar 22 = .ok (.ireturn, 1) := by decide +kernel
set_option maxRecDepth 20000 in
theorem ggL_flows_X5_flows : GoodIn wsL_flows wsX5_flows := goodIn_r _ [14, 15, 59, 60, 61, 62, 63, 64, 65, 66, 67, 68, 69, 70, 71] (by decide +kernel) (by decide +kernel)
set_option maxRecDepth 20000 in
theorem gL_flows_X5_flows : GoodIn wsL_flows (wsV RL 92 RX5 yX5_flows wsX5_flows) := goodIn_app (goodIn_of _ (by decide +kernel)) ggL_flows_X5_flows
set_option maxRecDepth 20000 in
theorem ggL_flows_X5_clock : GoodIn wsL_flows wsX5_clock := goodIn_r _ [19, 20, 59, 60, 61, 62, 63, 64, 65, 66, 67, 68, 69, 70, 71] (by decide +kernel) (by decide +kernel)
set_option maxRecDepth 20000 in
theorem gL_flows_X5_clock : GoodIn wsL_flows (wsV RL 98 RX5 yX5_clock wsX5_clock) := goodIn_app (goodIn_of _ (by decide +kernel)) ggL_flows_X5_clock
set_option maxRecDepth 20000 in
theorem ggL_flows_X5_sent : GoodIn wsL_flows wsX5_sent := goodIn_ca (goodIn_r _ [24, 25, 26, 27, 28, 13, 29, 30, 31, 15, 32, 33, 34, 59, 60, 61, 62, 63, 64, 65, 66, 67, 68, 69, 70, 71, 72, 73, 74, 75, 76, 77, 78, 79, 80, 81, 82, 83, 84] (by decide +kernel) (by decide +kernel)) (goodIn_sub (fun _ h => List.mem_cons_of_mem _ (List.mem_append_right _ h)) (by decide +kernel))
set_option maxRecDepth 20000 in
theorem gL_flows_X5_sent : GoodIn wsL_flows (wsV RL 34 RX5 yX5_sent wsX5_sent) := goodIn_app (goodIn_of _ (by decide +kernel)) ggL_flows_X5_sent
set_option maxRecDepth 20000 in
theorem ggL_flows_X5_delivered : GoodIn wsL_flows wsX5_delivered := goodIn_ca (goodIn_r _ [38, 25, 26, 27, 28, 13, 29, 30, 31, 15, 32, 33, 34, 59, 60, 61, 62, 63, 64, 65, 66, 67, 68, 69, 70, 71, 72, 73, 74, 75, 76, 77, 78, 79, 80, 81, 82, 83, 84] (by decide +kernel) (by decide +kernel)) (goodIn_sub (fun _ h => List.mem_cons_of_mem _ (List.mem_append_right _ h)) (by decide +kernel))
set_option maxRecDepth 20000 in
theorem gL_flows_X5_delivered : GoodIn wsL_flows (wsV RL 37 RX5 yX5_delivered wsX5_delivered) := goodIn_app (goodIn_of _ (by decide +kernel)) ggL_flows_X5_delivered
set_option maxRecDepth 20000 in
theorem ggL_flows_X5_lost : GoodIn wsL_flows wsX5_lost := goodIn_ca (goodIn_r _ [42, 25, 26, 27, 28, 13, 29, 30, 31, 15, 32, 33, 34, 59, 60, 61, 62, 63, 64, 65, 66, 67, 68, 69, 70, 71, 72, 73, 74, 75, 76, 77, 78, 79, 80, 81, 82, 83, 84] (by decide +kernel) (by decide +kernel)) (goodIn_sub (fun _ h => List.mem_cons_of_mem _ (List.mem_append_right _ h)) (by decide +kernel))
set_option maxRecDepth 20000 in
theorem gL_flows_X5_lost : GoodIn wsL_flows (wsV RL 40 RX5 yX5_lost wsX5_lost) := goodIn_app (goodIn_of _ (by decide +kernel)) ggL_flows_X5_lost
set_option maxRecDepth 20000 in
theorem ggL_flows_X5_outOfOrder : GoodIn wsL_flows wsX5_outOfOrder := goodIn_ca (goodIn_r _ [46, 25, 26, 27, 28, 13, 29, 30, 31, 15, 32, 33, 34, 59, 60, 61, 62, 63, 64, 65, 66, 67, 68, 69, 70, 71, 72, 73, 74, 75, 76, 77, 78, 79, 80, 81, 82, 83, 84] (by decide +kernel) (by decide +kernel)) (goodIn_sub (fun _ h => List.mem_cons_of_mem _ (List.mem_append_right _ h)) (by decide +kernel))
set_option maxRecDepth 20000 in
theorem gL_flows_X5_outOfOrder : GoodIn wsL_flows (wsV RL 43 RX5 yX5_outOfOrder wsX5_outOfOrder) := goodIn_app (goodIn_of _ (by decide +kernel)) ggL_flows_X5_outOfOrder
set_option maxRecDepth 20000 in
theorem ggL_flows_X5_doneIn : GoodIn wsL_flows wsX5_doneIn := goodIn_ca (goodIn_r _ [50, 25, 26, 27, 28, 13, 29, 30, 31, 15, 32, 33, 34, 59, 60, 61, 62, 63, 64, 65, 66, 67, 68, 69, 70, 71, 72, 73, 74, 75, 76, 77, 78, 79, 80, 81, 82, 83, 84] (by decide +kernel) (by decide +kernel)) (goodIn_sub (fun _ h => List.mem_cons_of_mem _ (List.mem_append_right _ h)) (by decide +kernel))
set_option maxRecDepth 20000 in
theorem gL_flows_X5_doneIn : GoodIn wsL_flows (wsV RL 46 RX5 yX5_doneIn wsX5_doneIn) := goodIn_app (goodIn_of _ (by decide +kernel)) ggL_flows_X5_doneIn
set_option maxRecDepth 20000 in
theorem ggL_flows_X5_flowlets : GoodIn wsL_flows wsX5_flowlets := goodIn_ca (goodIn_r _ [54, 25, 26, 27, 28, 13, 29, 30, 31, 15, 32, 33, 34, 59, 60, 61, 62, 63, 64, 65, 66, 67, 68, 69, 70, 71, 72, 73, 74, 75, 76, 77, 78, 79, 80, 81, 82, 83, 84] (by decide +kernel) (by decide +kernel)) (goodIn_sub (fun _ h => List.mem_cons_of_mem _ (List.mem_append_right _ h)) (by decide +kernel))
set_option maxRecDepth 20000 in
theorem gL_flows_X5_flowlets : GoodIn wsL_flows (wsV RL 49 RX5 yX5_flowlets wsX5_flowlets) := goodIn_app (goodIn_of _ (by decide +kernel)) ggL_flows_X5_flowlets
set_option maxRecDepth 20000 in
theorem ggL_flows_X5_spineOf : GoodIn wsL_flows wsX5_spineOf := goodIn_ca (goodIn_r _ [58, 25, 26, 27, 28, 13, 29, 30, 31, 15, 32, 33, 34, 59, 60, 61, 62, 63, 64, 65, 66, 67, 68, 69, 70, 71, 72, 73, 74, 75, 76, 77, 78, 79, 80, 81, 82, 83, 84] (by decide +kernel) (by decide +kernel)) (goodIn_sub (fun _ h => List.mem_cons_of_mem _ (List.mem_append_right _ h)) (by decide +kernel))
set_option maxRecDepth 20000 in
theorem gL_flows_X5_spineOf : GoodIn wsL_flows (wsV RL 52 RX5 yX5_spineOf wsX5_spineOf) := goodIn_app (goodIn_of _ (by decide +kernel)) ggL_flows_X5_spineOf
theorem dL_flows_0 : decode cL_flows 0 = .ok (.ldc2_w 90, 3) := by decide +kernel
theorem dL_flows_3 : decode cL_flows 3 = .ok (.aload_n 0, 1) := by decide +kernel
theorem dL_flows_4 : decode cL_flows 4 = .ok (.invokevirtual 92, 3) := by decide +kernel
theorem dL_flows_7 : decode cL_flows 7 = .ok (.i2l, 1) := by decide +kernel
theorem dL_flows_8 : decode cL_flows 8 = .ok (.lmul, 1) := by decide +kernel
theorem dL_flows_9 : decode cL_flows 9 = .ok (.ldc2_w 96, 3) := by decide +kernel
theorem dL_flows_12 : decode cL_flows 12 = .ok (.aload_n 0, 1) := by decide +kernel
theorem dL_flows_13 : decode cL_flows 13 = .ok (.invokevirtual 98, 3) := by decide +kernel
theorem dL_flows_16 : decode cL_flows 16 = .ok (.i2l, 1) := by decide +kernel
theorem dL_flows_17 : decode cL_flows 17 = .ok (.lmul, 1) := by decide +kernel
theorem dL_flows_18 : decode cL_flows 18 = .ok (.ladd, 1) := by decide +kernel
theorem dL_flows_19 : decode cL_flows 19 = .ok (.lstore_n 1, 1) := by decide +kernel
theorem dL_flows_20 : decode cL_flows 20 = .ok (.iconst 0, 1) := by decide +kernel
theorem dL_flows_21 : decode cL_flows 21 = .ok (.istore_n 3, 1) := by decide +kernel
theorem dL_flows_22 : decode cL_flows 22 = .ok (.iload_n 3, 1) := by decide +kernel
theorem dL_flows_23 : decode cL_flows 23 = .ok (.aload_n 0, 1) := by decide +kernel
theorem dL_flows_24 : decode cL_flows 24 = .ok (.invokevirtual 92, 3) := by decide +kernel
theorem dL_flows_27 : decode cL_flows 27 = .ok (.if_icmp .ge 88, 3) := by decide +kernel
theorem dL_flows_30 : decode cL_flows 30 = .ok (.ldc2_w 101, 3) := by decide +kernel
theorem dL_flows_33 : decode cL_flows 33 = .ok (.lload_n 1, 1) := by decide +kernel
theorem dL_flows_34 : decode cL_flows 34 = .ok (.lmul, 1) := by decide +kernel
theorem dL_flows_35 : decode cL_flows 35 = .ok (.aload_n 0, 1) := by decide +kernel
theorem dL_flows_36 : decode cL_flows 36 = .ok (.iload_n 3, 1) := by decide +kernel
theorem dL_flows_37 : decode cL_flows 37 = .ok (.invokevirtual 34, 3) := by decide +kernel
theorem dL_flows_40 : decode cL_flows 40 = .ok (.i2l, 1) := by decide +kernel
theorem dL_flows_41 : decode cL_flows 41 = .ok (.ladd, 1) := by decide +kernel
theorem dL_flows_42 : decode cL_flows 42 = .ok (.ldc2_w 103, 3) := by decide +kernel
theorem dL_flows_45 : decode cL_flows 45 = .ok (.aload_n 0, 1) := by decide +kernel
theorem dL_flows_46 : decode cL_flows 46 = .ok (.iload_n 3, 1) := by decide +kernel
theorem dL_flows_47 : decode cL_flows 47 = .ok (.invokevirtual 37, 3) := by decide +kernel
theorem dL_flows_50 : decode cL_flows 50 = .ok (.i2l, 1) := by decide +kernel
theorem dL_flows_51 : decode cL_flows 51 = .ok (.lmul, 1) := by decide +kernel
theorem dL_flows_52 : decode cL_flows 52 = .ok (.ladd, 1) := by decide +kernel
theorem dL_flows_53 : decode cL_flows 53 = .ok (.ldc2_w 105, 3) := by decide +kernel
theorem dL_flows_56 : decode cL_flows 56 = .ok (.aload_n 0, 1) := by decide +kernel
theorem dL_flows_57 : decode cL_flows 57 = .ok (.iload_n 3, 1) := by decide +kernel
theorem dL_flows_58 : decode cL_flows 58 = .ok (.invokevirtual 40, 3) := by decide +kernel
theorem dL_flows_61 : decode cL_flows 61 = .ok (.i2l, 1) := by decide +kernel
theorem dL_flows_62 : decode cL_flows 62 = .ok (.lmul, 1) := by decide +kernel
theorem dL_flows_63 : decode cL_flows 63 = .ok (.ladd, 1) := by decide +kernel
theorem dL_flows_64 : decode cL_flows 64 = .ok (.ldc2_w 107, 3) := by decide +kernel
theorem dL_flows_67 : decode cL_flows 67 = .ok (.aload_n 0, 1) := by decide +kernel
theorem dL_flows_68 : decode cL_flows 68 = .ok (.iload_n 3, 1) := by decide +kernel
theorem dL_flows_69 : decode cL_flows 69 = .ok (.invokevirtual 43, 3) := by decide +kernel
theorem dL_flows_72 : decode cL_flows 72 = .ok (.i2l, 1) := by decide +kernel
theorem dL_flows_73 : decode cL_flows 73 = .ok (.lmul, 1) := by decide +kernel
theorem dL_flows_74 : decode cL_flows 74 = .ok (.ladd, 1) := by decide +kernel
theorem dL_flows_75 : decode cL_flows 75 = .ok (.ldc2_w 109, 3) := by decide +kernel
theorem dL_flows_78 : decode cL_flows 78 = .ok (.aload_n 0, 1) := by decide +kernel
theorem dL_flows_79 : decode cL_flows 79 = .ok (.iload_n 3, 1) := by decide +kernel
theorem dL_flows_80 : decode cL_flows 80 = .ok (.invokevirtual 46, 3) := by decide +kernel
theorem dL_flows_83 : decode cL_flows 83 = .ok (.i2l, 1) := by decide +kernel
theorem dL_flows_84 : decode cL_flows 84 = .ok (.lmul, 1) := by decide +kernel
theorem dL_flows_85 : decode cL_flows 85 = .ok (.ladd, 1) := by decide +kernel
theorem dL_flows_86 : decode cL_flows 86 = .ok (.ldc2_w 111, 3) := by decide +kernel
theorem dL_flows_89 : decode cL_flows 89 = .ok (.aload_n 0, 1) := by decide +kernel
theorem dL_flows_90 : decode cL_flows 90 = .ok (.iload_n 3, 1) := by decide +kernel
theorem dL_flows_91 : decode cL_flows 91 = .ok (.invokevirtual 49, 3) := by decide +kernel
theorem dL_flows_94 : decode cL_flows 94 = .ok (.i2l, 1) := by decide +kernel
theorem dL_flows_95 : decode cL_flows 95 = .ok (.lmul, 1) := by decide +kernel
theorem dL_flows_96 : decode cL_flows 96 = .ok (.ladd, 1) := by decide +kernel
theorem dL_flows_97 : decode cL_flows 97 = .ok (.ldc2_w 113, 3) := by decide +kernel
theorem dL_flows_100 : decode cL_flows 100 = .ok (.aload_n 0, 1) := by decide +kernel
theorem dL_flows_101 : decode cL_flows 101 = .ok (.iload_n 3, 1) := by decide +kernel
theorem dL_flows_102 : decode cL_flows 102 = .ok (.invokevirtual 52, 3) := by decide +kernel
theorem dL_flows_105 : decode cL_flows 105 = .ok (.i2l, 1) := by decide +kernel
theorem dL_flows_106 : decode cL_flows 106 = .ok (.lmul, 1) := by decide +kernel
theorem dL_flows_107 : decode cL_flows 107 = .ok (.ladd, 1) := by decide +kernel
theorem dL_flows_108 : decode cL_flows 108 = .ok (.lstore_n 1, 1) := by decide +kernel
theorem dL_flows_109 : decode cL_flows 109 = .ok (.iinc 3 1, 3) := by decide +kernel
theorem dL_flows_112 : decode cL_flows 112 = .ok (.goto (-90), 3) := by decide +kernel
theorem dL_flows_115 : decode cL_flows 115 = .ok (.lload_n 1, 1) := by decide +kernel
theorem dL_flows_116 : decode cL_flows 116 = .ok (.lreturn, 1) := by decide +kernel
