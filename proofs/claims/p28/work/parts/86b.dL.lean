set_option maxRecDepth 20000 in
theorem ggL_links_X5_returning : GoodIn wsL_links wsX5_returning := goodIn_r _ [14, 15, 16, 17, 18, 19, 20, 84, 85, 86, 87, 88, 89, 90, 91, 92, 93, 94, 95, 96, 97, 98, 99, 100, 101, 102, 103] (by decide +kernel) (by decide +kernel)
set_option maxRecDepth 20000 in
theorem gL_links_X5_returning : GoodIn wsL_links (wsV RL 117 RX5 yX5_returning wsX5_returning) := goodIn_app (goodIn_of _ (by decide +kernel)) ggL_links_X5_returning
set_option maxRecDepth 20000 in
theorem ggL_links_X5_queued : GoodIn wsL_links wsX5_queued := goodIn_r _ [24, 15, 84, 85, 86, 87, 88, 89, 90, 91, 92, 93, 94, 95, 96, 97, 98, 99, 100, 101, 102, 103] (by decide +kernel) (by decide +kernel)
set_option maxRecDepth 20000 in
theorem gL_links_X5_queued : GoodIn wsL_links (wsV RL 120 RX5 yX5_queued wsX5_queued) := goodIn_app (goodIn_of _ (by decide +kernel)) ggL_links_X5_queued
set_option maxRecDepth 20000 in
theorem ggL_links_X5_upQueue : GoodIn wsL_links wsX5_upQueue := goodIn_ca (goodIn_r _ [28, 29, 30, 31, 13, 32, 33, 34, 35, 36, 37, 84, 85, 86, 87, 88, 89, 90, 91, 92, 93, 94, 95, 96, 104, 105, 106, 107, 97, 98, 99, 100, 101, 102, 103] (by decide +kernel) (by decide +kernel)) (goodIn_sub (fun _ h => List.mem_cons_of_mem _ (List.mem_append_right _ h)) (by decide +kernel))
set_option maxRecDepth 20000 in
theorem gL_links_X5_upQueue : GoodIn wsL_links (wsV RL 57 RX5 yX5_upQueue wsX5_upQueue) := goodIn_app (goodIn_of _ (by decide +kernel)) ggL_links_X5_upQueue
set_option maxRecDepth 20000 in
theorem ggL_links_X5_downQueue : GoodIn wsL_links wsX5_downQueue := goodIn_ca (goodIn_r _ [41, 29, 30, 31, 13, 32, 33, 34, 35, 36, 37, 84, 85, 86, 87, 88, 89, 90, 91, 92, 93, 94, 95, 96, 104, 105, 106, 107, 97, 98, 99, 100, 101, 102, 103] (by decide +kernel) (by decide +kernel)) (goodIn_sub (fun _ h => List.mem_cons_of_mem _ (List.mem_append_right _ h)) (by decide +kernel))
set_option maxRecDepth 20000 in
theorem gL_links_X5_downQueue : GoodIn wsL_links (wsV RL 60 RX5 yX5_downQueue wsX5_downQueue) := goodIn_app (goodIn_of _ (by decide +kernel)) ggL_links_X5_downQueue
set_option maxRecDepth 20000 in
theorem ggL_links_X5_northQueue : GoodIn wsL_links wsX5_northQueue := goodIn_ca (goodIn_r _ [45, 46, 47, 13, 48, 33, 34, 35, 36, 37, 49, 50, 51, 52, 53, 97, 98, 99, 100, 101, 102, 103, 84, 85, 86, 87, 88, 89, 90, 91, 92, 93, 94, 95, 96] (by decide +kernel) (by decide +kernel)) (goodIn_sub (fun _ h => List.mem_cons_of_mem _ (List.mem_append_right _ h)) (by decide +kernel))
set_option maxRecDepth 20000 in
theorem gL_links_X5_northQueue : GoodIn wsL_links (wsV RL 69 RX5 yX5_northQueue wsX5_northQueue) := goodIn_app (goodIn_of _ (by decide +kernel)) ggL_links_X5_northQueue
set_option maxRecDepth 20000 in
theorem ggL_links_X5_southQueue : GoodIn wsL_links wsX5_southQueue := goodIn_ca (goodIn_r _ [57, 46, 47, 13, 48, 33, 34, 35, 36, 37, 58, 59, 60, 61, 62, 97, 98, 99, 100, 101, 102, 103, 84, 85, 86, 87, 88, 89, 90, 91, 92, 93, 94, 95, 96] (by decide +kernel) (by decide +kernel)) (goodIn_sub (fun _ h => List.mem_cons_of_mem _ (List.mem_append_right _ h)) (by decide +kernel))
set_option maxRecDepth 20000 in
theorem gL_links_X5_southQueue : GoodIn wsL_links (wsV RL 72 RX5 yX5_southQueue wsX5_southQueue) := goodIn_app (goodIn_of _ (by decide +kernel)) ggL_links_X5_southQueue
set_option maxRecDepth 20000 in
theorem ggL_links_X5_upCredits : GoodIn wsL_links wsX5_upCredits := goodIn_ca (goodIn_r _ [66, 29, 30, 31, 13, 32, 33, 34, 35, 36, 37, 84, 85, 86, 87, 88, 89, 90, 91, 92, 93, 94, 95, 96, 104, 105, 106, 107, 97, 98, 99, 100, 101, 102, 103] (by decide +kernel) (by decide +kernel)) (goodIn_sub (fun _ h => List.mem_cons_of_mem _ (List.mem_append_right _ h)) (by decide +kernel))
set_option maxRecDepth 20000 in
theorem gL_links_X5_upCredits : GoodIn wsL_links (wsV RL 63 RX5 yX5_upCredits wsX5_upCredits) := goodIn_app (goodIn_of _ (by decide +kernel)) ggL_links_X5_upCredits
set_option maxRecDepth 20000 in
theorem ggL_links_X5_northCredits : GoodIn wsL_links wsX5_northCredits := goodIn_ca (goodIn_r _ [70, 46, 47, 13, 48, 33, 34, 35, 36, 37, 49, 50, 51, 52, 53, 97, 98, 99, 100, 101, 102, 103, 84, 85, 86, 87, 88, 89, 90, 91, 92, 93, 94, 95, 96] (by decide +kernel) (by decide +kernel)) (goodIn_sub (fun _ h => List.mem_cons_of_mem _ (List.mem_append_right _ h)) (by decide +kernel))
set_option maxRecDepth 20000 in
theorem gL_links_X5_northCredits : GoodIn wsL_links (wsV RL 75 RX5 yX5_northCredits wsX5_northCredits) := goodIn_app (goodIn_of _ (by decide +kernel)) ggL_links_X5_northCredits
set_option maxRecDepth 20000 in
theorem ggL_links_X5_open : GoodIn wsL_links wsX5_open := goodIn_ca (goodIn_r _ [74, 29, 30, 31, 13, 32, 33, 34, 35, 36, 37, 84, 85, 86, 87, 88, 89, 90, 91, 92, 93, 94, 95, 96, 104, 105, 106, 107] (by decide +kernel) (by decide +kernel)) (goodIn_sub (fun _ h => List.mem_cons_of_mem _ (List.mem_append_right _ h)) (by decide +kernel))
set_option maxRecDepth 20000 in
theorem gL_links_X5_open : GoodIn wsL_links (wsV RL 66 RX5 yX5_open wsX5_open) := goodIn_app (goodIn_of _ (by decide +kernel)) ggL_links_X5_open
set_option maxRecDepth 20000 in
theorem ggL_links_X5_usable : GoodIn wsL_links wsX5_usable := goodIn_ca (goodIn_r _ [78, 33, 34, 35, 36, 13, 37, 79, 80, 81, 82, 83, 84, 85, 86, 87, 88, 89, 90, 91, 92, 93, 94, 95, 96] (by decide +kernel) (by decide +kernel)) (goodIn_sub (fun _ h => List.mem_cons_of_mem _ (List.mem_append_right _ h)) (by decide +kernel))
set_option maxRecDepth 20000 in
theorem gL_links_X5_usable : GoodIn wsL_links (wsV RL 78 RX5 yX5_usable wsX5_usable) := goodIn_app (goodIn_of _ (by decide +kernel)) ggL_links_X5_usable
theorem dL_links_0 : decode cL_links 0 = .ok (.ldc2_w 115, 3) := by decide +kernel
theorem dL_links_3 : decode cL_links 3 = .ok (.aload_n 0, 1) := by decide +kernel
theorem dL_links_4 : decode cL_links 4 = .ok (.invokevirtual 117, 3) := by decide +kernel
theorem dL_links_7 : decode cL_links 7 = .ok (.i2l, 1) := by decide +kernel
theorem dL_links_8 : decode cL_links 8 = .ok (.lmul, 1) := by decide +kernel
theorem dL_links_9 : decode cL_links 9 = .ok (.aload_n 0, 1) := by decide +kernel
theorem dL_links_10 : decode cL_links 10 = .ok (.invokevirtual 120, 3) := by decide +kernel
theorem dL_links_13 : decode cL_links 13 = .ok (.i2l, 1) := by decide +kernel
theorem dL_links_14 : decode cL_links 14 = .ok (.ladd, 1) := by decide +kernel
theorem dL_links_15 : decode cL_links 15 = .ok (.lstore_n 1, 1) := by decide +kernel
theorem dL_links_16 : decode cL_links 16 = .ok (.iconst 0, 1) := by decide +kernel
theorem dL_links_17 : decode cL_links 17 = .ok (.istore_n 3, 1) := by decide +kernel
theorem dL_links_18 : decode cL_links 18 = .ok (.iload_n 3, 1) := by decide +kernel
theorem dL_links_19 : decode cL_links 19 = .ok (.bipush 16, 2) := by decide +kernel
theorem dL_links_21 : decode cL_links 21 = .ok (.if_icmp .ge 132, 3) := by decide +kernel
theorem dL_links_24 : decode cL_links 24 = .ok (.ldc2_w 123, 3) := by decide +kernel
theorem dL_links_27 : decode cL_links 27 = .ok (.lload_n 1, 1) := by decide +kernel
theorem dL_links_28 : decode cL_links 28 = .ok (.lmul, 1) := by decide +kernel
theorem dL_links_29 : decode cL_links 29 = .ok (.aload_n 0, 1) := by decide +kernel
theorem dL_links_30 : decode cL_links 30 = .ok (.iload_n 3, 1) := by decide +kernel
theorem dL_links_31 : decode cL_links 31 = .ok (.invokevirtual 57, 3) := by decide +kernel
theorem dL_links_34 : decode cL_links 34 = .ok (.i2l, 1) := by decide +kernel
theorem dL_links_35 : decode cL_links 35 = .ok (.ladd, 1) := by decide +kernel
theorem dL_links_36 : decode cL_links 36 = .ok (.ldc2_w 107, 3) := by decide +kernel
theorem dL_links_39 : decode cL_links 39 = .ok (.aload_n 0, 1) := by decide +kernel
theorem dL_links_40 : decode cL_links 40 = .ok (.iload_n 3, 1) := by decide +kernel
theorem dL_links_41 : decode cL_links 41 = .ok (.invokevirtual 60, 3) := by decide +kernel
theorem dL_links_44 : decode cL_links 44 = .ok (.i2l, 1) := by decide +kernel
theorem dL_links_45 : decode cL_links 45 = .ok (.lmul, 1) := by decide +kernel
theorem dL_links_46 : decode cL_links 46 = .ok (.ladd, 1) := by decide +kernel
theorem dL_links_47 : decode cL_links 47 = .ok (.ldc2_w 125, 3) := by decide +kernel
theorem dL_links_50 : decode cL_links 50 = .ok (.aload_n 0, 1) := by decide +kernel
theorem dL_links_51 : decode cL_links 51 = .ok (.iload_n 3, 1) := by decide +kernel
theorem dL_links_52 : decode cL_links 52 = .ok (.iconst 4, 1) := by decide +kernel
theorem dL_links_53 : decode cL_links 53 = .ok (.idiv, 1) := by decide +kernel
theorem dL_links_54 : decode cL_links 54 = .ok (.iload_n 3, 1) := by decide +kernel
theorem dL_links_55 : decode cL_links 55 = .ok (.iconst 4, 1) := by decide +kernel
theorem dL_links_56 : decode cL_links 56 = .ok (.irem, 1) := by decide +kernel
theorem dL_links_57 : decode cL_links 57 = .ok (.invokevirtual 69, 3) := by decide +kernel
theorem dL_links_60 : decode cL_links 60 = .ok (.i2l, 1) := by decide +kernel
theorem dL_links_61 : decode cL_links 61 = .ok (.lmul, 1) := by decide +kernel
theorem dL_links_62 : decode cL_links 62 = .ok (.ladd, 1) := by decide +kernel
theorem dL_links_63 : decode cL_links 63 = .ok (.ldc2_w 127, 3) := by decide +kernel
theorem dL_links_66 : decode cL_links 66 = .ok (.aload_n 0, 1) := by decide +kernel
theorem dL_links_67 : decode cL_links 67 = .ok (.iload_n 3, 1) := by decide +kernel
theorem dL_links_68 : decode cL_links 68 = .ok (.iconst 4, 1) := by decide +kernel
theorem dL_links_69 : decode cL_links 69 = .ok (.idiv, 1) := by decide +kernel
theorem dL_links_70 : decode cL_links 70 = .ok (.iload_n 3, 1) := by decide +kernel
theorem dL_links_71 : decode cL_links 71 = .ok (.iconst 4, 1) := by decide +kernel
theorem dL_links_72 : decode cL_links 72 = .ok (.irem, 1) := by decide +kernel
theorem dL_links_73 : decode cL_links 73 = .ok (.invokevirtual 72, 3) := by decide +kernel
theorem dL_links_76 : decode cL_links 76 = .ok (.i2l, 1) := by decide +kernel
theorem dL_links_77 : decode cL_links 77 = .ok (.lmul, 1) := by decide +kernel
theorem dL_links_78 : decode cL_links 78 = .ok (.ladd, 1) := by decide +kernel
theorem dL_links_79 : decode cL_links 79 = .ok (.ldc2_w 129, 3) := by decide +kernel
theorem dL_links_82 : decode cL_links 82 = .ok (.aload_n 0, 1) := by decide +kernel
theorem dL_links_83 : decode cL_links 83 = .ok (.iload_n 3, 1) := by decide +kernel
theorem dL_links_84 : decode cL_links 84 = .ok (.invokevirtual 63, 3) := by decide +kernel
theorem dL_links_87 : decode cL_links 87 = .ok (.i2l, 1) := by decide +kernel
theorem dL_links_88 : decode cL_links 88 = .ok (.lmul, 1) := by decide +kernel
theorem dL_links_89 : decode cL_links 89 = .ok (.ladd, 1) := by decide +kernel
theorem dL_links_90 : decode cL_links 90 = .ok (.ldc2_w 131, 3) := by decide +kernel
theorem dL_links_93 : decode cL_links 93 = .ok (.aload_n 0, 1) := by decide +kernel
theorem dL_links_94 : decode cL_links 94 = .ok (.iload_n 3, 1) := by decide +kernel
theorem dL_links_95 : decode cL_links 95 = .ok (.iconst 4, 1) := by decide +kernel
theorem dL_links_96 : decode cL_links 96 = .ok (.idiv, 1) := by decide +kernel
theorem dL_links_97 : decode cL_links 97 = .ok (.iload_n 3, 1) := by decide +kernel
theorem dL_links_98 : decode cL_links 98 = .ok (.iconst 4, 1) := by decide +kernel
theorem dL_links_99 : decode cL_links 99 = .ok (.irem, 1) := by decide +kernel
theorem dL_links_100 : decode cL_links 100 = .ok (.invokevirtual 75, 3) := by decide +kernel
theorem dL_links_103 : decode cL_links 103 = .ok (.i2l, 1) := by decide +kernel
theorem dL_links_104 : decode cL_links 104 = .ok (.lmul, 1) := by decide +kernel
theorem dL_links_105 : decode cL_links 105 = .ok (.ladd, 1) := by decide +kernel
theorem dL_links_106 : decode cL_links 106 = .ok (.ldc2_w 133, 3) := by decide +kernel
theorem dL_links_109 : decode cL_links 109 = .ok (.aload_n 0, 1) := by decide +kernel
theorem dL_links_110 : decode cL_links 110 = .ok (.iload_n 3, 1) := by decide +kernel
theorem dL_links_111 : decode cL_links 111 = .ok (.invokevirtual 66, 3) := by decide +kernel
theorem dL_links_114 : decode cL_links 114 = .ok (.i2l, 1) := by decide +kernel
theorem dL_links_115 : decode cL_links 115 = .ok (.lmul, 1) := by decide +kernel
theorem dL_links_116 : decode cL_links 116 = .ok (.ladd, 1) := by decide +kernel
theorem dL_links_117 : decode cL_links 117 = .ok (.iload_n 3, 1) := by decide +kernel
theorem dL_links_118 : decode cL_links 118 = .ok (.iconst 4, 1) := by decide +kernel
theorem dL_links_119 : decode cL_links 119 = .ok (.idiv, 1) := by decide +kernel
theorem dL_links_120 : decode cL_links 120 = .ok (.iload_n 3, 1) := by decide +kernel
theorem dL_links_121 : decode cL_links 121 = .ok (.iconst 4, 1) := by decide +kernel
theorem dL_links_122 : decode cL_links 122 = .ok (.irem, 1) := by decide +kernel
theorem dL_links_123 : decode cL_links 123 = .ok (.if_icmp .ne 7, 3) := by decide +kernel
theorem dL_links_126 : decode cL_links 126 = .ok (.lconst 0, 1) := by decide +kernel
theorem dL_links_127 : decode cL_links 127 = .ok (.goto 18, 3) := by decide +kernel
theorem dL_links_130 : decode cL_links 130 = .ok (.ldc2_w 135, 3) := by decide +kernel
theorem dL_links_133 : decode cL_links 133 = .ok (.aload_n 0, 1) := by decide +kernel
theorem dL_links_134 : decode cL_links 134 = .ok (.iload_n 3, 1) := by decide +kernel
theorem dL_links_135 : decode cL_links 135 = .ok (.iconst 4, 1) := by decide +kernel
theorem dL_links_136 : decode cL_links 136 = .ok (.idiv, 1) := by decide +kernel
theorem dL_links_137 : decode cL_links 137 = .ok (.iload_n 3, 1) := by decide +kernel
theorem dL_links_138 : decode cL_links 138 = .ok (.iconst 4, 1) := by decide +kernel
theorem dL_links_139 : decode cL_links 139 = .ok (.irem, 1) := by decide +kernel
theorem dL_links_140 : decode cL_links 140 = .ok (.invokevirtual 78, 3) := by decide +kernel
theorem dL_links_143 : decode cL_links 143 = .ok (.i2l, 1) := by decide +kernel
theorem dL_links_144 : decode cL_links 144 = .ok (.lmul, 1) := by decide +kernel
theorem dL_links_145 : decode cL_links 145 = .ok (.ladd, 1) := by decide +kernel
theorem dL_links_146 : decode cL_links 146 = .ok (.lstore_n 1, 1) := by decide +kernel
theorem dL_links_147 : decode cL_links 147 = .ok (.iinc 3 1, 3) := by decide +kernel
theorem dL_links_150 : decode cL_links 150 = .ok (.goto (-132), 3) := by decide +kernel
theorem dL_links_153 : decode cL_links 153 = .ok (.lload_n 1, 1) := by decide +kernel
theorem dL_links_154 : decode cL_links 154 = .ok (.lreturn, 1) := by decide +kernel
set_option maxRecDepth 20000 in
theorem ggL_areFlows_X5_clock : GoodIn wsL_areFlows wsX5_clock := goodIn_r _ [5, 6, 80, 81, 82, 83, 84, 85, 86, 87, 88, 89, 90, 91, 92] (by decide +kernel) (by decide +kernel)
set_option maxRecDepth 20000 in
theorem gL_areFlows_X5_clock : GoodIn wsL_areFlows (wsV RL 98 RX5 yX5_clock wsX5_clock) := goodIn_app (goodIn_of _ (by decide +kernel)) ggL_areFlows_X5_clock
set_option maxRecDepth 20000 in
theorem ggL_areFlows_X5_flows : GoodIn wsL_areFlows wsX5_flows := goodIn_r _ [10, 11, 80, 81, 82, 83, 84, 85, 86, 87, 88, 89, 90, 91, 92] (by decide +kernel) (by decide +kernel)
set_option maxRecDepth 20000 in
theorem gL_areFlows_X5_flows : GoodIn wsL_areFlows (wsV RL 92 RX5 yX5_flows wsX5_flows) := goodIn_app (goodIn_of _ (by decide +kernel)) ggL_areFlows_X5_flows
set_option maxRecDepth 20000 in
theorem ggL_areFlows_L_of : GoodIn wsL_areFlows wsL_of := goodIn_ca (goodIn_r _ [15, 16, 17, 18, 19, 4, 20, 21, 22, 23, 24, 25, 26, 27, 11, 28, 29, 30, 31, 32, 33, 34, 35, 36, 37, 38, 39, 40, 41, 42, 43, 44, 45, 46, 47, 48, 49, 50, 51, 52, 53, 54, 80, 81, 82, 83, 84, 85, 86, 87, 88, 89, 90, 91, 92, 93, 94, 95, 96, 97, 98, 99, 100, 101, 102, 103, 104, 105] (by decide +kernel) (by decide +kernel)) (goodIn_sub (fun _ h => List.mem_cons_of_mem _ (List.mem_append_left _ (List.mem_append_right _ h))) (by decide +kernel))
set_option maxRecDepth 20000 in
theorem gL_areFlows_L_of : GoodIn wsL_areFlows (va_wsS RL 137 yL_of wsL_of) := goodIn_app (goodIn_of _ (by decide +kernel)) ggL_areFlows_L_of
set_option maxRecDepth 20000 in
theorem ggL_areFlows_X5_sent : GoodIn wsL_areFlows wsX5_sent := goodIn_ca (goodIn_r _ [20, 21, 22, 23, 24, 4, 25, 26, 27, 11, 28, 29, 30, 80, 81, 82, 83, 84, 85, 86, 87, 88, 89, 90, 91, 92, 93, 94, 95, 96, 97, 98, 99, 100, 101, 102, 103, 104, 105] (by decide +kernel) (by decide +kernel)) (goodIn_sub (fun _ h => List.mem_cons_of_mem _ (List.mem_append_left _ (List.mem_append_right _ h))) (by decide +kernel))
set_option maxRecDepth 20000 in
theorem gL_areFlows_X5_sent : GoodIn wsL_areFlows (wsV RL 34 RX5 yX5_sent wsX5_sent) := goodIn_app (goodIn_of _ (by decide +kernel)) ggL_areFlows_X5_sent
set_option maxRecDepth 20000 in
theorem ggL_areFlows_X5_delivered : GoodIn wsL_areFlows wsX5_delivered := goodIn_ca (goodIn_r _ [34, 21, 22, 23, 24, 4, 25, 26, 27, 11, 28, 29, 30, 80, 81, 82, 83, 84, 85, 86, 87, 88, 89, 90, 91, 92, 93, 94, 95, 96, 97, 98, 99, 100, 101, 102, 103, 104, 105] (by decide +kernel) (by decide +kernel)) (goodIn_sub (fun _ h => List.mem_cons_of_mem _ (List.mem_append_left _ (List.mem_append_right _ h))) (by decide +kernel))
set_option maxRecDepth 20000 in
theorem gL_areFlows_X5_delivered : GoodIn wsL_areFlows (wsV RL 37 RX5 yX5_delivered wsX5_delivered) := goodIn_app (goodIn_of _ (by decide +kernel)) ggL_areFlows_X5_delivered
set_option maxRecDepth 20000 in
theorem ggL_areFlows_X5_lost : GoodIn wsL_areFlows wsX5_lost := goodIn_ca (goodIn_r _ [38, 21, 22, 23, 24, 4, 25, 26, 27, 11, 28, 29, 30, 80, 81, 82, 83, 84, 85, 86, 87, 88, 89, 90, 91, 92, 93, 94, 95, 96, 97, 98, 99, 100, 101, 102, 103, 104, 105] (by decide +kernel) (by decide +kernel)) (goodIn_sub (fun _ h => List.mem_cons_of_mem _ (List.mem_append_left _ (List.mem_append_right _ h))) (by decide +kernel))
set_option maxRecDepth 20000 in
theorem gL_areFlows_X5_lost : GoodIn wsL_areFlows (wsV RL 40 RX5 yX5_lost wsX5_lost) := goodIn_app (goodIn_of _ (by decide +kernel)) ggL_areFlows_X5_lost
set_option maxRecDepth 20000 in
theorem ggL_areFlows_X5_doneIn : GoodIn wsL_areFlows wsX5_doneIn := goodIn_ca (goodIn_r _ [46, 21, 22, 23, 24, 4, 25, 26, 27, 11, 28, 29, 30, 80, 81, 82, 83, 84, 85, 86, 87, 88, 89, 90, 91, 92, 93, 94, 95, 96, 97, 98, 99, 100, 101, 102, 103, 104, 105] (by decide +kernel) (by decide +kernel)) (goodIn_sub (fun _ h => List.mem_cons_of_mem _ (List.mem_append_left _ (List.mem_append_right _ h))) (by decide +kernel))
set_option maxRecDepth 20000 in
theorem gL_areFlows_X5_doneIn : GoodIn wsL_areFlows (wsV RL 46 RX5 yX5_doneIn wsX5_doneIn) := goodIn_app (goodIn_of _ (by decide +kernel)) ggL_areFlows_X5_doneIn
set_option maxRecDepth 20000 in
theorem ggL_areFlows_L_packets : GoodIn wsL_areFlows wsL_packets := goodIn_r _ [57] (by decide +kernel) (by decide +kernel)
set_option maxRecDepth 20000 in
theorem gL_areFlows_L_packets : GoodIn wsL_areFlows (va_wsS RL 141 yL_packets wsL_packets) := goodIn_app (goodIn_of _ (by decide +kernel)) ggL_areFlows_L_packets
set_option maxRecDepth 20000 in
theorem ggL_areFlows_X5_outOfOrder : GoodIn wsL_areFlows wsX5_outOfOrder := goodIn_ca (goodIn_r _ [42, 21, 22, 23, 24, 4, 25, 26, 27, 11, 28, 29, 30, 80, 81, 82, 83, 84, 85, 86, 87, 88, 89, 90, 91, 92, 93, 94, 95, 96, 97, 98, 99, 100, 101, 102, 103, 104, 105] (by decide +kernel) (by decide +kernel)) (goodIn_sub (fun _ h => List.mem_cons_of_mem _ (List.mem_append_left _ (List.mem_append_right _ h))) (by decide +kernel))
set_option maxRecDepth 20000 in
theorem gL_areFlows_X5_outOfOrder : GoodIn wsL_areFlows (wsV RL 43 RX5 yX5_outOfOrder wsX5_outOfOrder) := goodIn_app (goodIn_of _ (by decide +kernel)) ggL_areFlows_X5_outOfOrder
set_option maxRecDepth 20000 in
theorem ggL_areFlows_L_start : GoodIn wsL_areFlows wsL_start := goodIn_r _ [60] (by decide +kernel) (by decide +kernel)
set_option maxRecDepth 20000 in
theorem gL_areFlows_L_start : GoodIn wsL_areFlows (va_wsS RL 144 yL_start wsL_start) := goodIn_app (goodIn_of _ (by decide +kernel)) ggL_areFlows_L_start
set_option maxRecDepth 20000 in
theorem ggL_areFlows_L_isFar : GoodIn wsL_areFlows wsL_isFar := goodIn_r _ [63, 64, 65, 14, 66, 67, 68, 69] (by decide +kernel) (by decide +kernel)
set_option maxRecDepth 20000 in
theorem gL_areFlows_L_isFar : GoodIn wsL_areFlows (va_wsS RL 147 yL_isFar wsL_isFar) := goodIn_app (goodIn_of _ (by decide +kernel)) ggL_areFlows_L_isFar
set_option maxRecDepth 20000 in
theorem ggL_areFlows_X5_flowlets : GoodIn wsL_areFlows wsX5_flowlets := goodIn_ca (goodIn_r _ [50, 21, 22, 23, 24, 4, 25, 26, 27, 11, 28, 29, 30, 80, 81, 82, 83, 84, 85, 86, 87, 88, 89, 90, 91, 92, 93, 94, 95, 96, 97, 98, 99, 100, 101, 102, 103, 104, 105] (by decide +kernel) (by decide +kernel)) (goodIn_sub (fun _ h => List.mem_cons_of_mem _ (List.mem_append_left _ (List.mem_append_right _ h))) (by decide +kernel))
set_option maxRecDepth 20000 in
theorem gL_areFlows_X5_flowlets : GoodIn wsL_areFlows (wsV RL 49 RX5 yX5_flowlets wsX5_flowlets) := goodIn_app (goodIn_of _ (by decide +kernel)) ggL_areFlows_X5_flowlets
set_option maxRecDepth 20000 in
theorem ggL_areFlows_X5_spineOf : GoodIn wsL_areFlows wsX5_spineOf := goodIn_ca (goodIn_r _ [54, 21, 22, 23, 24, 4, 25, 26, 27, 11, 28, 29, 30, 80, 81, 82, 83, 84, 85, 86, 87, 88, 89, 90, 91, 92, 93, 94, 95, 96, 97, 98, 99, 100, 101, 102, 103, 104, 105] (by decide +kernel) (by decide +kernel)) (goodIn_sub (fun _ h => List.mem_cons_of_mem _ (List.mem_append_left _ (List.mem_append_right _ h))) (by decide +kernel))
set_option maxRecDepth 20000 in
theorem gL_areFlows_X5_spineOf : GoodIn wsL_areFlows (wsV RL 52 RX5 yX5_spineOf wsX5_spineOf) := goodIn_app (goodIn_of _ (by decide +kernel)) ggL_areFlows_X5_spineOf
set_option maxRecDepth 20000 in
theorem ggL_areFlows_L_target : GoodIn wsL_areFlows wsL_target := goodIn_r _ [69] (by decide +kernel) (by decide +kernel)
set_option maxRecDepth 20000 in
theorem gL_areFlows_L_target : GoodIn wsL_areFlows (va_wsS RL 87 yL_target wsL_target) := goodIn_app (goodIn_of _ (by decide +kernel)) ggL_areFlows_L_target
set_option maxRecDepth 20000 in
theorem ggL_areFlows_X5_open : GoodIn wsL_areFlows wsX5_open := goodIn_ca (goodIn_r _ [73, 74, 75, 76, 4, 77, 78, 79, 28, 29, 30, 80, 81, 82, 83, 84, 85, 86, 87, 88, 89, 90, 91, 92, 106, 107, 108, 109] (by decide +kernel) (by decide +kernel)) (goodIn_sub (fun _ h => List.mem_cons_of_mem _ (List.mem_append_right _ h)) (by decide +kernel))
set_option maxRecDepth 20000 in
theorem gL_areFlows_X5_open : GoodIn wsL_areFlows (wsV RL 66 RX5 yX5_open wsX5_open) := goodIn_app (goodIn_of _ (by decide +kernel)) ggL_areFlows_X5_open
theorem dL_areFlows_0 : decode cL_areFlows 0 = .ok (.aload_n 0, 1) := by decide +kernel
theorem dL_areFlows_1 : decode cL_areFlows 1 = .ok (.aload_n 0, 1) := by decide +kernel
theorem dL_areFlows_2 : decode cL_areFlows 2 = .ok (.invokevirtual 98, 3) := by decide +kernel
theorem dL_areFlows_5 : decode cL_areFlows 5 = .ok (.bipush 7, 2) := by decide +kernel
theorem dL_areFlows_7 : decode cL_areFlows 7 = .ok (.irem, 1) := by decide +kernel
theorem dL_areFlows_8 : decode cL_areFlows 8 = .ok (.aload_n 0, 1) := by decide +kernel
theorem dL_areFlows_9 : decode cL_areFlows 9 = .ok (.invokevirtual 92, 3) := by decide +kernel
theorem dL_areFlows_12 : decode cL_areFlows 12 = .ok (.invokestatic 137, 3) := by decide +kernel
theorem dL_areFlows_15 : decode cL_areFlows 15 = .ok (.bipush (-61), 2) := by decide +kernel
theorem dL_areFlows_17 : decode cL_areFlows 17 = .ok (.if_icmp .ne 24, 3) := by decide +kernel
theorem dL_areFlows_20 : decode cL_areFlows 20 = .ok (.aload_n 0, 1) := by decide +kernel
theorem dL_areFlows_21 : decode cL_areFlows 21 = .ok (.aload_n 0, 1) := by decide +kernel
theorem dL_areFlows_22 : decode cL_areFlows 22 = .ok (.invokevirtual 98, 3) := by decide +kernel
theorem dL_areFlows_25 : decode cL_areFlows 25 = .ok (.bipush 7, 2) := by decide +kernel
theorem dL_areFlows_27 : decode cL_areFlows 27 = .ok (.irem, 1) := by decide +kernel
theorem dL_areFlows_28 : decode cL_areFlows 28 = .ok (.iconst (-1), 1) := by decide +kernel
theorem dL_areFlows_29 : decode cL_areFlows 29 = .ok (.invokestatic 137, 3) := by decide +kernel
theorem dL_areFlows_32 : decode cL_areFlows 32 = .ok (.bipush (-61), 2) := by decide +kernel
theorem dL_areFlows_34 : decode cL_areFlows 34 = .ok (.if_icmp .ne 7, 3) := by decide +kernel
theorem dL_areFlows_37 : decode cL_areFlows 37 = .ok (.iconst 1, 1) := by decide +kernel
theorem dL_areFlows_38 : decode cL_areFlows 38 = .ok (.goto 4, 3) := by decide +kernel
theorem dL_areFlows_41 : decode cL_areFlows 41 = .ok (.iconst 0, 1) := by decide +kernel
theorem dL_areFlows_42 : decode cL_areFlows 42 = .ok (.istore_n 3, 1) := by decide +kernel
theorem dL_areFlows_43 : decode cL_areFlows 43 = .ok (.iconst 0, 1) := by decide +kernel
theorem dL_areFlows_44 : decode cL_areFlows 44 = .ok (.istore 4, 2) := by decide +kernel
theorem dL_areFlows_46 : decode cL_areFlows 46 = .ok (.iload 4, 2) := by decide +kernel
theorem dL_areFlows_48 : decode cL_areFlows 48 = .ok (.aload_n 0, 1) := by decide +kernel
theorem dL_areFlows_49 : decode cL_areFlows 49 = .ok (.invokevirtual 92, 3) := by decide +kernel
theorem dL_areFlows_52 : decode cL_areFlows 52 = .ok (.if_icmp .ge 311, 3) := by decide +kernel
theorem dL_areFlows_55 : decode cL_areFlows 55 = .ok (.iload_n 3, 1) := by decide +kernel
theorem dL_areFlows_56 : decode cL_areFlows 56 = .ok (.ifCond .eq 307, 3) := by decide +kernel
theorem dL_areFlows_59 : decode cL_areFlows 59 = .ok (.aload_n 0, 1) := by decide +kernel
theorem dL_areFlows_60 : decode cL_areFlows 60 = .ok (.iload 4, 2) := by decide +kernel
theorem dL_areFlows_62 : decode cL_areFlows 62 = .ok (.invokevirtual 34, 3) := by decide +kernel
theorem dL_areFlows_65 : decode cL_areFlows 65 = .ok (.istore 5, 2) := by decide +kernel
theorem dL_areFlows_67 : decode cL_areFlows 67 = .ok (.aload_n 0, 1) := by decide +kernel
theorem dL_areFlows_68 : decode cL_areFlows 68 = .ok (.iload 4, 2) := by decide +kernel
theorem dL_areFlows_70 : decode cL_areFlows 70 = .ok (.invokevirtual 37, 3) := by decide +kernel
theorem dL_areFlows_73 : decode cL_areFlows 73 = .ok (.istore 6, 2) := by decide +kernel
theorem dL_areFlows_75 : decode cL_areFlows 75 = .ok (.aload_n 0, 1) := by decide +kernel
theorem dL_areFlows_76 : decode cL_areFlows 76 = .ok (.iload 4, 2) := by decide +kernel
theorem dL_areFlows_78 : decode cL_areFlows 78 = .ok (.invokevirtual 40, 3) := by decide +kernel
theorem dL_areFlows_81 : decode cL_areFlows 81 = .ok (.istore 7, 2) := by decide +kernel
theorem dL_areFlows_83 : decode cL_areFlows 83 = .ok (.aload_n 0, 1) := by decide +kernel
theorem dL_areFlows_84 : decode cL_areFlows 84 = .ok (.iload 4, 2) := by decide +kernel
theorem dL_areFlows_86 : decode cL_areFlows 86 = .ok (.invokevirtual 46, 3) := by decide +kernel
theorem dL_areFlows_89 : decode cL_areFlows 89 = .ok (.istore 8, 2) := by decide +kernel
theorem dL_areFlows_91 : decode cL_areFlows 91 = .ok (.iload 5, 2) := by decide +kernel
theorem dL_areFlows_93 : decode cL_areFlows 93 = .ok (.iload 6, 2) := by decide +kernel
theorem dL_areFlows_95 : decode cL_areFlows 95 = .ok (.iload 7, 2) := by decide +kernel
theorem dL_areFlows_97 : decode cL_areFlows 97 = .ok (.iadd, 1) := by decide +kernel
theorem dL_areFlows_98 : decode cL_areFlows 98 = .ok (.if_icmp .lt 127, 3) := by decide +kernel
theorem dL_areFlows_101 : decode cL_areFlows 101 = .ok (.iload 7, 2) := by decide +kernel
theorem dL_areFlows_103 : decode cL_areFlows 103 = .ok (.ifCond .lt 122, 3) := by decide +kernel
theorem dL_areFlows_106 : decode cL_areFlows 106 = .ok (.iload 6, 2) := by decide +kernel
theorem dL_areFlows_108 : decode cL_areFlows 108 = .ok (.ifCond .lt 117, 3) := by decide +kernel
theorem dL_areFlows_111 : decode cL_areFlows 111 = .ok (.iload 5, 2) := by decide +kernel
theorem dL_areFlows_113 : decode cL_areFlows 113 = .ok (.iload 7, 2) := by decide +kernel
theorem dL_areFlows_115 : decode cL_areFlows 115 = .ok (.isub, 1) := by decide +kernel
theorem dL_areFlows_116 : decode cL_areFlows 116 = .ok (.aload_n 1, 1) := by decide +kernel
theorem dL_areFlows_117 : decode cL_areFlows 117 = .ok (.iload 4, 2) := by decide +kernel
theorem dL_areFlows_119 : decode cL_areFlows 119 = .ok (.invokestatic 141, 3) := by decide +kernel
theorem dL_areFlows_122 : decode cL_areFlows 122 = .ok (.if_icmp .gt 103, 3) := by decide +kernel
theorem dL_areFlows_125 : decode cL_areFlows 125 = .ok (.aload_n 0, 1) := by decide +kernel
theorem dL_areFlows_126 : decode cL_areFlows 126 = .ok (.iload 4, 2) := by decide +kernel
theorem dL_areFlows_128 : decode cL_areFlows 128 = .ok (.invokevirtual 43, 3) := by decide +kernel
theorem dL_areFlows_131 : decode cL_areFlows 131 = .ok (.ifCond .lt 94, 3) := by decide +kernel
theorem dL_areFlows_134 : decode cL_areFlows 134 = .ok (.aload_n 0, 1) := by decide +kernel
theorem dL_areFlows_135 : decode cL_areFlows 135 = .ok (.iload 4, 2) := by decide +kernel
theorem dL_areFlows_137 : decode cL_areFlows 137 = .ok (.invokevirtual 43, 3) := by decide +kernel
theorem dL_areFlows_140 : decode cL_areFlows 140 = .ok (.ifCond .eq 14, 3) := by decide +kernel
theorem dL_areFlows_143 : decode cL_areFlows 143 = .ok (.aload_n 0, 1) := by decide +kernel
theorem dL_areFlows_144 : decode cL_areFlows 144 = .ok (.iload 4, 2) := by decide +kernel
theorem dL_areFlows_146 : decode cL_areFlows 146 = .ok (.invokevirtual 43, 3) := by decide +kernel
theorem dL_areFlows_149 : decode cL_areFlows 149 = .ok (.iload 6, 2) := by decide +kernel
theorem dL_areFlows_151 : decode cL_areFlows 151 = .ok (.if_icmp .ge 74, 3) := by decide +kernel
theorem dL_areFlows_154 : decode cL_areFlows 154 = .ok (.iload 6, 2) := by decide +kernel
theorem dL_areFlows_156 : decode cL_areFlows 156 = .ok (.aload_n 1, 1) := by decide +kernel
theorem dL_areFlows_157 : decode cL_areFlows 157 = .ok (.iload 4, 2) := by decide +kernel
theorem dL_areFlows_159 : decode cL_areFlows 159 = .ok (.invokestatic 141, 3) := by decide +kernel
theorem dL_areFlows_162 : decode cL_areFlows 162 = .ok (.if_icmp .ne 35, 3) := by decide +kernel
theorem dL_areFlows_165 : decode cL_areFlows 165 = .ok (.iload 8, 2) := by decide +kernel
theorem dL_areFlows_167 : decode cL_areFlows 167 = .ok (.aload_n 1, 1) := by decide +kernel
theorem dL_areFlows_168 : decode cL_areFlows 168 = .ok (.iload 4, 2) := by decide +kernel
theorem dL_areFlows_170 : decode cL_areFlows 170 = .ok (.invokestatic 144, 3) := by decide +kernel
theorem dL_areFlows_173 : decode cL_areFlows 173 = .ok (.aload_n 1, 1) := by decide +kernel
theorem dL_areFlows_174 : decode cL_areFlows 174 = .ok (.iload 4, 2) := by decide +kernel
theorem dL_areFlows_176 : decode cL_areFlows 176 = .ok (.invokestatic 141, 3) := by decide +kernel
theorem dL_areFlows_179 : decode cL_areFlows 179 = .ok (.iadd, 1) := by decide +kernel
theorem dL_areFlows_180 : decode cL_areFlows 180 = .ok (.iconst 1, 1) := by decide +kernel
theorem dL_areFlows_181 : decode cL_areFlows 181 = .ok (.iadd, 1) := by decide +kernel
theorem dL_areFlows_182 : decode cL_areFlows 182 = .ok (.if_icmp .lt 43, 3) := by decide +kernel
theorem dL_areFlows_185 : decode cL_areFlows 185 = .ok (.iload 8, 2) := by decide +kernel
theorem dL_areFlows_187 : decode cL_areFlows 187 = .ok (.aload_n 0, 1) := by decide +kernel
theorem dL_areFlows_188 : decode cL_areFlows 188 = .ok (.invokevirtual 98, 3) := by decide +kernel
theorem dL_areFlows_191 : decode cL_areFlows 191 = .ok (.if_icmp .ge 34, 3) := by decide +kernel
theorem dL_areFlows_194 : decode cL_areFlows 194 = .ok (.goto 9, 3) := by decide +kernel
theorem dL_areFlows_197 : decode cL_areFlows 197 = .ok (.iload 8, 2) := by decide +kernel
theorem dL_areFlows_199 : decode cL_areFlows 199 = .ok (.iconst (-1), 1) := by decide +kernel
theorem dL_areFlows_200 : decode cL_areFlows 200 = .ok (.if_icmp .ne 25, 3) := by decide +kernel
theorem dL_areFlows_203 : decode cL_areFlows 203 = .ok (.iload 5, 2) := by decide +kernel
theorem dL_areFlows_205 : decode cL_areFlows 205 = .ok (.ifCond .eq 16, 3) := by decide +kernel
theorem dL_areFlows_208 : decode cL_areFlows 208 = .ok (.aload_n 0, 1) := by decide +kernel
theorem dL_areFlows_209 : decode cL_areFlows 209 = .ok (.invokevirtual 98, 3) := by decide +kernel
theorem dL_areFlows_212 : decode cL_areFlows 212 = .ok (.aload_n 1, 1) := by decide +kernel
theorem dL_areFlows_213 : decode cL_areFlows 213 = .ok (.iload 4, 2) := by decide +kernel
theorem dL_areFlows_215 : decode cL_areFlows 215 = .ok (.invokestatic 144, 3) := by decide +kernel
theorem dL_areFlows_218 : decode cL_areFlows 218 = .ok (.if_icmp .le 7, 3) := by decide +kernel
theorem dL_areFlows_221 : decode cL_areFlows 221 = .ok (.iconst 1, 1) := by decide +kernel
theorem dL_areFlows_222 : decode cL_areFlows 222 = .ok (.goto 4, 3) := by decide +kernel
theorem dL_areFlows_225 : decode cL_areFlows 225 = .ok (.iconst 0, 1) := by decide +kernel
theorem dL_areFlows_226 : decode cL_areFlows 226 = .ok (.istore_n 3, 1) := by decide +kernel
theorem dL_areFlows_227 : decode cL_areFlows 227 = .ok (.iload_n 3, 1) := by decide +kernel
theorem dL_areFlows_228 : decode cL_areFlows 228 = .ok (.ifCond .eq 127, 3) := by decide +kernel
theorem dL_areFlows_231 : decode cL_areFlows 231 = .ok (.aload_n 1, 1) := by decide +kernel
theorem dL_areFlows_232 : decode cL_areFlows 232 = .ok (.iload 4, 2) := by decide +kernel
theorem dL_areFlows_234 : decode cL_areFlows 234 = .ok (.invokestatic 147, 3) := by decide +kernel
theorem dL_areFlows_237 : decode cL_areFlows 237 = .ok (.ifCond .eq 81, 3) := by decide +kernel
theorem dL_areFlows_240 : decode cL_areFlows 240 = .ok (.aload_n 0, 1) := by decide +kernel
theorem dL_areFlows_241 : decode cL_areFlows 241 = .ok (.iload 4, 2) := by decide +kernel
theorem dL_areFlows_243 : decode cL_areFlows 243 = .ok (.invokevirtual 49, 3) := by decide +kernel
theorem dL_areFlows_246 : decode cL_areFlows 246 = .ok (.ifCond .le 7, 3) := by decide +kernel
theorem dL_areFlows_249 : decode cL_areFlows 249 = .ok (.iconst 1, 1) := by decide +kernel
theorem dL_areFlows_250 : decode cL_areFlows 250 = .ok (.goto 4, 3) := by decide +kernel
theorem dL_areFlows_253 : decode cL_areFlows 253 = .ok (.iconst 0, 1) := by decide +kernel
theorem dL_areFlows_254 : decode cL_areFlows 254 = .ok (.iload 5, 2) := by decide +kernel
theorem dL_areFlows_256 : decode cL_areFlows 256 = .ok (.ifCond .le 7, 3) := by decide +kernel
theorem dL_areFlows_259 : decode cL_areFlows 259 = .ok (.iconst 1, 1) := by decide +kernel
theorem dL_areFlows_260 : decode cL_areFlows 260 = .ok (.goto 4, 3) := by decide +kernel
theorem dL_areFlows_263 : decode cL_areFlows 263 = .ok (.iconst 0, 1) := by decide +kernel
theorem dL_areFlows_264 : decode cL_areFlows 264 = .ok (.if_icmp .ne 91, 3) := by decide +kernel
theorem dL_areFlows_267 : decode cL_areFlows 267 = .ok (.aload_n 0, 1) := by decide +kernel
theorem dL_areFlows_268 : decode cL_areFlows 268 = .ok (.iload 4, 2) := by decide +kernel
theorem dL_areFlows_270 : decode cL_areFlows 270 = .ok (.invokevirtual 49, 3) := by decide +kernel
theorem dL_areFlows_273 : decode cL_areFlows 273 = .ok (.iload 5, 2) := by decide +kernel
theorem dL_areFlows_275 : decode cL_areFlows 275 = .ok (.if_icmp .gt 80, 3) := by decide +kernel
theorem dL_areFlows_278 : decode cL_areFlows 278 = .ok (.iload 5, 2) := by decide +kernel
theorem dL_areFlows_280 : decode cL_areFlows 280 = .ok (.ifCond .ne 16, 3) := by decide +kernel
theorem dL_areFlows_283 : decode cL_areFlows 283 = .ok (.aload_n 0, 1) := by decide +kernel
theorem dL_areFlows_284 : decode cL_areFlows 284 = .ok (.iload 4, 2) := by decide +kernel
theorem dL_areFlows_286 : decode cL_areFlows 286 = .ok (.invokevirtual 52, 3) := by decide +kernel
theorem dL_areFlows_289 : decode cL_areFlows 289 = .ok (.iconst (-1), 1) := by decide +kernel
theorem dL_areFlows_290 : decode cL_areFlows 290 = .ok (.if_icmp .ne 65, 3) := by decide +kernel
theorem dL_areFlows_293 : decode cL_areFlows 293 = .ok (.goto 58, 3) := by decide +kernel
theorem dL_areFlows_296 : decode cL_areFlows 296 = .ok (.aload_n 0, 1) := by decide +kernel
theorem dL_areFlows_297 : decode cL_areFlows 297 = .ok (.iload 4, 2) := by decide +kernel
theorem dL_areFlows_299 : decode cL_areFlows 299 = .ok (.invokevirtual 52, 3) := by decide +kernel
theorem dL_areFlows_302 : decode cL_areFlows 302 = .ok (.ifCond .lt 53, 3) := by decide +kernel
theorem dL_areFlows_305 : decode cL_areFlows 305 = .ok (.aload_n 0, 1) := by decide +kernel
theorem dL_areFlows_306 : decode cL_areFlows 306 = .ok (.iload 4, 2) := by decide +kernel
theorem dL_areFlows_308 : decode cL_areFlows 308 = .ok (.invokevirtual 52, 3) := by decide +kernel
theorem dL_areFlows_311 : decode cL_areFlows 311 = .ok (.iconst 4, 1) := by decide +kernel
theorem dL_areFlows_312 : decode cL_areFlows 312 = .ok (.if_icmp .ge 43, 3) := by decide +kernel
theorem dL_areFlows_315 : decode cL_areFlows 315 = .ok (.goto 36, 3) := by decide +kernel
theorem dL_areFlows_318 : decode cL_areFlows 318 = .ok (.aload_n 0, 1) := by decide +kernel
theorem dL_areFlows_319 : decode cL_areFlows 319 = .ok (.iload 4, 2) := by decide +kernel
theorem dL_areFlows_321 : decode cL_areFlows 321 = .ok (.invokevirtual 49, 3) := by decide +kernel
theorem dL_areFlows_324 : decode cL_areFlows 324 = .ok (.ifCond .ne 31, 3) := by decide +kernel
theorem dL_areFlows_327 : decode cL_areFlows 327 = .ok (.aload_n 0, 1) := by decide +kernel
theorem dL_areFlows_328 : decode cL_areFlows 328 = .ok (.iload 4, 2) := by decide +kernel
theorem dL_areFlows_330 : decode cL_areFlows 330 = .ok (.invokevirtual 52, 3) := by decide +kernel
theorem dL_areFlows_333 : decode cL_areFlows 333 = .ok (.iconst (-1), 1) := by decide +kernel
theorem dL_areFlows_334 : decode cL_areFlows 334 = .ok (.if_icmp .ne 21, 3) := by decide +kernel
theorem dL_areFlows_337 : decode cL_areFlows 337 = .ok (.iload 7, 2) := by decide +kernel
theorem dL_areFlows_339 : decode cL_areFlows 339 = .ok (.ifCond .ne 16, 3) := by decide +kernel
theorem dL_areFlows_342 : decode cL_areFlows 342 = .ok (.aload_n 0, 1) := by decide +kernel
theorem dL_areFlows_343 : decode cL_areFlows 343 = .ok (.iload 4, 2) := by decide +kernel
theorem dL_areFlows_345 : decode cL_areFlows 345 = .ok (.invokevirtual 43, 3) := by decide +kernel
theorem dL_areFlows_348 : decode cL_areFlows 348 = .ok (.ifCond .ne 7, 3) := by decide +kernel
theorem dL_areFlows_351 : decode cL_areFlows 351 = .ok (.iconst 1, 1) := by decide +kernel
theorem dL_areFlows_352 : decode cL_areFlows 352 = .ok (.goto 4, 3) := by decide +kernel
theorem dL_areFlows_355 : decode cL_areFlows 355 = .ok (.iconst 0, 1) := by decide +kernel
theorem dL_areFlows_356 : decode cL_areFlows 356 = .ok (.istore_n 3, 1) := by decide +kernel
theorem dL_areFlows_357 : decode cL_areFlows 357 = .ok (.iinc 4 1, 3) := by decide +kernel
theorem dL_areFlows_360 : decode cL_areFlows 360 = .ok (.goto (-314), 3) := by decide +kernel
theorem dL_areFlows_363 : decode cL_areFlows 363 = .ok (.iconst 0, 1) := by decide +kernel
theorem dL_areFlows_364 : decode cL_areFlows 364 = .ok (.istore 4, 2) := by decide +kernel
theorem dL_areFlows_366 : decode cL_areFlows 366 = .ok (.iload 4, 2) := by decide +kernel
theorem dL_areFlows_368 : decode cL_areFlows 368 = .ok (.bipush 16, 2) := by decide +kernel
theorem dL_areFlows_370 : decode cL_areFlows 370 = .ok (.if_icmp .ge 99, 3) := by decide +kernel
theorem dL_areFlows_373 : decode cL_areFlows 373 = .ok (.iload_n 3, 1) := by decide +kernel
theorem dL_areFlows_374 : decode cL_areFlows 374 = .ok (.ifCond .eq 95, 3) := by decide +kernel
theorem dL_areFlows_377 : decode cL_areFlows 377 = .ok (.iconst 0, 1) := by decide +kernel
theorem dL_areFlows_378 : decode cL_areFlows 378 = .ok (.istore 5, 2) := by decide +kernel
theorem dL_areFlows_380 : decode cL_areFlows 380 = .ok (.iconst 0, 1) := by decide +kernel
theorem dL_areFlows_381 : decode cL_areFlows 381 = .ok (.istore 6, 2) := by decide +kernel
theorem dL_areFlows_383 : decode cL_areFlows 383 = .ok (.iload 6, 2) := by decide +kernel
theorem dL_areFlows_385 : decode cL_areFlows 385 = .ok (.aload_n 0, 1) := by decide +kernel
theorem dL_areFlows_386 : decode cL_areFlows 386 = .ok (.invokevirtual 92, 3) := by decide +kernel
theorem dL_areFlows_389 : decode cL_areFlows 389 = .ok (.if_icmp .ge 49, 3) := by decide +kernel
theorem dL_areFlows_392 : decode cL_areFlows 392 = .ok (.iload 5, 2) := by decide +kernel
theorem dL_areFlows_394 : decode cL_areFlows 394 = .ok (.aload_n 1, 1) := by decide +kernel
theorem dL_areFlows_395 : decode cL_areFlows 395 = .ok (.iload 6, 2) := by decide +kernel
theorem dL_areFlows_397 : decode cL_areFlows 397 = .ok (.invokestatic 87, 3) := by decide +kernel
theorem dL_areFlows_400 : decode cL_areFlows 400 = .ok (.iload 4, 2) := by decide +kernel
theorem dL_areFlows_402 : decode cL_areFlows 402 = .ok (.if_icmp .ne 26, 3) := by decide +kernel
theorem dL_areFlows_405 : decode cL_areFlows 405 = .ok (.aload_n 0, 1) := by decide +kernel
theorem dL_areFlows_406 : decode cL_areFlows 406 = .ok (.iload 6, 2) := by decide +kernel
theorem dL_areFlows_408 : decode cL_areFlows 408 = .ok (.invokevirtual 34, 3) := by decide +kernel
theorem dL_areFlows_411 : decode cL_areFlows 411 = .ok (.aload_n 0, 1) := by decide +kernel
theorem dL_areFlows_412 : decode cL_areFlows 412 = .ok (.iload 6, 2) := by decide +kernel
theorem dL_areFlows_414 : decode cL_areFlows 414 = .ok (.invokevirtual 37, 3) := by decide +kernel
theorem dL_areFlows_417 : decode cL_areFlows 417 = .ok (.isub, 1) := by decide +kernel
theorem dL_areFlows_418 : decode cL_areFlows 418 = .ok (.aload_n 0, 1) := by decide +kernel
theorem dL_areFlows_419 : decode cL_areFlows 419 = .ok (.iload 6, 2) := by decide +kernel
theorem dL_areFlows_421 : decode cL_areFlows 421 = .ok (.invokevirtual 40, 3) := by decide +kernel
theorem dL_areFlows_424 : decode cL_areFlows 424 = .ok (.isub, 1) := by decide +kernel
theorem dL_areFlows_425 : decode cL_areFlows 425 = .ok (.goto 4, 3) := by decide +kernel
theorem dL_areFlows_428 : decode cL_areFlows 428 = .ok (.iconst 0, 1) := by decide +kernel
theorem dL_areFlows_429 : decode cL_areFlows 429 = .ok (.iadd, 1) := by decide +kernel
theorem dL_areFlows_430 : decode cL_areFlows 430 = .ok (.istore 5, 2) := by decide +kernel
theorem dL_areFlows_432 : decode cL_areFlows 432 = .ok (.iinc 6 1, 3) := by decide +kernel
theorem dL_areFlows_435 : decode cL_areFlows 435 = .ok (.goto (-52), 3) := by decide +kernel
theorem dL_areFlows_438 : decode cL_areFlows 438 = .ok (.aload_n 0, 1) := by decide +kernel
theorem dL_areFlows_439 : decode cL_areFlows 439 = .ok (.iload 4, 2) := by decide +kernel
theorem dL_areFlows_441 : decode cL_areFlows 441 = .ok (.invokevirtual 66, 3) := by decide +kernel
theorem dL_areFlows_444 : decode cL_areFlows 444 = .ok (.iload 5, 2) := by decide +kernel
theorem dL_areFlows_446 : decode cL_areFlows 446 = .ok (.if_icmp .ne 15, 3) := by decide +kernel
theorem dL_areFlows_449 : decode cL_areFlows 449 = .ok (.iload 5, 2) := by decide +kernel
theorem dL_areFlows_451 : decode cL_areFlows 451 = .ok (.aload_n 2, 1) := by decide +kernel
theorem dL_areFlows_452 : decode cL_areFlows 452 = .ok (.iconst 2, 1) := by decide +kernel
theorem dL_areFlows_453 : decode cL_areFlows 453 = .ok (.iaload, 1) := by decide +kernel
theorem dL_areFlows_454 : decode cL_areFlows 454 = .ok (.if_icmp .gt 7, 3) := by decide +kernel
theorem dL_areFlows_457 : decode cL_areFlows 457 = .ok (.iconst 1, 1) := by decide +kernel
theorem dL_areFlows_458 : decode cL_areFlows 458 = .ok (.goto 4, 3) := by decide +kernel
theorem dL_areFlows_461 : decode cL_areFlows 461 = .ok (.iconst 0, 1) := by decide +kernel
theorem dL_areFlows_462 : decode cL_areFlows 462 = .ok (.istore_n 3, 1) := by decide +kernel
theorem dL_areFlows_463 : decode cL_areFlows 463 = .ok (.iinc 4 1, 3) := by decide +kernel
theorem dL_areFlows_466 : decode cL_areFlows 466 = .ok (.goto (-100), 3) := by decide +kernel
theorem dL_areFlows_469 : decode cL_areFlows 469 = .ok (.iload_n 3, 1) := by decide +kernel
theorem dL_areFlows_470 : decode cL_areFlows 470 = .ok (.ireturn, 1) := by decide +kernel
