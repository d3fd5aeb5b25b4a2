set_option maxRecDepth 20000 in
theorem ggL_isTick_X5_clock : GoodIn wsL_isTick wsX5_clock := goodIn_r _ [5, 6, 231, 232, 233, 234, 235, 236, 237, 238, 239, 240, 241, 242, 243] (by decide +kernel) (by decide +kernel)
set_option maxRecDepth 20000 in
theorem gL_isTick_X5_clock : GoodIn wsL_isTick (wsV RL 98 RX5 yX5_clock wsX5_clock) := goodIn_app (goodIn_of _ (by decide +kernel)) ggL_isTick_X5_clock
set_option maxRecDepth 20000 in
theorem ggL_isTick_X5_returning : GoodIn wsL_isTick wsX5_returning := goodIn_r _ [10, 11, 12, 13, 14, 15, 16, 231, 232, 233, 234, 235, 236, 237, 238, 239, 240, 241, 242, 243, 244, 245, 246, 247, 248, 249, 250] (by decide +kernel) (by decide +kernel)
set_option maxRecDepth 20000 in
theorem gL_isTick_X5_returning : GoodIn wsL_isTick (wsV RL 117 RX5 yX5_returning wsX5_returning) := goodIn_app (goodIn_of _ (by decide +kernel)) ggL_isTick_X5_returning
set_option maxRecDepth 20000 in
theorem ggL_isTick_X5_queued : GoodIn wsL_isTick wsX5_queued := goodIn_r _ [20, 11, 231, 232, 233, 234, 235, 236, 237, 238, 239, 240, 241, 242, 243, 244, 245, 246, 247, 248, 249, 250] (by decide +kernel) (by decide +kernel)
set_option maxRecDepth 20000 in
theorem gL_isTick_X5_queued : GoodIn wsL_isTick (wsV RL 120 RX5 yX5_queued wsX5_queued) := goodIn_app (goodIn_of _ (by decide +kernel)) ggL_isTick_X5_queued
set_option maxRecDepth 20000 in
theorem ggL_isTick_X5_flows : GoodIn wsL_isTick wsX5_flows := goodIn_r _ [24, 25, 231, 232, 233, 234, 235, 236, 237, 238, 239, 240, 241, 242, 243] (by decide +kernel) (by decide +kernel)
set_option maxRecDepth 20000 in
theorem gL_isTick_X5_flows : GoodIn wsL_isTick (wsV RL 92 RX5 yX5_flows wsX5_flows) := goodIn_app (goodIn_of _ (by decide +kernel)) ggL_isTick_X5_flows
set_option maxRecDepth 20000 in
theorem ggL_isTick_X5_sent : GoodIn wsL_isTick wsX5_sent := goodIn_ca (goodIn_r _ [29, 30, 31, 32, 33, 4, 34, 35, 36, 25, 37, 38, 39, 231, 232, 233, 234, 235, 236, 237, 238, 239, 240, 241, 242, 243, 251, 252, 253, 254, 255, 256, 257, 258, 259, 260, 261, 262, 263] (by decide +kernel) (by decide +kernel)) (goodIn_sub (fun _ h => List.mem_cons_of_mem _ (List.mem_append_left _ (List.mem_append_left _ (List.mem_append_right _ h)))) (by decide +kernel))
set_option maxRecDepth 20000 in
theorem gL_isTick_X5_sent : GoodIn wsL_isTick (wsV RL 34 RX5 yX5_sent wsX5_sent) := goodIn_app (goodIn_of _ (by decide +kernel)) ggL_isTick_X5_sent
set_option maxRecDepth 20000 in
theorem ggL_isTick_X5_lost : GoodIn wsL_isTick wsX5_lost := goodIn_ca (goodIn_r _ [43, 30, 31, 32, 33, 4, 34, 35, 36, 25, 37, 38, 39, 231, 232, 233, 234, 235, 236, 237, 238, 239, 240, 241, 242, 243, 251, 252, 253, 254, 255, 256, 257, 258, 259, 260, 261, 262, 263] (by decide +kernel) (by decide +kernel)) (goodIn_sub (fun _ h => List.mem_cons_of_mem _ (List.mem_append_left _ (List.mem_append_left _ (List.mem_append_right _ h)))) (by decide +kernel))
set_option maxRecDepth 20000 in
theorem gL_isTick_X5_lost : GoodIn wsL_isTick (wsV RL 40 RX5 yX5_lost wsX5_lost) := goodIn_app (goodIn_of _ (by decide +kernel)) ggL_isTick_X5_lost
set_option maxRecDepth 20000 in
theorem ggL_isTick_X5_delivered : GoodIn wsL_isTick wsX5_delivered := goodIn_ca (goodIn_r _ [47, 30, 31, 32, 33, 4, 34, 35, 36, 25, 37, 38, 39, 231, 232, 233, 234, 235, 236, 237, 238, 239, 240, 241, 242, 243, 251, 252, 253, 254, 255, 256, 257, 258, 259, 260, 261, 262, 263] (by decide +kernel) (by decide +kernel)) (goodIn_sub (fun _ h => List.mem_cons_of_mem _ (List.mem_append_left _ (List.mem_append_left _ (List.mem_append_right _ h)))) (by decide +kernel))
set_option maxRecDepth 20000 in
theorem gL_isTick_X5_delivered : GoodIn wsL_isTick (wsV RL 37 RX5 yX5_delivered wsX5_delivered) := goodIn_app (goodIn_of _ (by decide +kernel)) ggL_isTick_X5_delivered
set_option maxRecDepth 20000 in
theorem ggL_isTick_X5_downQueue : GoodIn wsL_isTick wsX5_downQueue := goodIn_ca (goodIn_r _ [51, 52, 53, 54, 4, 55, 56, 57, 37, 38, 39, 231, 232, 233, 234, 235, 236, 237, 238, 239, 240, 241, 242, 243, 264, 265, 266, 267, 244, 245, 246, 247, 248, 249, 250] (by decide +kernel) (by decide +kernel)) (goodIn_sub (fun _ h => List.mem_cons_of_mem _ (List.mem_append_left _ (List.mem_append_right _ h))) (by decide +kernel))
set_option maxRecDepth 20000 in
theorem gL_isTick_X5_downQueue : GoodIn wsL_isTick (wsV RL 60 RX5 yX5_downQueue wsX5_downQueue) := goodIn_app (goodIn_of _ (by decide +kernel)) ggL_isTick_X5_downQueue
set_option maxRecDepth 20000 in
theorem ggL_isTick_L_pass : GoodIn wsL_isTick wsL_pass := goodIn_ca (goodIn_ca (goodIn_r _ [61, 62, 63, 64, 65, 66, 4, 67, 56, 57, 68, 69, 6, 70, 37, 38, 39, 71, 72, 73, 74, 75, 76, 77, 78, 79, 11, 80, 13, 81, 82, 83, 16, 84, 85, 86, 87, 52, 30, 88, 89, 90, 91, 92, 93, 94, 95, 96, 97, 98, 99, 100, 101, 102, 103, 104, 105, 106, 107, 108, 109, 110, 111, 112, 113, 114, 115, 116, 117, 118, 119, 120, 121, 122, 123, 124, 125, 126, 127, 128, 129, 130, 131, 132, 133, 134, 135, 136, 137, 138, 139, 140, 141, 142, 143, 144, 145, 146, 147, 148, 149, 150, 151, 152, 153, 154, 155, 156, 157, 158, 159, 160, 161, 162, 163, 164, 165, 166, 167, 168, 169, 170, 171, 172, 173, 174, 175, 176, 177, 178, 179, 180, 181, 182, 183, 184, 185, 186, 187, 188, 189, 190, 191, 192, 193, 194, 195, 196, 197, 198, 199, 200, 201, 202, 203, 204, 205, 206, 25, 207, 208, 209, 210, 211, 212, 213, 214, 215, 216, 217, 218, 219, 220, 221, 222, 223, 224, 225, 226, 227, 228, 229, 230, 231, 232, 233, 234, 235, 236, 237, 238, 239, 240, 241, 242, 243, 244, 245, 246, 247, 248, 249, 250, 264, 265, 266, 267, 268, 269, 270, 271, 251, 252, 253, 254, 255, 256, 257, 258, 259, 260, 261, 262, 263, 272, 273, 274] (by decide +kernel) (by decide +kernel)) (goodIn_sub (fun _ h => List.mem_cons_of_mem _ (List.mem_append_left _ (List.mem_append_right _ h))) (by decide +kernel))) (goodIn_sub (fun _ h => List.mem_cons_of_mem _ (List.mem_append_right _ h)) (by decide +kernel))
set_option maxRecDepth 20000 in
theorem gL_isTick_L_pass : GoodIn wsL_isTick (va_wsS RL 169 yL_pass wsL_pass) := goodIn_app (goodIn_of _ (by decide +kernel)) ggL_isTick_L_pass
theorem dL_isTick_0 : decode cL_isTick 0 = .ok (.aload_n 0, 1) := by decide +kernel
theorem dL_isTick_1 : decode cL_isTick 1 = .ok (.invokevirtual 98, 3) := by decide +kernel
theorem dL_isTick_4 : decode cL_isTick 4 = .ok (.istore_n 3, 1) := by decide +kernel
theorem dL_isTick_5 : decode cL_isTick 5 = .ok (.aload_n 0, 1) := by decide +kernel
theorem dL_isTick_6 : decode cL_isTick 6 = .ok (.invokevirtual 117, 3) := by decide +kernel
theorem dL_isTick_9 : decode cL_isTick 9 = .ok (.istore 4, 2) := by decide +kernel
theorem dL_isTick_11 : decode cL_isTick 11 = .ok (.aload_n 0, 1) := by decide +kernel
theorem dL_isTick_12 : decode cL_isTick 12 = .ok (.invokevirtual 120, 3) := by decide +kernel
theorem dL_isTick_15 : decode cL_isTick 15 = .ok (.istore 5, 2) := by decide +kernel
theorem dL_isTick_17 : decode cL_isTick 17 = .ok (.iconst 0, 1) := by decide +kernel
theorem dL_isTick_18 : decode cL_isTick 18 = .ok (.istore 6, 2) := by decide +kernel
theorem dL_isTick_20 : decode cL_isTick 20 = .ok (.iconst 0, 1) := by decide +kernel
theorem dL_isTick_21 : decode cL_isTick 21 = .ok (.istore 7, 2) := by decide +kernel
theorem dL_isTick_23 : decode cL_isTick 23 = .ok (.iconst 0, 1) := by decide +kernel
theorem dL_isTick_24 : decode cL_isTick 24 = .ok (.istore 8, 2) := by decide +kernel
theorem dL_isTick_26 : decode cL_isTick 26 = .ok (.iconst 0, 1) := by decide +kernel
theorem dL_isTick_27 : decode cL_isTick 27 = .ok (.istore 9, 2) := by decide +kernel
theorem dL_isTick_29 : decode cL_isTick 29 = .ok (.iconst 0, 1) := by decide +kernel
theorem dL_isTick_30 : decode cL_isTick 30 = .ok (.istore 10, 2) := by decide +kernel
theorem dL_isTick_32 : decode cL_isTick 32 = .ok (.iload 10, 2) := by decide +kernel
theorem dL_isTick_34 : decode cL_isTick 34 = .ok (.aload_n 0, 1) := by decide +kernel
theorem dL_isTick_35 : decode cL_isTick 35 = .ok (.invokevirtual 92, 3) := by decide +kernel
theorem dL_isTick_38 : decode cL_isTick 38 = .ok (.if_icmp .ge 42, 3) := by decide +kernel
theorem dL_isTick_41 : decode cL_isTick 41 = .ok (.iload 6, 2) := by decide +kernel
theorem dL_isTick_43 : decode cL_isTick 43 = .ok (.aload_n 0, 1) := by decide +kernel
theorem dL_isTick_44 : decode cL_isTick 44 = .ok (.iload 10, 2) := by decide +kernel
theorem dL_isTick_46 : decode cL_isTick 46 = .ok (.invokevirtual 34, 3) := by decide +kernel
theorem dL_isTick_49 : decode cL_isTick 49 = .ok (.isub, 1) := by decide +kernel
theorem dL_isTick_50 : decode cL_isTick 50 = .ok (.istore 6, 2) := by decide +kernel
theorem dL_isTick_52 : decode cL_isTick 52 = .ok (.iload 7, 2) := by decide +kernel
theorem dL_isTick_54 : decode cL_isTick 54 = .ok (.aload_n 0, 1) := by decide +kernel
theorem dL_isTick_55 : decode cL_isTick 55 = .ok (.iload 10, 2) := by decide +kernel
theorem dL_isTick_57 : decode cL_isTick 57 = .ok (.invokevirtual 40, 3) := by decide +kernel
theorem dL_isTick_60 : decode cL_isTick 60 = .ok (.isub, 1) := by decide +kernel
theorem dL_isTick_61 : decode cL_isTick 61 = .ok (.istore 7, 2) := by decide +kernel
theorem dL_isTick_63 : decode cL_isTick 63 = .ok (.iload 8, 2) := by decide +kernel
theorem dL_isTick_65 : decode cL_isTick 65 = .ok (.aload_n 0, 1) := by decide +kernel
theorem dL_isTick_66 : decode cL_isTick 66 = .ok (.iload 10, 2) := by decide +kernel
theorem dL_isTick_68 : decode cL_isTick 68 = .ok (.invokevirtual 37, 3) := by decide +kernel
theorem dL_isTick_71 : decode cL_isTick 71 = .ok (.isub, 1) := by decide +kernel
theorem dL_isTick_72 : decode cL_isTick 72 = .ok (.istore 8, 2) := by decide +kernel
theorem dL_isTick_74 : decode cL_isTick 74 = .ok (.iinc 10 1, 3) := by decide +kernel
theorem dL_isTick_77 : decode cL_isTick 77 = .ok (.goto (-45), 3) := by decide +kernel
theorem dL_isTick_80 : decode cL_isTick 80 = .ok (.iconst 0, 1) := by decide +kernel
theorem dL_isTick_81 : decode cL_isTick 81 = .ok (.istore 10, 2) := by decide +kernel
theorem dL_isTick_83 : decode cL_isTick 83 = .ok (.iload 10, 2) := by decide +kernel
theorem dL_isTick_85 : decode cL_isTick 85 = .ok (.bipush 16, 2) := by decide +kernel
theorem dL_isTick_87 : decode cL_isTick 87 = .ok (.if_icmp .ge 28, 3) := by decide +kernel
theorem dL_isTick_90 : decode cL_isTick 90 = .ok (.iload 9, 2) := by decide +kernel
theorem dL_isTick_92 : decode cL_isTick 92 = .ok (.aload_n 0, 1) := by decide +kernel
theorem dL_isTick_93 : decode cL_isTick 93 = .ok (.iload 10, 2) := by decide +kernel
theorem dL_isTick_95 : decode cL_isTick 95 = .ok (.invokevirtual 60, 3) := by decide +kernel
theorem dL_isTick_98 : decode cL_isTick 98 = .ok (.ifCond .le 7, 3) := by decide +kernel
theorem dL_isTick_101 : decode cL_isTick 101 = .ok (.iconst 1, 1) := by decide +kernel
theorem dL_isTick_102 : decode cL_isTick 102 = .ok (.goto 4, 3) := by decide +kernel
theorem dL_isTick_105 : decode cL_isTick 105 = .ok (.iconst 0, 1) := by decide +kernel
theorem dL_isTick_106 : decode cL_isTick 106 = .ok (.iadd, 1) := by decide +kernel
theorem dL_isTick_107 : decode cL_isTick 107 = .ok (.istore 9, 2) := by decide +kernel
theorem dL_isTick_109 : decode cL_isTick 109 = .ok (.iinc 10 1, 3) := by decide +kernel
theorem dL_isTick_112 : decode cL_isTick 112 = .ok (.goto (-29), 3) := by decide +kernel
theorem dL_isTick_115 : decode cL_isTick 115 = .ok (.aload_n 0, 1) := by decide +kernel
theorem dL_isTick_116 : decode cL_isTick 116 = .ok (.iconst 1, 1) := by decide +kernel
theorem dL_isTick_117 : decode cL_isTick 117 = .ok (.invokestatic 169, 3) := by decide +kernel
theorem dL_isTick_120 : decode cL_isTick 120 = .ok (.istore 10, 2) := by decide +kernel
theorem dL_isTick_122 : decode cL_isTick 122 = .ok (.iconst 0, 1) := by decide +kernel
theorem dL_isTick_123 : decode cL_isTick 123 = .ok (.istore 11, 2) := by decide +kernel
theorem dL_isTick_125 : decode cL_isTick 125 = .ok (.iload 11, 2) := by decide +kernel
theorem dL_isTick_127 : decode cL_isTick 127 = .ok (.aload_n 0, 1) := by decide +kernel
theorem dL_isTick_128 : decode cL_isTick 128 = .ok (.invokevirtual 92, 3) := by decide +kernel
theorem dL_isTick_131 : decode cL_isTick 131 = .ok (.if_icmp .ge 42, 3) := by decide +kernel
theorem dL_isTick_134 : decode cL_isTick 134 = .ok (.iload 6, 2) := by decide +kernel
theorem dL_isTick_136 : decode cL_isTick 136 = .ok (.aload_n 0, 1) := by decide +kernel
theorem dL_isTick_137 : decode cL_isTick 137 = .ok (.iload 11, 2) := by decide +kernel
theorem dL_isTick_139 : decode cL_isTick 139 = .ok (.invokevirtual 34, 3) := by decide +kernel
theorem dL_isTick_142 : decode cL_isTick 142 = .ok (.iadd, 1) := by decide +kernel
theorem dL_isTick_143 : decode cL_isTick 143 = .ok (.istore 6, 2) := by decide +kernel
theorem dL_isTick_145 : decode cL_isTick 145 = .ok (.iload 7, 2) := by decide +kernel
theorem dL_isTick_147 : decode cL_isTick 147 = .ok (.aload_n 0, 1) := by decide +kernel
theorem dL_isTick_148 : decode cL_isTick 148 = .ok (.iload 11, 2) := by decide +kernel
theorem dL_isTick_150 : decode cL_isTick 150 = .ok (.invokevirtual 40, 3) := by decide +kernel
theorem dL_isTick_153 : decode cL_isTick 153 = .ok (.iadd, 1) := by decide +kernel
theorem dL_isTick_154 : decode cL_isTick 154 = .ok (.istore 7, 2) := by decide +kernel
theorem dL_isTick_156 : decode cL_isTick 156 = .ok (.iload 8, 2) := by decide +kernel
theorem dL_isTick_158 : decode cL_isTick 158 = .ok (.aload_n 0, 1) := by decide +kernel
theorem dL_isTick_159 : decode cL_isTick 159 = .ok (.iload 11, 2) := by decide +kernel
theorem dL_isTick_161 : decode cL_isTick 161 = .ok (.invokevirtual 37, 3) := by decide +kernel
theorem dL_isTick_164 : decode cL_isTick 164 = .ok (.iadd, 1) := by decide +kernel
theorem dL_isTick_165 : decode cL_isTick 165 = .ok (.istore 8, 2) := by decide +kernel
theorem dL_isTick_167 : decode cL_isTick 167 = .ok (.iinc 11 1, 3) := by decide +kernel
theorem dL_isTick_170 : decode cL_isTick 170 = .ok (.goto (-45), 3) := by decide +kernel
theorem dL_isTick_173 : decode cL_isTick 173 = .ok (.iload 10, 2) := by decide +kernel
theorem dL_isTick_175 : decode cL_isTick 175 = .ok (.iload 9, 2) := by decide +kernel
theorem dL_isTick_177 : decode cL_isTick 177 = .ok (.if_icmp .ne 107, 3) := by decide +kernel
theorem dL_isTick_180 : decode cL_isTick 180 = .ok (.iload 8, 2) := by decide +kernel
theorem dL_isTick_182 : decode cL_isTick 182 = .ok (.iload 9, 2) := by decide +kernel
theorem dL_isTick_184 : decode cL_isTick 184 = .ok (.if_icmp .ne 100, 3) := by decide +kernel
theorem dL_isTick_187 : decode cL_isTick 187 = .ok (.aload_n 0, 1) := by decide +kernel
theorem dL_isTick_188 : decode cL_isTick 188 = .ok (.invokevirtual 98, 3) := by decide +kernel
theorem dL_isTick_191 : decode cL_isTick 191 = .ok (.iload_n 3, 1) := by decide +kernel
theorem dL_isTick_192 : decode cL_isTick 192 = .ok (.iconst 1, 1) := by decide +kernel
theorem dL_isTick_193 : decode cL_isTick 193 = .ok (.iadd, 1) := by decide +kernel
theorem dL_isTick_194 : decode cL_isTick 194 = .ok (.if_icmp .ne 90, 3) := by decide +kernel
theorem dL_isTick_197 : decode cL_isTick 197 = .ok (.iload 6, 2) := by decide +kernel
theorem dL_isTick_199 : decode cL_isTick 199 = .ok (.ifCond .lt 85, 3) := by decide +kernel
theorem dL_isTick_202 : decode cL_isTick 202 = .ok (.iload 6, 2) := by decide +kernel
theorem dL_isTick_204 : decode cL_isTick 204 = .ok (.bipush 16, 2) := by decide +kernel
theorem dL_isTick_206 : decode cL_isTick 206 = .ok (.if_icmp .gt 78, 3) := by decide +kernel
theorem dL_isTick_209 : decode cL_isTick 209 = .ok (.iload 7, 2) := by decide +kernel
theorem dL_isTick_211 : decode cL_isTick 211 = .ok (.ifCond .lt 73, 3) := by decide +kernel
theorem dL_isTick_214 : decode cL_isTick 214 = .ok (.iload 7, 2) := by decide +kernel
theorem dL_isTick_216 : decode cL_isTick 216 = .ok (.bipush 16, 2) := by decide +kernel
theorem dL_isTick_218 : decode cL_isTick 218 = .ok (.if_icmp .gt 66, 3) := by decide +kernel
theorem dL_isTick_221 : decode cL_isTick 221 = .ok (.aload_n 0, 1) := by decide +kernel
theorem dL_isTick_222 : decode cL_isTick 222 = .ok (.invokevirtual 120, 3) := by decide +kernel
theorem dL_isTick_225 : decode cL_isTick 225 = .ok (.iload 5, 2) := by decide +kernel
theorem dL_isTick_227 : decode cL_isTick 227 = .ok (.iload 6, 2) := by decide +kernel
theorem dL_isTick_229 : decode cL_isTick 229 = .ok (.iadd, 1) := by decide +kernel
theorem dL_isTick_230 : decode cL_isTick 230 = .ok (.iload 7, 2) := by decide +kernel
theorem dL_isTick_232 : decode cL_isTick 232 = .ok (.isub, 1) := by decide +kernel
theorem dL_isTick_233 : decode cL_isTick 233 = .ok (.iload 8, 2) := by decide +kernel
theorem dL_isTick_235 : decode cL_isTick 235 = .ok (.isub, 1) := by decide +kernel
theorem dL_isTick_236 : decode cL_isTick 236 = .ok (.if_icmp .ne 48, 3) := by decide +kernel
theorem dL_isTick_239 : decode cL_isTick 239 = .ok (.aload_n 2, 1) := by decide +kernel
theorem dL_isTick_240 : decode cL_isTick 240 = .ok (.iconst 0, 1) := by decide +kernel
theorem dL_isTick_241 : decode cL_isTick 241 = .ok (.iaload, 1) := by decide +kernel
theorem dL_isTick_242 : decode cL_isTick 242 = .ok (.ifCond .gt 12, 3) := by decide +kernel
theorem dL_isTick_245 : decode cL_isTick 245 = .ok (.aload_n 0, 1) := by decide +kernel
theorem dL_isTick_246 : decode cL_isTick 246 = .ok (.invokevirtual 117, 3) := by decide +kernel
theorem dL_isTick_249 : decode cL_isTick 249 = .ok (.bipush 80, 2) := by decide +kernel
theorem dL_isTick_251 : decode cL_isTick 251 = .ok (.if_icmp .gt 33, 3) := by decide +kernel
theorem dL_isTick_254 : decode cL_isTick 254 = .ok (.aload_n 0, 1) := by decide +kernel
theorem dL_isTick_255 : decode cL_isTick 255 = .ok (.invokevirtual 117, 3) := by decide +kernel
theorem dL_isTick_258 : decode cL_isTick 258 = .ok (.iload 4, 2) := by decide +kernel
theorem dL_isTick_260 : decode cL_isTick 260 = .ok (.bipush 80, 2) := by decide +kernel
theorem dL_isTick_262 : decode cL_isTick 262 = .ok (.iadd, 1) := by decide +kernel
theorem dL_isTick_263 : decode cL_isTick 263 = .ok (.if_icmp .gt 21, 3) := by decide +kernel
theorem dL_isTick_266 : decode cL_isTick 266 = .ok (.iload 5, 2) := by decide +kernel
theorem dL_isTick_268 : decode cL_isTick 268 = .ok (.ifCond .gt 12, 3) := by decide +kernel
theorem dL_isTick_271 : decode cL_isTick 271 = .ok (.aload_n 0, 1) := by decide +kernel
theorem dL_isTick_272 : decode cL_isTick 272 = .ok (.invokevirtual 117, 3) := by decide +kernel
theorem dL_isTick_275 : decode cL_isTick 275 = .ok (.iload 4, 2) := by decide +kernel
theorem dL_isTick_277 : decode cL_isTick 277 = .ok (.if_icmp .gt 7, 3) := by decide +kernel
theorem dL_isTick_280 : decode cL_isTick 280 = .ok (.iconst 1, 1) := by decide +kernel
theorem dL_isTick_281 : decode cL_isTick 281 = .ok (.goto 4, 3) := by decide +kernel
theorem dL_isTick_284 : decode cL_isTick 284 = .ok (.iconst 0, 1) := by decide +kernel
theorem dL_isTick_285 : decode cL_isTick 285 = .ok (.ireturn, 1) := by decide +kernel
set_option maxRecDepth 20000 in
theorem ggL_isAdded_X5_flows : GoodIn wsL_isAdded wsX5_flows := goodIn_r _ [5, 6, 145, 146, 147, 148, 149, 150, 151, 152, 153, 154, 155, 156, 157] (by decide +kernel) (by decide +kernel)
set_option maxRecDepth 20000 in
theorem gL_isAdded_X5_flows : GoodIn wsL_isAdded (wsV RL 92 RX5 yX5_flows wsX5_flows) := goodIn_app (goodIn_of _ (by decide +kernel)) ggL_isAdded_X5_flows
set_option maxRecDepth 20000 in
theorem ggL_isAdded_X5_clock : GoodIn wsL_isAdded wsX5_clock := goodIn_r _ [10, 11, 145, 146, 147, 148, 149, 150, 151, 152, 153, 154, 155, 156, 157] (by decide +kernel) (by decide +kernel)
set_option maxRecDepth 20000 in
theorem gL_isAdded_X5_clock : GoodIn wsL_isAdded (wsV RL 98 RX5 yX5_clock wsX5_clock) := goodIn_app (goodIn_of _ (by decide +kernel)) ggL_isAdded_X5_clock
set_option maxRecDepth 20000 in
theorem ggL_isAdded_L_links : GoodIn wsL_isAdded wsL_links := goodIn_ca (goodIn_r _ [15, 16, 17, 18, 19, 20, 21, 22, 23, 24, 25, 26, 27, 4, 28, 29, 30, 31, 32, 33, 34, 35, 36, 37, 38, 39, 40, 41, 42, 43, 44, 45, 46, 47, 48, 49, 50, 51, 52, 53, 54, 55, 56, 57, 58, 59, 60, 61, 62, 63, 64, 65, 66, 67, 68, 69, 70, 71, 72, 73, 74, 75, 76, 77, 78, 79, 80, 81, 82, 83, 84, 85, 86, 87, 88, 89, 90, 91, 92, 93, 94, 95, 96, 97, 145, 146, 147, 148, 149, 150, 151, 152, 153, 154, 155, 156, 157, 158, 159, 160, 161, 162, 163, 164, 165, 166, 167, 168] (by decide +kernel) (by decide +kernel)) (goodIn_sub (fun _ h => List.mem_cons_of_mem _ (List.mem_append_left _ (List.mem_append_left _ (List.mem_append_right _ h)))) (by decide +kernel))
set_option maxRecDepth 20000 in
theorem gL_isAdded_L_links : GoodIn wsL_isAdded (va_wsS RL 161 yL_links wsL_links) := goodIn_app (goodIn_of _ (by decide +kernel)) ggL_isAdded_L_links
set_option maxRecDepth 20000 in
theorem ggL_isAdded_L_addFlow : GoodIn wsL_isAdded wsL_addFlow := goodIn_ca (goodIn_ca (goodIn_r _ [100, 101, 102, 103, 104, 105, 4, 106, 47, 48, 107, 108, 6, 109, 11, 44, 45, 46, 49, 50, 51, 110, 111, 112, 113, 114, 115, 116, 117, 118, 119, 120, 121, 122, 123, 124, 125, 126, 145, 146, 147, 148, 149, 150, 151, 152, 153, 154, 155, 156, 157, 169, 170, 171, 172, 173, 174, 175, 176, 177, 178, 179, 180, 181] (by decide +kernel) (by decide +kernel)) (goodIn_sub (fun _ h => List.mem_cons_of_mem _ (List.mem_append_left _ (List.mem_append_left _ (List.mem_append_right _ h)))) (by decide +kernel))) (goodIn_sub (fun _ h => List.mem_cons_of_mem _ (List.mem_append_left _ (List.mem_append_right _ h))) (by decide +kernel))
set_option maxRecDepth 20000 in
theorem gL_isAdded_L_addFlow : GoodIn wsL_isAdded (va_wsS RL 166 yL_addFlow wsL_addFlow) := goodIn_app (goodIn_of _ (by decide +kernel)) ggL_isAdded_L_addFlow
set_option maxRecDepth 20000 in
theorem ggL_isAdded_X5_sent : GoodIn wsL_isAdded wsX5_sent := goodIn_ca (goodIn_r _ [130, 109, 131, 132, 133, 4, 134, 135, 136, 6, 49, 50, 51, 145, 146, 147, 148, 149, 150, 151, 152, 153, 154, 155, 156, 157, 169, 170, 171, 172, 173, 174, 175, 176, 177, 178, 179, 180, 181] (by decide +kernel) (by decide +kernel)) (goodIn_sub (fun _ h => List.mem_cons_of_mem _ (List.mem_append_right _ h)) (by decide +kernel))
set_option maxRecDepth 20000 in
theorem gL_isAdded_X5_sent : GoodIn wsL_isAdded (wsV RL 34 RX5 yX5_sent wsX5_sent) := goodIn_app (goodIn_of _ (by decide +kernel)) ggL_isAdded_X5_sent
set_option maxRecDepth 20000 in
theorem ggL_isAdded_X5_doneIn : GoodIn wsL_isAdded wsX5_doneIn := goodIn_ca (goodIn_r _ [140, 109, 131, 132, 133, 4, 134, 135, 136, 6, 49, 50, 51, 145, 146, 147, 148, 149, 150, 151, 152, 153, 154, 155, 156, 157, 169, 170, 171, 172, 173, 174, 175, 176, 177, 178, 179, 180, 181] (by decide +kernel) (by decide +kernel)) (goodIn_sub (fun _ h => List.mem_cons_of_mem _ (List.mem_append_right _ h)) (by decide +kernel))
set_option maxRecDepth 20000 in
theorem gL_isAdded_X5_doneIn : GoodIn wsL_isAdded (wsV RL 46 RX5 yX5_doneIn wsX5_doneIn) := goodIn_app (goodIn_of _ (by decide +kernel)) ggL_isAdded_X5_doneIn
set_option maxRecDepth 20000 in
theorem ggL_isAdded_X5_spineOf : GoodIn wsL_isAdded wsX5_spineOf := goodIn_ca (goodIn_r _ [144, 109, 131, 132, 133, 4, 134, 135, 136, 6, 49, 50, 51, 145, 146, 147, 148, 149, 150, 151, 152, 153, 154, 155, 156, 157, 169, 170, 171, 172, 173, 174, 175, 176, 177, 178, 179, 180, 181] (by decide +kernel) (by decide +kernel)) (goodIn_sub (fun _ h => List.mem_cons_of_mem _ (List.mem_append_right _ h)) (by decide +kernel))
set_option maxRecDepth 20000 in
theorem gL_isAdded_X5_spineOf : GoodIn wsL_isAdded (wsV RL 52 RX5 yX5_spineOf wsX5_spineOf) := goodIn_app (goodIn_of _ (by decide +kernel)) ggL_isAdded_X5_spineOf
theorem dL_isAdded_0 : decode cL_isAdded 0 = .ok (.aload_n 0, 1) := by decide +kernel
theorem dL_isAdded_1 : decode cL_isAdded 1 = .ok (.invokevirtual 92, 3) := by decide +kernel
theorem dL_isAdded_4 : decode cL_isAdded 4 = .ok (.istore 6, 2) := by decide +kernel
theorem dL_isAdded_6 : decode cL_isAdded 6 = .ok (.aload_n 0, 1) := by decide +kernel
theorem dL_isAdded_7 : decode cL_isAdded 7 = .ok (.invokevirtual 98, 3) := by decide +kernel
theorem dL_isAdded_10 : decode cL_isAdded 10 = .ok (.istore 7, 2) := by decide +kernel
theorem dL_isAdded_12 : decode cL_isAdded 12 = .ok (.aload_n 0, 1) := by decide +kernel
theorem dL_isAdded_13 : decode cL_isAdded 13 = .ok (.invokestatic 161, 3) := by decide +kernel
theorem dL_isAdded_16 : decode cL_isAdded 16 = .ok (.lstore 8, 2) := by decide +kernel
theorem dL_isAdded_18 : decode cL_isAdded 18 = .ok (.aload_n 0, 1) := by decide +kernel
theorem dL_isAdded_19 : decode cL_isAdded 19 = .ok (.iload_n 2, 1) := by decide +kernel
theorem dL_isAdded_20 : decode cL_isAdded 20 = .ok (.iload_n 3, 1) := by decide +kernel
theorem dL_isAdded_21 : decode cL_isAdded 21 = .ok (.iload 4, 2) := by decide +kernel
theorem dL_isAdded_23 : decode cL_isAdded 23 = .ok (.iload 5, 2) := by decide +kernel
theorem dL_isAdded_25 : decode cL_isAdded 25 = .ok (.invokestatic 166, 3) := by decide +kernel
theorem dL_isAdded_28 : decode cL_isAdded 28 = .ok (.istore 10, 2) := by decide +kernel
theorem dL_isAdded_30 : decode cL_isAdded 30 = .ok (.iload_n 2, 1) := by decide +kernel
theorem dL_isAdded_31 : decode cL_isAdded 31 = .ok (.iload_n 3, 1) := by decide +kernel
theorem dL_isAdded_32 : decode cL_isAdded 32 = .ok (.if_icmp .eq 10, 3) := by decide +kernel
theorem dL_isAdded_35 : decode cL_isAdded 35 = .ok (.iload 6, 2) := by decide +kernel
theorem dL_isAdded_37 : decode cL_isAdded 37 = .ok (.bipush 24, 2) := by decide +kernel
theorem dL_isAdded_39 : decode cL_isAdded 39 = .ok (.if_icmp .ne 35, 3) := by decide +kernel
theorem dL_isAdded_42 : decode cL_isAdded 42 = .ok (.iload 10, 2) := by decide +kernel
theorem dL_isAdded_44 : decode cL_isAdded 44 = .ok (.iload_n 2, 1) := by decide +kernel
theorem dL_isAdded_45 : decode cL_isAdded 45 = .ok (.iload_n 3, 1) := by decide +kernel
theorem dL_isAdded_46 : decode cL_isAdded 46 = .ok (.if_icmp .ne 8, 3) := by decide +kernel
theorem dL_isAdded_49 : decode cL_isAdded 49 = .ok (.bipush (-62), 2) := by decide +kernel
theorem dL_isAdded_51 : decode cL_isAdded 51 = .ok (.goto 5, 3) := by decide +kernel
theorem dL_isAdded_54 : decode cL_isAdded 54 = .ok (.bipush (-63), 2) := by decide +kernel
theorem dL_isAdded_56 : decode cL_isAdded 56 = .ok (.if_icmp .ne 16, 3) := by decide +kernel
theorem dL_isAdded_59 : decode cL_isAdded 59 = .ok (.aload_n 0, 1) := by decide +kernel
theorem dL_isAdded_60 : decode cL_isAdded 60 = .ok (.invokevirtual 92, 3) := by decide +kernel
theorem dL_isAdded_63 : decode cL_isAdded 63 = .ok (.iload 6, 2) := by decide +kernel
theorem dL_isAdded_65 : decode cL_isAdded 65 = .ok (.if_icmp .ne 7, 3) := by decide +kernel
theorem dL_isAdded_68 : decode cL_isAdded 68 = .ok (.iconst 1, 1) := by decide +kernel
theorem dL_isAdded_69 : decode cL_isAdded 69 = .ok (.goto 4, 3) := by decide +kernel
theorem dL_isAdded_72 : decode cL_isAdded 72 = .ok (.iconst 0, 1) := by decide +kernel
theorem dL_isAdded_73 : decode cL_isAdded 73 = .ok (.ireturn, 1) := by decide +kernel
theorem dL_isAdded_74 : decode cL_isAdded 74 = .ok (.aload_n 1, 1) := by decide +kernel
theorem dL_isAdded_75 : decode cL_isAdded 75 = .ok (.iload 6, 2) := by decide +kernel
theorem dL_isAdded_77 : decode cL_isAdded 77 = .ok (.iload_n 2, 1) := by decide +kernel
theorem dL_isAdded_78 : decode cL_isAdded 78 = .ok (.iload_n 3, 1) := by decide +kernel
theorem dL_isAdded_79 : decode cL_isAdded 79 = .ok (.iconst 4, 1) := by decide +kernel
theorem dL_isAdded_80 : decode cL_isAdded 80 = .ok (.ishl, 1) := by decide +kernel
theorem dL_isAdded_81 : decode cL_isAdded 81 = .ok (.ior, 1) := by decide +kernel
theorem dL_isAdded_82 : decode cL_isAdded 82 = .ok (.iload 4, 2) := by decide +kernel
theorem dL_isAdded_84 : decode cL_isAdded 84 = .ok (.bipush 8, 2) := by decide +kernel
theorem dL_isAdded_86 : decode cL_isAdded 86 = .ok (.ishl, 1) := by decide +kernel
theorem dL_isAdded_87 : decode cL_isAdded 87 = .ok (.ior, 1) := by decide +kernel
theorem dL_isAdded_88 : decode cL_isAdded 88 = .ok (.iload 7, 2) := by decide +kernel
theorem dL_isAdded_90 : decode cL_isAdded 90 = .ok (.iload 5, 2) := by decide +kernel
theorem dL_isAdded_92 : decode cL_isAdded 92 = .ok (.iadd, 1) := by decide +kernel
theorem dL_isAdded_93 : decode cL_isAdded 93 = .ok (.bipush 16, 2) := by decide +kernel
theorem dL_isAdded_95 : decode cL_isAdded 95 = .ok (.ishl, 1) := by decide +kernel
theorem dL_isAdded_96 : decode cL_isAdded 96 = .ok (.ior, 1) := by decide +kernel
theorem dL_isAdded_97 : decode cL_isAdded 97 = .ok (.iastore, 1) := by decide +kernel
theorem dL_isAdded_98 : decode cL_isAdded 98 = .ok (.iload 10, 2) := by decide +kernel
theorem dL_isAdded_100 : decode cL_isAdded 100 = .ok (.iload 6, 2) := by decide +kernel
theorem dL_isAdded_102 : decode cL_isAdded 102 = .ok (.if_icmp .ne 57, 3) := by decide +kernel
theorem dL_isAdded_105 : decode cL_isAdded 105 = .ok (.aload_n 0, 1) := by decide +kernel
theorem dL_isAdded_106 : decode cL_isAdded 106 = .ok (.invokevirtual 92, 3) := by decide +kernel
theorem dL_isAdded_109 : decode cL_isAdded 109 = .ok (.iload 6, 2) := by decide +kernel
theorem dL_isAdded_111 : decode cL_isAdded 111 = .ok (.iconst 1, 1) := by decide +kernel
theorem dL_isAdded_112 : decode cL_isAdded 112 = .ok (.iadd, 1) := by decide +kernel
theorem dL_isAdded_113 : decode cL_isAdded 113 = .ok (.if_icmp .ne 46, 3) := by decide +kernel
theorem dL_isAdded_116 : decode cL_isAdded 116 = .ok (.aload_n 0, 1) := by decide +kernel
theorem dL_isAdded_117 : decode cL_isAdded 117 = .ok (.iload 6, 2) := by decide +kernel
theorem dL_isAdded_119 : decode cL_isAdded 119 = .ok (.invokevirtual 34, 3) := by decide +kernel
theorem dL_isAdded_122 : decode cL_isAdded 122 = .ok (.ifCond .ne 37, 3) := by decide +kernel
theorem dL_isAdded_125 : decode cL_isAdded 125 = .ok (.aload_n 0, 1) := by decide +kernel
theorem dL_isAdded_126 : decode cL_isAdded 126 = .ok (.iload 6, 2) := by decide +kernel
theorem dL_isAdded_128 : decode cL_isAdded 128 = .ok (.invokevirtual 46, 3) := by decide +kernel
theorem dL_isAdded_131 : decode cL_isAdded 131 = .ok (.iconst (-1), 1) := by decide +kernel
theorem dL_isAdded_132 : decode cL_isAdded 132 = .ok (.if_icmp .ne 27, 3) := by decide +kernel
theorem dL_isAdded_135 : decode cL_isAdded 135 = .ok (.aload_n 0, 1) := by decide +kernel
theorem dL_isAdded_136 : decode cL_isAdded 136 = .ok (.iload 6, 2) := by decide +kernel
theorem dL_isAdded_138 : decode cL_isAdded 138 = .ok (.invokevirtual 52, 3) := by decide +kernel
theorem dL_isAdded_141 : decode cL_isAdded 141 = .ok (.iconst (-1), 1) := by decide +kernel
theorem dL_isAdded_142 : decode cL_isAdded 142 = .ok (.if_icmp .ne 17, 3) := by decide +kernel
theorem dL_isAdded_145 : decode cL_isAdded 145 = .ok (.aload_n 0, 1) := by decide +kernel
theorem dL_isAdded_146 : decode cL_isAdded 146 = .ok (.invokestatic 161, 3) := by decide +kernel
theorem dL_isAdded_149 : decode cL_isAdded 149 = .ok (.lload 8, 2) := by decide +kernel
theorem dL_isAdded_151 : decode cL_isAdded 151 = .ok (.lcmp, 1) := by decide +kernel
theorem dL_isAdded_152 : decode cL_isAdded 152 = .ok (.ifCond .ne 7, 3) := by decide +kernel
theorem dL_isAdded_155 : decode cL_isAdded 155 = .ok (.iconst 1, 1) := by decide +kernel
theorem dL_isAdded_156 : decode cL_isAdded 156 = .ok (.goto 4, 3) := by decide +kernel
theorem dL_isAdded_159 : decode cL_isAdded 159 = .ok (.iconst 0, 1) := by decide +kernel
theorem dL_isAdded_160 : decode cL_isAdded 160 = .ok (.ireturn, 1) := by decide +kernel
set_option maxRecDepth 20000 in
theorem ggL_isCutting_X5_northQueue : GoodIn wsL_isCutting wsX5_northQueue := goodIn_ca (goodIn_r _ [5, 6, 7, 4, 8, 9, 10, 11, 12, 13, 14, 15, 16, 17, 18, 116, 117, 118, 119, 120, 121, 122, 123, 124, 125, 126, 127, 128, 129, 130, 131, 132, 133, 134, 135] (by decide +kernel) (by decide +kernel)) (goodIn_sub (fun _ h => List.mem_cons_of_mem _ (List.mem_append_left _ (List.mem_append_left _ (List.mem_append_right _ h)))) (by decide +kernel))
set_option maxRecDepth 20000 in
theorem gL_isCutting_X5_northQueue : GoodIn wsL_isCutting (wsV RL 69 RX5 yX5_northQueue wsX5_northQueue) := goodIn_app (goodIn_of _ (by decide +kernel)) ggL_isCutting_X5_northQueue
set_option maxRecDepth 20000 in
theorem ggL_isCutting_X5_southQueue : GoodIn wsL_isCutting wsX5_southQueue := goodIn_ca (goodIn_r _ [22, 6, 7, 4, 8, 9, 10, 11, 12, 13, 23, 24, 25, 26, 27, 116, 117, 118, 119, 120, 121, 122, 123, 124, 125, 126, 127, 128, 129, 130, 131, 132, 133, 134, 135] (by decide +kernel) (by decide +kernel)) (goodIn_sub (fun _ h => List.mem_cons_of_mem _ (List.mem_append_left _ (List.mem_append_left _ (List.mem_append_right _ h)))) (by decide +kernel))
set_option maxRecDepth 20000 in
theorem gL_isCutting_X5_southQueue : GoodIn wsL_isCutting (wsV RL 72 RX5 yX5_southQueue wsX5_southQueue) := goodIn_app (goodIn_of _ (by decide +kernel)) ggL_isCutting_X5_southQueue
set_option maxRecDepth 20000 in
theorem ggL_isCutting_L_flows : GoodIn wsL_isCutting wsL_flows := goodIn_ca (goodIn_r _ [31, 32, 33, 34, 35, 36, 37, 38, 39, 40, 41, 42, 43, 4, 44, 45, 46, 47, 48, 49, 50, 51, 52, 53, 54, 55, 56, 57, 58, 59, 60, 61, 11, 12, 13, 62, 63, 64, 65, 66, 67, 68, 69, 70, 71, 72, 73, 74, 75, 76, 77, 78, 79, 80, 81, 82, 83, 84, 85, 123, 124, 125, 126, 127, 128, 129, 130, 131, 132, 133, 134, 135, 136, 137, 138, 139, 140, 141, 142, 143, 144, 145, 146, 147, 148] (by decide +kernel) (by decide +kernel)) (goodIn_sub (fun _ h => List.mem_cons_of_mem _ (List.mem_append_left _ (List.mem_append_right _ h))) (by decide +kernel))
set_option maxRecDepth 20000 in
theorem gL_isCutting_L_flows : GoodIn wsL_isCutting (va_wsS RL 158 yL_flows wsL_flows) := goodIn_app (goodIn_of _ (by decide +kernel)) ggL_isCutting_L_flows
set_option maxRecDepth 20000 in
theorem ggL_isCutting_L_cut : GoodIn wsL_isCutting wsL_cut := goodIn_ca (goodIn_ca (goodIn_r _ [88, 89, 90, 91, 92, 93, 4, 94, 95, 96, 97, 6, 7, 8, 9, 10, 11, 12, 13, 98, 99, 100, 101, 14, 15, 16, 17, 18, 23, 24, 25, 26, 27, 123, 124, 125, 126, 127, 128, 129, 130, 131, 132, 133, 134, 135, 116, 117, 118, 119, 120, 121, 122] (by decide +kernel) (by decide +kernel)) (goodIn_sub (fun _ h => List.mem_cons_of_mem _ (List.mem_append_right _ h)) (by decide +kernel))) (goodIn_sub (fun _ h => List.mem_cons_of_mem _ (List.mem_append_left _ (List.mem_append_left _ (List.mem_append_right _ h)))) (by decide +kernel))
set_option maxRecDepth 20000 in
theorem gL_isCutting_L_cut : GoodIn wsL_isCutting (va_wsS RL 172 yL_cut wsL_cut) := goodIn_app (goodIn_of _ (by decide +kernel)) ggL_isCutting_L_cut
set_option maxRecDepth 20000 in
theorem ggL_isCutting_L_restore : GoodIn wsL_isCutting wsL_restore := goodIn_ca (goodIn_ca (goodIn_r _ [104, 89, 90, 105, 106, 107, 4, 108, 95, 96, 97, 6, 7, 8, 9, 10, 11, 12, 13, 98, 99, 100, 101, 109, 110, 111, 112, 113, 114, 115, 123, 124, 125, 126, 127, 128, 129, 130, 131, 132, 133, 134, 135] (by decide +kernel) (by decide +kernel)) (goodIn_sub (fun _ h => List.mem_cons_of_mem _ (List.mem_append_right _ h)) (by decide +kernel))) (goodIn_sub (fun _ h => List.mem_cons_of_mem _ (List.mem_append_left _ (List.mem_append_left _ (List.mem_append_right _ h)))) (by decide +kernel))
set_option maxRecDepth 20000 in
theorem gL_isCutting_L_restore : GoodIn wsL_isCutting (va_wsS RL 174 yL_restore wsL_restore) := goodIn_app (goodIn_of _ (by decide +kernel)) ggL_isCutting_L_restore
theorem dL_isCutting_0 : decode cL_isCutting 0 = .ok (.iconst 1, 1) := by decide +kernel
theorem dL_isCutting_1 : decode cL_isCutting 1 = .ok (.iconst 4, 1) := by decide +kernel
theorem dL_isCutting_2 : decode cL_isCutting 2 = .ok (.iload_n 2, 1) := by decide +kernel
theorem dL_isCutting_3 : decode cL_isCutting 3 = .ok (.imul, 1) := by decide +kernel
theorem dL_isCutting_4 : decode cL_isCutting 4 = .ok (.iload_n 3, 1) := by decide +kernel
theorem dL_isCutting_5 : decode cL_isCutting 5 = .ok (.iadd, 1) := by decide +kernel
theorem dL_isCutting_6 : decode cL_isCutting 6 = .ok (.ishl, 1) := by decide +kernel
theorem dL_isCutting_7 : decode cL_isCutting 7 = .ok (.istore 5, 2) := by decide +kernel
theorem dL_isCutting_9 : decode cL_isCutting 9 = .ok (.aload_n 1, 1) := by decide +kernel
theorem dL_isCutting_10 : decode cL_isCutting 10 = .ok (.iconst 3, 1) := by decide +kernel
theorem dL_isCutting_11 : decode cL_isCutting 11 = .ok (.iaload, 1) := by decide +kernel
theorem dL_isCutting_12 : decode cL_isCutting 12 = .ok (.iload 5, 2) := by decide +kernel
theorem dL_isCutting_14 : decode cL_isCutting 14 = .ok (.iand, 1) := by decide +kernel
theorem dL_isCutting_15 : decode cL_isCutting 15 = .ok (.ifCond .eq 7, 3) := by decide +kernel
theorem dL_isCutting_18 : decode cL_isCutting 18 = .ok (.iconst 1, 1) := by decide +kernel
theorem dL_isCutting_19 : decode cL_isCutting 19 = .ok (.goto 4, 3) := by decide +kernel
theorem dL_isCutting_22 : decode cL_isCutting 22 = .ok (.iconst 0, 1) := by decide +kernel
theorem dL_isCutting_23 : decode cL_isCutting 23 = .ok (.istore 6, 2) := by decide +kernel
theorem dL_isCutting_25 : decode cL_isCutting 25 = .ok (.aload_n 0, 1) := by decide +kernel
theorem dL_isCutting_26 : decode cL_isCutting 26 = .ok (.iload_n 2, 1) := by decide +kernel
theorem dL_isCutting_27 : decode cL_isCutting 27 = .ok (.iload_n 3, 1) := by decide +kernel
theorem dL_isCutting_28 : decode cL_isCutting 28 = .ok (.invokevirtual 69, 3) := by decide +kernel
theorem dL_isCutting_31 : decode cL_isCutting 31 = .ok (.aload_n 0, 1) := by decide +kernel
theorem dL_isCutting_32 : decode cL_isCutting 32 = .ok (.iload_n 3, 1) := by decide +kernel
theorem dL_isCutting_33 : decode cL_isCutting 33 = .ok (.iload_n 2, 1) := by decide +kernel
theorem dL_isCutting_34 : decode cL_isCutting 34 = .ok (.invokevirtual 72, 3) := by decide +kernel
theorem dL_isCutting_37 : decode cL_isCutting 37 = .ok (.iadd, 1) := by decide +kernel
theorem dL_isCutting_38 : decode cL_isCutting 38 = .ok (.istore 7, 2) := by decide +kernel
theorem dL_isCutting_40 : decode cL_isCutting 40 = .ok (.iconst 0, 1) := by decide +kernel
theorem dL_isCutting_41 : decode cL_isCutting 41 = .ok (.istore 8, 2) := by decide +kernel
theorem dL_isCutting_43 : decode cL_isCutting 43 = .ok (.aload_n 0, 1) := by decide +kernel
theorem dL_isCutting_44 : decode cL_isCutting 44 = .ok (.invokestatic 158, 3) := by decide +kernel
theorem dL_isCutting_47 : decode cL_isCutting 47 = .ok (.lstore 9, 2) := by decide +kernel
theorem dL_isCutting_49 : decode cL_isCutting 49 = .ok (.iload 4, 2) := by decide +kernel
theorem dL_isCutting_51 : decode cL_isCutting 51 = .ok (.ifCond .eq 12, 3) := by decide +kernel
theorem dL_isCutting_54 : decode cL_isCutting 54 = .ok (.aload_n 0, 1) := by decide +kernel
theorem dL_isCutting_55 : decode cL_isCutting 55 = .ok (.iload_n 2, 1) := by decide +kernel
theorem dL_isCutting_56 : decode cL_isCutting 56 = .ok (.iload_n 3, 1) := by decide +kernel
theorem dL_isCutting_57 : decode cL_isCutting 57 = .ok (.invokestatic 172, 3) := by decide +kernel
theorem dL_isCutting_60 : decode cL_isCutting 60 = .ok (.goto 9, 3) := by decide +kernel
theorem dL_isCutting_63 : decode cL_isCutting 63 = .ok (.aload_n 0, 1) := by decide +kernel
theorem dL_isCutting_64 : decode cL_isCutting 64 = .ok (.iload_n 2, 1) := by decide +kernel
theorem dL_isCutting_65 : decode cL_isCutting 65 = .ok (.iload_n 3, 1) := by decide +kernel
theorem dL_isCutting_66 : decode cL_isCutting 66 = .ok (.invokestatic 174, 3) := by decide +kernel
theorem dL_isCutting_69 : decode cL_isCutting 69 = .ok (.istore 11, 2) := by decide +kernel
theorem dL_isCutting_71 : decode cL_isCutting 71 = .ok (.aload_n 1, 1) := by decide +kernel
theorem dL_isCutting_72 : decode cL_isCutting 72 = .ok (.iconst 3, 1) := by decide +kernel
theorem dL_isCutting_73 : decode cL_isCutting 73 = .ok (.iload 4, 2) := by decide +kernel
theorem dL_isCutting_75 : decode cL_isCutting 75 = .ok (.ifCond .eq 12, 3) := by decide +kernel
theorem dL_isCutting_78 : decode cL_isCutting 78 = .ok (.aload_n 1, 1) := by decide +kernel
theorem dL_isCutting_79 : decode cL_isCutting 79 = .ok (.iconst 3, 1) := by decide +kernel
theorem dL_isCutting_80 : decode cL_isCutting 80 = .ok (.iaload, 1) := by decide +kernel
theorem dL_isCutting_81 : decode cL_isCutting 81 = .ok (.iload 5, 2) := by decide +kernel
theorem dL_isCutting_83 : decode cL_isCutting 83 = .ok (.ior, 1) := by decide +kernel
theorem dL_isCutting_84 : decode cL_isCutting 84 = .ok (.goto 11, 3) := by decide +kernel
theorem dL_isCutting_87 : decode cL_isCutting 87 = .ok (.aload_n 1, 1) := by decide +kernel
theorem dL_isCutting_88 : decode cL_isCutting 88 = .ok (.iconst 3, 1) := by decide +kernel
theorem dL_isCutting_89 : decode cL_isCutting 89 = .ok (.iaload, 1) := by decide +kernel
theorem dL_isCutting_90 : decode cL_isCutting 90 = .ok (.iload 5, 2) := by decide +kernel
theorem dL_isCutting_92 : decode cL_isCutting 92 = .ok (.iconst (-1), 1) := by decide +kernel
theorem dL_isCutting_93 : decode cL_isCutting 93 = .ok (.ixor, 1) := by decide +kernel
theorem dL_isCutting_94 : decode cL_isCutting 94 = .ok (.iand, 1) := by decide +kernel
theorem dL_isCutting_95 : decode cL_isCutting 95 = .ok (.iastore, 1) := by decide +kernel
theorem dL_isCutting_96 : decode cL_isCutting 96 = .ok (.iconst 0, 1) := by decide +kernel
theorem dL_isCutting_97 : decode cL_isCutting 97 = .ok (.istore 12, 2) := by decide +kernel
theorem dL_isCutting_99 : decode cL_isCutting 99 = .ok (.iload 12, 2) := by decide +kernel
theorem dL_isCutting_101 : decode cL_isCutting 101 = .ok (.bipush 16, 2) := by decide +kernel
theorem dL_isCutting_103 : decode cL_isCutting 103 = .ok (.if_icmp .ge 22, 3) := by decide +kernel
theorem dL_isCutting_106 : decode cL_isCutting 106 = .ok (.iload 8, 2) := by decide +kernel
theorem dL_isCutting_108 : decode cL_isCutting 108 = .ok (.aload_n 1, 1) := by decide +kernel
theorem dL_isCutting_109 : decode cL_isCutting 109 = .ok (.iconst 3, 1) := by decide +kernel
theorem dL_isCutting_110 : decode cL_isCutting 110 = .ok (.iaload, 1) := by decide +kernel
theorem dL_isCutting_111 : decode cL_isCutting 111 = .ok (.iload 12, 2) := by decide +kernel
theorem dL_isCutting_113 : decode cL_isCutting 113 = .ok (.ishr, 1) := by decide +kernel
theorem dL_isCutting_114 : decode cL_isCutting 114 = .ok (.iconst 1, 1) := by decide +kernel
theorem dL_isCutting_115 : decode cL_isCutting 115 = .ok (.iand, 1) := by decide +kernel
theorem dL_isCutting_116 : decode cL_isCutting 116 = .ok (.iadd, 1) := by decide +kernel
theorem dL_isCutting_117 : decode cL_isCutting 117 = .ok (.istore 8, 2) := by decide +kernel
theorem dL_isCutting_119 : decode cL_isCutting 119 = .ok (.iinc 12 1, 3) := by decide +kernel
theorem dL_isCutting_122 : decode cL_isCutting 122 = .ok (.goto (-23), 3) := by decide +kernel
theorem dL_isCutting_125 : decode cL_isCutting 125 = .ok (.iload 11, 2) := by decide +kernel
theorem dL_isCutting_127 : decode cL_isCutting 127 = .ok (.iload 6, 2) := by decide +kernel
theorem dL_isCutting_129 : decode cL_isCutting 129 = .ok (.iload 4, 2) := by decide +kernel
theorem dL_isCutting_131 : decode cL_isCutting 131 = .ok (.if_icmp .ne 8, 3) := by decide +kernel
theorem dL_isCutting_134 : decode cL_isCutting 134 = .ok (.bipush (-63), 2) := by decide +kernel
theorem dL_isCutting_136 : decode cL_isCutting 136 = .ok (.goto 15, 3) := by decide +kernel
theorem dL_isCutting_139 : decode cL_isCutting 139 = .ok (.iload 4, 2) := by decide +kernel
theorem dL_isCutting_141 : decode cL_isCutting 141 = .ok (.ifCond .eq 8, 3) := by decide +kernel
theorem dL_isCutting_144 : decode cL_isCutting 144 = .ok (.iload 7, 2) := by decide +kernel
theorem dL_isCutting_146 : decode cL_isCutting 146 = .ok (.goto 5, 3) := by decide +kernel
theorem dL_isCutting_149 : decode cL_isCutting 149 = .ok (.iload 8, 2) := by decide +kernel
theorem dL_isCutting_151 : decode cL_isCutting 151 = .ok (.if_icmp .ne 89, 3) := by decide +kernel
theorem dL_isCutting_154 : decode cL_isCutting 154 = .ok (.aload_n 0, 1) := by decide +kernel
theorem dL_isCutting_155 : decode cL_isCutting 155 = .ok (.invokestatic 158, 3) := by decide +kernel
theorem dL_isCutting_158 : decode cL_isCutting 158 = .ok (.lload 9, 2) := by decide +kernel
theorem dL_isCutting_160 : decode cL_isCutting 160 = .ok (.lcmp, 1) := by decide +kernel
theorem dL_isCutting_161 : decode cL_isCutting 161 = .ok (.ifCond .ne 79, 3) := by decide +kernel
theorem dL_isCutting_164 : decode cL_isCutting 164 = .ok (.aload_n 0, 1) := by decide +kernel
theorem dL_isCutting_165 : decode cL_isCutting 165 = .ok (.iload_n 2, 1) := by decide +kernel
theorem dL_isCutting_166 : decode cL_isCutting 166 = .ok (.iload_n 3, 1) := by decide +kernel
theorem dL_isCutting_167 : decode cL_isCutting 167 = .ok (.invokevirtual 69, 3) := by decide +kernel
theorem dL_isCutting_170 : decode cL_isCutting 170 = .ok (.aload_n 0, 1) := by decide +kernel
theorem dL_isCutting_171 : decode cL_isCutting 171 = .ok (.iload_n 3, 1) := by decide +kernel
theorem dL_isCutting_172 : decode cL_isCutting 172 = .ok (.iload_n 2, 1) := by decide +kernel
theorem dL_isCutting_173 : decode cL_isCutting 173 = .ok (.invokevirtual 72, 3) := by decide +kernel
theorem dL_isCutting_176 : decode cL_isCutting 176 = .ok (.iadd, 1) := by decide +kernel
theorem dL_isCutting_177 : decode cL_isCutting 177 = .ok (.iload 7, 2) := by decide +kernel
theorem dL_isCutting_179 : decode cL_isCutting 179 = .ok (.if_icmp .ne 61, 3) := by decide +kernel
theorem dL_isCutting_182 : decode cL_isCutting 182 = .ok (.iload 4, 2) := by decide +kernel
theorem dL_isCutting_184 : decode cL_isCutting 184 = .ok (.ifCond .eq 30, 3) := by decide +kernel
theorem dL_isCutting_187 : decode cL_isCutting 187 = .ok (.aload_n 0, 1) := by decide +kernel
theorem dL_isCutting_188 : decode cL_isCutting 188 = .ok (.iload_n 2, 1) := by decide +kernel
theorem dL_isCutting_189 : decode cL_isCutting 189 = .ok (.iload_n 3, 1) := by decide +kernel
theorem dL_isCutting_190 : decode cL_isCutting 190 = .ok (.invokestatic 174, 3) := by decide +kernel
theorem dL_isCutting_193 : decode cL_isCutting 193 = .ok (.iload 8, 2) := by decide +kernel
theorem dL_isCutting_195 : decode cL_isCutting 195 = .ok (.iconst 1, 1) := by decide +kernel
theorem dL_isCutting_196 : decode cL_isCutting 196 = .ok (.isub, 1) := by decide +kernel
theorem dL_isCutting_197 : decode cL_isCutting 197 = .ok (.if_icmp .ne 43, 3) := by decide +kernel
theorem dL_isCutting_200 : decode cL_isCutting 200 = .ok (.aload_n 0, 1) := by decide +kernel
theorem dL_isCutting_201 : decode cL_isCutting 201 = .ok (.iload_n 2, 1) := by decide +kernel
theorem dL_isCutting_202 : decode cL_isCutting 202 = .ok (.iload_n 3, 1) := by decide +kernel
theorem dL_isCutting_203 : decode cL_isCutting 203 = .ok (.invokestatic 172, 3) := by decide +kernel
theorem dL_isCutting_206 : decode cL_isCutting 206 = .ok (.iload 7, 2) := by decide +kernel
theorem dL_isCutting_208 : decode cL_isCutting 208 = .ok (.if_icmp .ne 32, 3) := by decide +kernel
theorem dL_isCutting_211 : decode cL_isCutting 211 = .ok (.goto 25, 3) := by decide +kernel
theorem dL_isCutting_214 : decode cL_isCutting 214 = .ok (.aload_n 0, 1) := by decide +kernel
theorem dL_isCutting_215 : decode cL_isCutting 215 = .ok (.iload_n 2, 1) := by decide +kernel
theorem dL_isCutting_216 : decode cL_isCutting 216 = .ok (.iload_n 3, 1) := by decide +kernel
theorem dL_isCutting_217 : decode cL_isCutting 217 = .ok (.invokestatic 172, 3) := by decide +kernel
theorem dL_isCutting_220 : decode cL_isCutting 220 = .ok (.iload 7, 2) := by decide +kernel
theorem dL_isCutting_222 : decode cL_isCutting 222 = .ok (.if_icmp .ne 18, 3) := by decide +kernel
theorem dL_isCutting_225 : decode cL_isCutting 225 = .ok (.aload_n 0, 1) := by decide +kernel
theorem dL_isCutting_226 : decode cL_isCutting 226 = .ok (.iload_n 2, 1) := by decide +kernel
theorem dL_isCutting_227 : decode cL_isCutting 227 = .ok (.iload_n 3, 1) := by decide +kernel
theorem dL_isCutting_228 : decode cL_isCutting 228 = .ok (.invokestatic 174, 3) := by decide +kernel
theorem dL_isCutting_231 : decode cL_isCutting 231 = .ok (.iload 8, 2) := by decide +kernel
theorem dL_isCutting_233 : decode cL_isCutting 233 = .ok (.if_icmp .ne 7, 3) := by decide +kernel
theorem dL_isCutting_236 : decode cL_isCutting 236 = .ok (.iconst 1, 1) := by decide +kernel
theorem dL_isCutting_237 : decode cL_isCutting 237 = .ok (.goto 4, 3) := by decide +kernel
theorem dL_isCutting_240 : decode cL_isCutting 240 = .ok (.iconst 0, 1) := by decide +kernel
theorem dL_isCutting_241 : decode cL_isCutting 241 = .ok (.ireturn, 1) := by decide +kernel
