set_option maxRecDepth 20000 in
theorem ggL_areLinks_X5_upQueue : GoodIn wsL_areLinks wsX5_upQueue := goodIn_ca (goodIn_r _ [5, 6, 7, 8, 4, 9, 10, 11, 12, 13, 14, 80, 81, 82, 83, 84, 85, 86, 87, 88, 89, 90, 91, 92, 93, 94, 95, 96, 97, 98, 99, 100, 101, 102, 103] (by decide +kernel) (by decide +kernel)) (goodIn_sub (fun _ h => List.mem_cons_of_mem _ (List.mem_append_right _ h)) (by decide +kernel))
set_option maxRecDepth 20000 in
theorem gL_areLinks_X5_upQueue : GoodIn wsL_areLinks (wsV RL 57 RX5 yX5_upQueue wsX5_upQueue) := goodIn_app (goodIn_of _ (by decide +kernel)) ggL_areLinks_X5_upQueue
set_option maxRecDepth 20000 in
theorem ggL_areLinks_X5_northQueue : GoodIn wsL_areLinks wsX5_northQueue := goodIn_ca (goodIn_r _ [18, 19, 20, 4, 21, 10, 11, 12, 13, 14, 22, 23, 24, 25, 26, 97, 98, 99, 100, 101, 102, 103, 80, 81, 82, 83, 84, 85, 86, 87, 88, 89, 90, 91, 92] (by decide +kernel) (by decide +kernel)) (goodIn_sub (fun _ h => List.mem_cons_of_mem _ (List.mem_append_right _ h)) (by decide +kernel))
set_option maxRecDepth 20000 in
theorem gL_areLinks_X5_northQueue : GoodIn wsL_areLinks (wsV RL 69 RX5 yX5_northQueue wsX5_northQueue) := goodIn_app (goodIn_of _ (by decide +kernel)) ggL_areLinks_X5_northQueue
set_option maxRecDepth 20000 in
theorem ggL_areLinks_X5_downQueue : GoodIn wsL_areLinks wsX5_downQueue := goodIn_ca (goodIn_r _ [30, 6, 7, 8, 4, 9, 10, 11, 12, 13, 14, 80, 81, 82, 83, 84, 85, 86, 87, 88, 89, 90, 91, 92, 93, 94, 95, 96, 97, 98, 99, 100, 101, 102, 103] (by decide +kernel) (by decide +kernel)) (goodIn_sub (fun _ h => List.mem_cons_of_mem _ (List.mem_append_right _ h)) (by decide +kernel))
set_option maxRecDepth 20000 in
theorem gL_areLinks_X5_downQueue : GoodIn wsL_areLinks (wsV RL 60 RX5 yX5_downQueue wsX5_downQueue) := goodIn_app (goodIn_of _ (by decide +kernel)) ggL_areLinks_X5_downQueue
set_option maxRecDepth 20000 in
theorem ggL_areLinks_X5_southQueue : GoodIn wsL_areLinks wsX5_southQueue := goodIn_ca (goodIn_r _ [34, 19, 20, 4, 21, 10, 11, 12, 13, 14, 35, 36, 37, 38, 39, 97, 98, 99, 100, 101, 102, 103, 80, 81, 82, 83, 84, 85, 86, 87, 88, 89, 90, 91, 92] (by decide +kernel) (by decide +kernel)) (goodIn_sub (fun _ h => List.mem_cons_of_mem _ (List.mem_append_right _ h)) (by decide +kernel))
set_option maxRecDepth 20000 in
theorem gL_areLinks_X5_southQueue : GoodIn wsL_areLinks (wsV RL 72 RX5 yX5_southQueue wsX5_southQueue) := goodIn_app (goodIn_of _ (by decide +kernel)) ggL_areLinks_X5_southQueue
set_option maxRecDepth 20000 in
theorem ggL_areLinks_X5_open : GoodIn wsL_areLinks wsX5_open := goodIn_ca (goodIn_r _ [43, 6, 7, 8, 4, 9, 10, 11, 12, 13, 14, 80, 81, 82, 83, 84, 85, 86, 87, 88, 89, 90, 91, 92, 93, 94, 95, 96] (by decide +kernel) (by decide +kernel)) (goodIn_sub (fun _ h => List.mem_cons_of_mem _ (List.mem_append_right _ h)) (by decide +kernel))
set_option maxRecDepth 20000 in
theorem gL_areLinks_X5_open : GoodIn wsL_areLinks (wsV RL 66 RX5 yX5_open wsX5_open) := goodIn_app (goodIn_of _ (by decide +kernel)) ggL_areLinks_X5_open
set_option maxRecDepth 20000 in
theorem ggL_areLinks_X5_upCredits : GoodIn wsL_areLinks wsX5_upCredits := goodIn_ca (goodIn_r _ [47, 6, 7, 8, 4, 9, 10, 11, 12, 13, 14, 80, 81, 82, 83, 84, 85, 86, 87, 88, 89, 90, 91, 92, 93, 94, 95, 96, 97, 98, 99, 100, 101, 102, 103] (by decide +kernel) (by decide +kernel)) (goodIn_sub (fun _ h => List.mem_cons_of_mem _ (List.mem_append_right _ h)) (by decide +kernel))
set_option maxRecDepth 20000 in
theorem gL_areLinks_X5_upCredits : GoodIn wsL_areLinks (wsV RL 63 RX5 yX5_upCredits wsX5_upCredits) := goodIn_app (goodIn_of _ (by decide +kernel)) ggL_areLinks_X5_upCredits
set_option maxRecDepth 20000 in
theorem ggL_areLinks_X5_northCredits : GoodIn wsL_areLinks wsX5_northCredits := goodIn_ca (goodIn_r _ [51, 19, 20, 4, 21, 10, 11, 12, 13, 14, 22, 23, 24, 25, 26, 97, 98, 99, 100, 101, 102, 103, 80, 81, 82, 83, 84, 85, 86, 87, 88, 89, 90, 91, 92] (by decide +kernel) (by decide +kernel)) (goodIn_sub (fun _ h => List.mem_cons_of_mem _ (List.mem_append_right _ h)) (by decide +kernel))
set_option maxRecDepth 20000 in
theorem gL_areLinks_X5_northCredits : GoodIn wsL_areLinks (wsV RL 75 RX5 yX5_northCredits wsX5_northCredits) := goodIn_app (goodIn_of _ (by decide +kernel)) ggL_areLinks_X5_northCredits
set_option maxRecDepth 20000 in
theorem ggL_areLinks_X5_usable : GoodIn wsL_areLinks wsX5_usable := goodIn_ca (goodIn_r _ [55, 10, 11, 12, 13, 4, 14, 56, 57, 58, 59, 60, 80, 81, 82, 83, 84, 85, 86, 87, 88, 89, 90, 91, 92] (by decide +kernel) (by decide +kernel)) (goodIn_sub (fun _ h => List.mem_cons_of_mem _ (List.mem_append_right _ h)) (by decide +kernel))
set_option maxRecDepth 20000 in
theorem gL_areLinks_X5_usable : GoodIn wsL_areLinks (wsV RL 78 RX5 yX5_usable wsX5_usable) := goodIn_app (goodIn_of _ (by decide +kernel)) ggL_areLinks_X5_usable
set_option maxRecDepth 20000 in
theorem ggL_areLinks_L_ask : GoodIn wsL_areLinks wsL_ask := goodIn_ca (goodIn_r _ [64, 65, 1, 2, 3, 4, 5, 6, 7, 8, 9, 10, 11, 12, 13, 14, 27, 28, 29, 30, 44, 45, 46, 47, 40, 41, 42, 43, 15, 16, 17, 18, 19, 20, 21, 22, 23, 24, 25, 26, 31, 32, 33, 34, 35, 36, 37, 38, 39, 48, 49, 50, 51, 52, 53, 54, 55, 56, 57, 58, 59, 60, 80, 81, 82, 83, 84, 85, 86, 87, 88, 89, 90, 91, 92, 93, 94, 95, 96, 97, 98, 99, 100, 101, 102, 103] (by decide +kernel) (by decide +kernel)) (goodIn_sub (fun _ h => List.mem_cons_of_mem _ (List.mem_append_right _ h)) (by decide +kernel))
set_option maxRecDepth 20000 in
theorem gL_areLinks_L_ask : GoodIn wsL_areLinks (va_wsS RL 151 yL_ask wsL_ask) := goodIn_app (goodIn_of _ (by decide +kernel)) ggL_areLinks_L_ask
set_option maxRecDepth 20000 in
theorem ggL_areLinks_X5_queued : GoodIn wsL_areLinks wsX5_queued := goodIn_r _ [69, 70, 80, 81, 82, 83, 84, 85, 86, 87, 88, 89, 90, 91, 92, 97, 98, 99, 100, 101, 102, 103] (by decide +kernel) (by decide +kernel)
set_option maxRecDepth 20000 in
theorem gL_areLinks_X5_queued : GoodIn wsL_areLinks (wsV RL 120 RX5 yX5_queued wsX5_queued) := goodIn_app (goodIn_of _ (by decide +kernel)) ggL_areLinks_X5_queued
set_option maxRecDepth 20000 in
theorem ggL_areLinks_X5_returning : GoodIn wsL_areLinks wsX5_returning := goodIn_r _ [74, 70, 75, 76, 77, 78, 79, 80, 81, 82, 83, 84, 85, 86, 87, 88, 89, 90, 91, 92, 97, 98, 99, 100, 101, 102, 103] (by decide +kernel) (by decide +kernel)
set_option maxRecDepth 20000 in
theorem gL_areLinks_X5_returning : GoodIn wsL_areLinks (wsV RL 117 RX5 yX5_returning wsX5_returning) := goodIn_app (goodIn_of _ (by decide +kernel)) ggL_areLinks_X5_returning
theorem dL_areLinks_0 : decode cL_areLinks 0 = .ok (.iconst 0, 1) := by decide +kernel
theorem dL_areLinks_1 : decode cL_areLinks 1 = .ok (.istore_n 2, 1) := by decide +kernel
theorem dL_areLinks_2 : decode cL_areLinks 2 = .ok (.iconst 0, 1) := by decide +kernel
theorem dL_areLinks_3 : decode cL_areLinks 3 = .ok (.istore_n 3, 1) := by decide +kernel
theorem dL_areLinks_4 : decode cL_areLinks 4 = .ok (.iconst 0, 1) := by decide +kernel
theorem dL_areLinks_5 : decode cL_areLinks 5 = .ok (.istore 4, 2) := by decide +kernel
theorem dL_areLinks_7 : decode cL_areLinks 7 = .ok (.iconst 1, 1) := by decide +kernel
theorem dL_areLinks_8 : decode cL_areLinks 8 = .ok (.istore 5, 2) := by decide +kernel
theorem dL_areLinks_10 : decode cL_areLinks 10 = .ok (.iconst 0, 1) := by decide +kernel
theorem dL_areLinks_11 : decode cL_areLinks 11 = .ok (.istore 6, 2) := by decide +kernel
theorem dL_areLinks_13 : decode cL_areLinks 13 = .ok (.iload 6, 2) := by decide +kernel
theorem dL_areLinks_15 : decode cL_areLinks 15 = .ok (.bipush 16, 2) := by decide +kernel
theorem dL_areLinks_17 : decode cL_areLinks 17 = .ok (.if_icmp .ge 366, 3) := by decide +kernel
theorem dL_areLinks_20 : decode cL_areLinks 20 = .ok (.iload 5, 2) := by decide +kernel
theorem dL_areLinks_22 : decode cL_areLinks 22 = .ok (.ifCond .eq 361, 3) := by decide +kernel
theorem dL_areLinks_25 : decode cL_areLinks 25 = .ok (.aload_n 0, 1) := by decide +kernel
theorem dL_areLinks_26 : decode cL_areLinks 26 = .ok (.iload 6, 2) := by decide +kernel
theorem dL_areLinks_28 : decode cL_areLinks 28 = .ok (.invokevirtual 57, 3) := by decide +kernel
theorem dL_areLinks_31 : decode cL_areLinks 31 = .ok (.istore 7, 2) := by decide +kernel
theorem dL_areLinks_33 : decode cL_areLinks 33 = .ok (.aload_n 0, 1) := by decide +kernel
theorem dL_areLinks_34 : decode cL_areLinks 34 = .ok (.iload 6, 2) := by decide +kernel
theorem dL_areLinks_36 : decode cL_areLinks 36 = .ok (.iconst 4, 1) := by decide +kernel
theorem dL_areLinks_37 : decode cL_areLinks 37 = .ok (.idiv, 1) := by decide +kernel
theorem dL_areLinks_38 : decode cL_areLinks 38 = .ok (.iload 6, 2) := by decide +kernel
theorem dL_areLinks_40 : decode cL_areLinks 40 = .ok (.iconst 4, 1) := by decide +kernel
theorem dL_areLinks_41 : decode cL_areLinks 41 = .ok (.irem, 1) := by decide +kernel
theorem dL_areLinks_42 : decode cL_areLinks 42 = .ok (.invokevirtual 69, 3) := by decide +kernel
theorem dL_areLinks_45 : decode cL_areLinks 45 = .ok (.istore 8, 2) := by decide +kernel
theorem dL_areLinks_47 : decode cL_areLinks 47 = .ok (.aload_n 0, 1) := by decide +kernel
theorem dL_areLinks_48 : decode cL_areLinks 48 = .ok (.iload 6, 2) := by decide +kernel
theorem dL_areLinks_50 : decode cL_areLinks 50 = .ok (.invokevirtual 60, 3) := by decide +kernel
theorem dL_areLinks_53 : decode cL_areLinks 53 = .ok (.istore 9, 2) := by decide +kernel
theorem dL_areLinks_55 : decode cL_areLinks 55 = .ok (.aload_n 0, 1) := by decide +kernel
theorem dL_areLinks_56 : decode cL_areLinks 56 = .ok (.iload 6, 2) := by decide +kernel
theorem dL_areLinks_58 : decode cL_areLinks 58 = .ok (.iconst 4, 1) := by decide +kernel
theorem dL_areLinks_59 : decode cL_areLinks 59 = .ok (.idiv, 1) := by decide +kernel
theorem dL_areLinks_60 : decode cL_areLinks 60 = .ok (.iload 6, 2) := by decide +kernel
theorem dL_areLinks_62 : decode cL_areLinks 62 = .ok (.iconst 4, 1) := by decide +kernel
theorem dL_areLinks_63 : decode cL_areLinks 63 = .ok (.irem, 1) := by decide +kernel
theorem dL_areLinks_64 : decode cL_areLinks 64 = .ok (.invokevirtual 72, 3) := by decide +kernel
theorem dL_areLinks_67 : decode cL_areLinks 67 = .ok (.istore 10, 2) := by decide +kernel
theorem dL_areLinks_69 : decode cL_areLinks 69 = .ok (.iload_n 2, 1) := by decide +kernel
theorem dL_areLinks_70 : decode cL_areLinks 70 = .ok (.iload 7, 2) := by decide +kernel
theorem dL_areLinks_72 : decode cL_areLinks 72 = .ok (.iload 8, 2) := by decide +kernel
theorem dL_areLinks_74 : decode cL_areLinks 74 = .ok (.iadd, 1) := by decide +kernel
theorem dL_areLinks_75 : decode cL_areLinks 75 = .ok (.iload 9, 2) := by decide +kernel
theorem dL_areLinks_77 : decode cL_areLinks 77 = .ok (.iadd, 1) := by decide +kernel
theorem dL_areLinks_78 : decode cL_areLinks 78 = .ok (.iload 10, 2) := by decide +kernel
theorem dL_areLinks_80 : decode cL_areLinks 80 = .ok (.iadd, 1) := by decide +kernel
theorem dL_areLinks_81 : decode cL_areLinks 81 = .ok (.iadd, 1) := by decide +kernel
theorem dL_areLinks_82 : decode cL_areLinks 82 = .ok (.istore_n 2, 1) := by decide +kernel
theorem dL_areLinks_83 : decode cL_areLinks 83 = .ok (.iload_n 3, 1) := by decide +kernel
theorem dL_areLinks_84 : decode cL_areLinks 84 = .ok (.aload_n 0, 1) := by decide +kernel
theorem dL_areLinks_85 : decode cL_areLinks 85 = .ok (.iload 6, 2) := by decide +kernel
theorem dL_areLinks_87 : decode cL_areLinks 87 = .ok (.invokevirtual 66, 3) := by decide +kernel
theorem dL_areLinks_90 : decode cL_areLinks 90 = .ok (.iadd, 1) := by decide +kernel
theorem dL_areLinks_91 : decode cL_areLinks 91 = .ok (.istore_n 3, 1) := by decide +kernel
theorem dL_areLinks_92 : decode cL_areLinks 92 = .ok (.iload 4, 2) := by decide +kernel
theorem dL_areLinks_94 : decode cL_areLinks 94 = .ok (.iconst 4, 1) := by decide +kernel
theorem dL_areLinks_95 : decode cL_areLinks 95 = .ok (.iload 7, 2) := by decide +kernel
theorem dL_areLinks_97 : decode cL_areLinks 97 = .ok (.isub, 1) := by decide +kernel
theorem dL_areLinks_98 : decode cL_areLinks 98 = .ok (.aload_n 0, 1) := by decide +kernel
theorem dL_areLinks_99 : decode cL_areLinks 99 = .ok (.iload 6, 2) := by decide +kernel
theorem dL_areLinks_101 : decode cL_areLinks 101 = .ok (.invokevirtual 63, 3) := by decide +kernel
theorem dL_areLinks_104 : decode cL_areLinks 104 = .ok (.isub, 1) := by decide +kernel
theorem dL_areLinks_105 : decode cL_areLinks 105 = .ok (.iconst 4, 1) := by decide +kernel
theorem dL_areLinks_106 : decode cL_areLinks 106 = .ok (.iadd, 1) := by decide +kernel
theorem dL_areLinks_107 : decode cL_areLinks 107 = .ok (.iload 8, 2) := by decide +kernel
theorem dL_areLinks_109 : decode cL_areLinks 109 = .ok (.isub, 1) := by decide +kernel
theorem dL_areLinks_110 : decode cL_areLinks 110 = .ok (.aload_n 0, 1) := by decide +kernel
theorem dL_areLinks_111 : decode cL_areLinks 111 = .ok (.iload 6, 2) := by decide +kernel
theorem dL_areLinks_113 : decode cL_areLinks 113 = .ok (.iconst 4, 1) := by decide +kernel
theorem dL_areLinks_114 : decode cL_areLinks 114 = .ok (.idiv, 1) := by decide +kernel
theorem dL_areLinks_115 : decode cL_areLinks 115 = .ok (.iload 6, 2) := by decide +kernel
theorem dL_areLinks_117 : decode cL_areLinks 117 = .ok (.iconst 4, 1) := by decide +kernel
theorem dL_areLinks_118 : decode cL_areLinks 118 = .ok (.irem, 1) := by decide +kernel
theorem dL_areLinks_119 : decode cL_areLinks 119 = .ok (.invokevirtual 75, 3) := by decide +kernel
theorem dL_areLinks_122 : decode cL_areLinks 122 = .ok (.isub, 1) := by decide +kernel
theorem dL_areLinks_123 : decode cL_areLinks 123 = .ok (.iadd, 1) := by decide +kernel
theorem dL_areLinks_124 : decode cL_areLinks 124 = .ok (.istore 4, 2) := by decide +kernel
theorem dL_areLinks_126 : decode cL_areLinks 126 = .ok (.iload 7, 2) := by decide +kernel
theorem dL_areLinks_128 : decode cL_areLinks 128 = .ok (.ifCond .lt 90, 3) := by decide +kernel
theorem dL_areLinks_131 : decode cL_areLinks 131 = .ok (.iload 8, 2) := by decide +kernel
theorem dL_areLinks_133 : decode cL_areLinks 133 = .ok (.ifCond .lt 85, 3) := by decide +kernel
theorem dL_areLinks_136 : decode cL_areLinks 136 = .ok (.iload 9, 2) := by decide +kernel
theorem dL_areLinks_138 : decode cL_areLinks 138 = .ok (.ifCond .lt 80, 3) := by decide +kernel
theorem dL_areLinks_141 : decode cL_areLinks 141 = .ok (.iload 9, 2) := by decide +kernel
theorem dL_areLinks_143 : decode cL_areLinks 143 = .ok (.iconst 4, 1) := by decide +kernel
theorem dL_areLinks_144 : decode cL_areLinks 144 = .ok (.if_icmp .gt 74, 3) := by decide +kernel
theorem dL_areLinks_147 : decode cL_areLinks 147 = .ok (.iload 10, 2) := by decide +kernel
theorem dL_areLinks_149 : decode cL_areLinks 149 = .ok (.ifCond .lt 69, 3) := by decide +kernel
theorem dL_areLinks_152 : decode cL_areLinks 152 = .ok (.iload 10, 2) := by decide +kernel
theorem dL_areLinks_154 : decode cL_areLinks 154 = .ok (.iconst 4, 1) := by decide +kernel
theorem dL_areLinks_155 : decode cL_areLinks 155 = .ok (.if_icmp .gt 63, 3) := by decide +kernel
theorem dL_areLinks_158 : decode cL_areLinks 158 = .ok (.aload_n 0, 1) := by decide +kernel
theorem dL_areLinks_159 : decode cL_areLinks 159 = .ok (.iload 6, 2) := by decide +kernel
theorem dL_areLinks_161 : decode cL_areLinks 161 = .ok (.invokevirtual 63, 3) := by decide +kernel
theorem dL_areLinks_164 : decode cL_areLinks 164 = .ok (.ifCond .lt 54, 3) := by decide +kernel
theorem dL_areLinks_167 : decode cL_areLinks 167 = .ok (.aload_n 0, 1) := by decide +kernel
theorem dL_areLinks_168 : decode cL_areLinks 168 = .ok (.iload 6, 2) := by decide +kernel
theorem dL_areLinks_170 : decode cL_areLinks 170 = .ok (.iconst 4, 1) := by decide +kernel
theorem dL_areLinks_171 : decode cL_areLinks 171 = .ok (.idiv, 1) := by decide +kernel
theorem dL_areLinks_172 : decode cL_areLinks 172 = .ok (.iload 6, 2) := by decide +kernel
theorem dL_areLinks_174 : decode cL_areLinks 174 = .ok (.iconst 4, 1) := by decide +kernel
theorem dL_areLinks_175 : decode cL_areLinks 175 = .ok (.irem, 1) := by decide +kernel
theorem dL_areLinks_176 : decode cL_areLinks 176 = .ok (.invokevirtual 75, 3) := by decide +kernel
theorem dL_areLinks_179 : decode cL_areLinks 179 = .ok (.ifCond .lt 39, 3) := by decide +kernel
theorem dL_areLinks_182 : decode cL_areLinks 182 = .ok (.iload 7, 2) := by decide +kernel
theorem dL_areLinks_184 : decode cL_areLinks 184 = .ok (.aload_n 0, 1) := by decide +kernel
theorem dL_areLinks_185 : decode cL_areLinks 185 = .ok (.iload 6, 2) := by decide +kernel
theorem dL_areLinks_187 : decode cL_areLinks 187 = .ok (.invokevirtual 63, 3) := by decide +kernel
theorem dL_areLinks_190 : decode cL_areLinks 190 = .ok (.iadd, 1) := by decide +kernel
theorem dL_areLinks_191 : decode cL_areLinks 191 = .ok (.iconst 4, 1) := by decide +kernel
theorem dL_areLinks_192 : decode cL_areLinks 192 = .ok (.if_icmp .gt 26, 3) := by decide +kernel
theorem dL_areLinks_195 : decode cL_areLinks 195 = .ok (.iload 8, 2) := by decide +kernel
theorem dL_areLinks_197 : decode cL_areLinks 197 = .ok (.aload_n 0, 1) := by decide +kernel
theorem dL_areLinks_198 : decode cL_areLinks 198 = .ok (.iload 6, 2) := by decide +kernel
theorem dL_areLinks_200 : decode cL_areLinks 200 = .ok (.iconst 4, 1) := by decide +kernel
theorem dL_areLinks_201 : decode cL_areLinks 201 = .ok (.idiv, 1) := by decide +kernel
theorem dL_areLinks_202 : decode cL_areLinks 202 = .ok (.iload 6, 2) := by decide +kernel
theorem dL_areLinks_204 : decode cL_areLinks 204 = .ok (.iconst 4, 1) := by decide +kernel
theorem dL_areLinks_205 : decode cL_areLinks 205 = .ok (.irem, 1) := by decide +kernel
theorem dL_areLinks_206 : decode cL_areLinks 206 = .ok (.invokevirtual 75, 3) := by decide +kernel
theorem dL_areLinks_209 : decode cL_areLinks 209 = .ok (.iadd, 1) := by decide +kernel
theorem dL_areLinks_210 : decode cL_areLinks 210 = .ok (.iconst 4, 1) := by decide +kernel
theorem dL_areLinks_211 : decode cL_areLinks 211 = .ok (.if_icmp .gt 7, 3) := by decide +kernel
theorem dL_areLinks_214 : decode cL_areLinks 214 = .ok (.iconst 1, 1) := by decide +kernel
theorem dL_areLinks_215 : decode cL_areLinks 215 = .ok (.goto 4, 3) := by decide +kernel
theorem dL_areLinks_218 : decode cL_areLinks 218 = .ok (.iconst 0, 1) := by decide +kernel
theorem dL_areLinks_219 : decode cL_areLinks 219 = .ok (.istore 5, 2) := by decide +kernel
theorem dL_areLinks_221 : decode cL_areLinks 221 = .ok (.iload 5, 2) := by decide +kernel
theorem dL_areLinks_223 : decode cL_areLinks 223 = .ok (.ifCond .eq 123, 3) := by decide +kernel
theorem dL_areLinks_226 : decode cL_areLinks 226 = .ok (.iload 6, 2) := by decide +kernel
theorem dL_areLinks_228 : decode cL_areLinks 228 = .ok (.iconst 4, 1) := by decide +kernel
theorem dL_areLinks_229 : decode cL_areLinks 229 = .ok (.idiv, 1) := by decide +kernel
theorem dL_areLinks_230 : decode cL_areLinks 230 = .ok (.iload 6, 2) := by decide +kernel
theorem dL_areLinks_232 : decode cL_areLinks 232 = .ok (.iconst 4, 1) := by decide +kernel
theorem dL_areLinks_233 : decode cL_areLinks 233 = .ok (.irem, 1) := by decide +kernel
theorem dL_areLinks_234 : decode cL_areLinks 234 = .ok (.if_icmp .eq 112, 3) := by decide +kernel
theorem dL_areLinks_237 : decode cL_areLinks 237 = .ok (.iconst 0, 1) := by decide +kernel
theorem dL_areLinks_238 : decode cL_areLinks 238 = .ok (.istore 11, 2) := by decide +kernel
theorem dL_areLinks_240 : decode cL_areLinks 240 = .ok (.iconst 0, 1) := by decide +kernel
theorem dL_areLinks_241 : decode cL_areLinks 241 = .ok (.istore 12, 2) := by decide +kernel
theorem dL_areLinks_243 : decode cL_areLinks 243 = .ok (.iload 12, 2) := by decide +kernel
theorem dL_areLinks_245 : decode cL_areLinks 245 = .ok (.iconst 4, 1) := by decide +kernel
theorem dL_areLinks_246 : decode cL_areLinks 246 = .ok (.if_icmp .ge 56, 3) := by decide +kernel
theorem dL_areLinks_249 : decode cL_areLinks 249 = .ok (.iload 11, 2) := by decide +kernel
theorem dL_areLinks_251 : decode cL_areLinks 251 = .ok (.aload_n 1, 1) := by decide +kernel
theorem dL_areLinks_252 : decode cL_areLinks 252 = .ok (.iconst 3, 1) := by decide +kernel
theorem dL_areLinks_253 : decode cL_areLinks 253 = .ok (.iaload, 1) := by decide +kernel
theorem dL_areLinks_254 : decode cL_areLinks 254 = .ok (.iload 6, 2) := by decide +kernel
theorem dL_areLinks_256 : decode cL_areLinks 256 = .ok (.iconst 4, 1) := by decide +kernel
theorem dL_areLinks_257 : decode cL_areLinks 257 = .ok (.idiv, 1) := by decide +kernel
theorem dL_areLinks_258 : decode cL_areLinks 258 = .ok (.iconst 4, 1) := by decide +kernel
theorem dL_areLinks_259 : decode cL_areLinks 259 = .ok (.imul, 1) := by decide +kernel
theorem dL_areLinks_260 : decode cL_areLinks 260 = .ok (.iload 12, 2) := by decide +kernel
theorem dL_areLinks_262 : decode cL_areLinks 262 = .ok (.iadd, 1) := by decide +kernel
theorem dL_areLinks_263 : decode cL_areLinks 263 = .ok (.ishr, 1) := by decide +kernel
theorem dL_areLinks_264 : decode cL_areLinks 264 = .ok (.iconst 1, 1) := by decide +kernel
theorem dL_areLinks_265 : decode cL_areLinks 265 = .ok (.iand, 1) := by decide +kernel
theorem dL_areLinks_266 : decode cL_areLinks 266 = .ok (.aload_n 1, 1) := by decide +kernel
theorem dL_areLinks_267 : decode cL_areLinks 267 = .ok (.iconst 3, 1) := by decide +kernel
theorem dL_areLinks_268 : decode cL_areLinks 268 = .ok (.iaload, 1) := by decide +kernel
theorem dL_areLinks_269 : decode cL_areLinks 269 = .ok (.iload 6, 2) := by decide +kernel
theorem dL_areLinks_271 : decode cL_areLinks 271 = .ok (.iconst 4, 1) := by decide +kernel
theorem dL_areLinks_272 : decode cL_areLinks 272 = .ok (.irem, 1) := by decide +kernel
theorem dL_areLinks_273 : decode cL_areLinks 273 = .ok (.iconst 4, 1) := by decide +kernel
theorem dL_areLinks_274 : decode cL_areLinks 274 = .ok (.imul, 1) := by decide +kernel
theorem dL_areLinks_275 : decode cL_areLinks 275 = .ok (.iload 12, 2) := by decide +kernel
theorem dL_areLinks_277 : decode cL_areLinks 277 = .ok (.iadd, 1) := by decide +kernel
theorem dL_areLinks_278 : decode cL_areLinks 278 = .ok (.ishr, 1) := by decide +kernel
theorem dL_areLinks_279 : decode cL_areLinks 279 = .ok (.iconst 1, 1) := by decide +kernel
theorem dL_areLinks_280 : decode cL_areLinks 280 = .ok (.iand, 1) := by decide +kernel
theorem dL_areLinks_281 : decode cL_areLinks 281 = .ok (.iadd, 1) := by decide +kernel
theorem dL_areLinks_282 : decode cL_areLinks 282 = .ok (.ifCond .ne 10, 3) := by decide +kernel
theorem dL_areLinks_285 : decode cL_areLinks 285 = .ok (.iconst 1, 1) := by decide +kernel
theorem dL_areLinks_286 : decode cL_areLinks 286 = .ok (.iload 12, 2) := by decide +kernel
theorem dL_areLinks_288 : decode cL_areLinks 288 = .ok (.ishl, 1) := by decide +kernel
theorem dL_areLinks_289 : decode cL_areLinks 289 = .ok (.goto 4, 3) := by decide +kernel
theorem dL_areLinks_292 : decode cL_areLinks 292 = .ok (.iconst 0, 1) := by decide +kernel
theorem dL_areLinks_293 : decode cL_areLinks 293 = .ok (.iadd, 1) := by decide +kernel
theorem dL_areLinks_294 : decode cL_areLinks 294 = .ok (.istore 11, 2) := by decide +kernel
theorem dL_areLinks_296 : decode cL_areLinks 296 = .ok (.iinc 12 1, 3) := by decide +kernel
theorem dL_areLinks_299 : decode cL_areLinks 299 = .ok (.goto (-56), 3) := by decide +kernel
theorem dL_areLinks_302 : decode cL_areLinks 302 = .ok (.aload_n 0, 1) := by decide +kernel
theorem dL_areLinks_303 : decode cL_areLinks 303 = .ok (.iload 6, 2) := by decide +kernel
theorem dL_areLinks_305 : decode cL_areLinks 305 = .ok (.iconst 4, 1) := by decide +kernel
theorem dL_areLinks_306 : decode cL_areLinks 306 = .ok (.idiv, 1) := by decide +kernel
theorem dL_areLinks_307 : decode cL_areLinks 307 = .ok (.iload 6, 2) := by decide +kernel
theorem dL_areLinks_309 : decode cL_areLinks 309 = .ok (.iconst 4, 1) := by decide +kernel
theorem dL_areLinks_310 : decode cL_areLinks 310 = .ok (.irem, 1) := by decide +kernel
theorem dL_areLinks_311 : decode cL_areLinks 311 = .ok (.invokevirtual 78, 3) := by decide +kernel
theorem dL_areLinks_314 : decode cL_areLinks 314 = .ok (.iload 11, 2) := by decide +kernel
theorem dL_areLinks_316 : decode cL_areLinks 316 = .ok (.if_icmp .ne 24, 3) := by decide +kernel
theorem dL_areLinks_319 : decode cL_areLinks 319 = .ok (.aload_n 0, 1) := by decide +kernel
theorem dL_areLinks_320 : decode cL_areLinks 320 = .ok (.iload 6, 2) := by decide +kernel
theorem dL_areLinks_322 : decode cL_areLinks 322 = .ok (.iconst 4, 1) := by decide +kernel
theorem dL_areLinks_323 : decode cL_areLinks 323 = .ok (.irem, 1) := by decide +kernel
theorem dL_areLinks_324 : decode cL_areLinks 324 = .ok (.iload 6, 2) := by decide +kernel
theorem dL_areLinks_326 : decode cL_areLinks 326 = .ok (.iconst 4, 1) := by decide +kernel
theorem dL_areLinks_327 : decode cL_areLinks 327 = .ok (.idiv, 1) := by decide +kernel
theorem dL_areLinks_328 : decode cL_areLinks 328 = .ok (.invokevirtual 78, 3) := by decide +kernel
theorem dL_areLinks_331 : decode cL_areLinks 331 = .ok (.iload 11, 2) := by decide +kernel
theorem dL_areLinks_333 : decode cL_areLinks 333 = .ok (.if_icmp .ne 7, 3) := by decide +kernel
theorem dL_areLinks_336 : decode cL_areLinks 336 = .ok (.iconst 1, 1) := by decide +kernel
theorem dL_areLinks_337 : decode cL_areLinks 337 = .ok (.goto 4, 3) := by decide +kernel
theorem dL_areLinks_340 : decode cL_areLinks 340 = .ok (.iconst 0, 1) := by decide +kernel
theorem dL_areLinks_341 : decode cL_areLinks 341 = .ok (.istore 5, 2) := by decide +kernel
theorem dL_areLinks_343 : decode cL_areLinks 343 = .ok (.goto 34, 3) := by decide +kernel
theorem dL_areLinks_346 : decode cL_areLinks 346 = .ok (.iload 5, 2) := by decide +kernel
theorem dL_areLinks_348 : decode cL_areLinks 348 = .ok (.ifCond .eq 26, 3) := by decide +kernel
theorem dL_areLinks_351 : decode cL_areLinks 351 = .ok (.aload_n 0, 1) := by decide +kernel
theorem dL_areLinks_352 : decode cL_areLinks 352 = .ok (.bipush 7, 2) := by decide +kernel
theorem dL_areLinks_354 : decode cL_areLinks 354 = .ok (.iload 6, 2) := by decide +kernel
theorem dL_areLinks_356 : decode cL_areLinks 356 = .ok (.iconst 4, 1) := by decide +kernel
theorem dL_areLinks_357 : decode cL_areLinks 357 = .ok (.idiv, 1) := by decide +kernel
theorem dL_areLinks_358 : decode cL_areLinks 358 = .ok (.iload 6, 2) := by decide +kernel
theorem dL_areLinks_360 : decode cL_areLinks 360 = .ok (.iconst 4, 1) := by decide +kernel
theorem dL_areLinks_361 : decode cL_areLinks 361 = .ok (.idiv, 1) := by decide +kernel
theorem dL_areLinks_362 : decode cL_areLinks 362 = .ok (.invokestatic 151, 3) := by decide +kernel
theorem dL_areLinks_365 : decode cL_areLinks 365 = .ok (.bipush (-62), 2) := by decide +kernel
theorem dL_areLinks_367 : decode cL_areLinks 367 = .ok (.if_icmp .ne 7, 3) := by decide +kernel
theorem dL_areLinks_370 : decode cL_areLinks 370 = .ok (.iconst 1, 1) := by decide +kernel
theorem dL_areLinks_371 : decode cL_areLinks 371 = .ok (.goto 4, 3) := by decide +kernel
theorem dL_areLinks_374 : decode cL_areLinks 374 = .ok (.iconst 0, 1) := by decide +kernel
theorem dL_areLinks_375 : decode cL_areLinks 375 = .ok (.istore 5, 2) := by decide +kernel
theorem dL_areLinks_377 : decode cL_areLinks 377 = .ok (.iinc 6 1, 3) := by decide +kernel
theorem dL_areLinks_380 : decode cL_areLinks 380 = .ok (.goto (-367), 3) := by decide +kernel
theorem dL_areLinks_383 : decode cL_areLinks 383 = .ok (.iload 5, 2) := by decide +kernel
theorem dL_areLinks_385 : decode cL_areLinks 385 = .ok (.ifCond .eq 39, 3) := by decide +kernel
theorem dL_areLinks_388 : decode cL_areLinks 388 = .ok (.aload_n 0, 1) := by decide +kernel
theorem dL_areLinks_389 : decode cL_areLinks 389 = .ok (.invokevirtual 120, 3) := by decide +kernel
theorem dL_areLinks_392 : decode cL_areLinks 392 = .ok (.iload_n 2, 1) := by decide +kernel
theorem dL_areLinks_393 : decode cL_areLinks 393 = .ok (.if_icmp .ne 31, 3) := by decide +kernel
theorem dL_areLinks_396 : decode cL_areLinks 396 = .ok (.iload_n 2, 1) := by decide +kernel
theorem dL_areLinks_397 : decode cL_areLinks 397 = .ok (.iload_n 3, 1) := by decide +kernel
theorem dL_areLinks_398 : decode cL_areLinks 398 = .ok (.if_icmp .ne 26, 3) := by decide +kernel
theorem dL_areLinks_401 : decode cL_areLinks 401 = .ok (.aload_n 0, 1) := by decide +kernel
theorem dL_areLinks_402 : decode cL_areLinks 402 = .ok (.invokevirtual 117, 3) := by decide +kernel
theorem dL_areLinks_405 : decode cL_areLinks 405 = .ok (.iload 4, 2) := by decide +kernel
theorem dL_areLinks_407 : decode cL_areLinks 407 = .ok (.if_icmp .lt 17, 3) := by decide +kernel
theorem dL_areLinks_410 : decode cL_areLinks 410 = .ok (.aload_n 0, 1) := by decide +kernel
theorem dL_areLinks_411 : decode cL_areLinks 411 = .ok (.invokevirtual 117, 3) := by decide +kernel
theorem dL_areLinks_414 : decode cL_areLinks 414 = .ok (.sipush 256, 3) := by decide +kernel
theorem dL_areLinks_417 : decode cL_areLinks 417 = .ok (.if_icmp .gt 7, 3) := by decide +kernel
theorem dL_areLinks_420 : decode cL_areLinks 420 = .ok (.iconst 1, 1) := by decide +kernel
theorem dL_areLinks_421 : decode cL_areLinks 421 = .ok (.goto 4, 3) := by decide +kernel
theorem dL_areLinks_424 : decode cL_areLinks 424 = .ok (.iconst 0, 1) := by decide +kernel
theorem dL_areLinks_425 : decode cL_areLinks 425 = .ok (.ireturn, 1) := by decide +kernel
set_option maxRecDepth 20000 in
theorem ggL_isLeast_X5_leastTicks : GoodIn wsL_isLeast wsX5_leastTicks := goodIn_r _ [5, 6, 7, 8, 9, 10, 11, 12, 13, 4, 14, 15, 16, 17, 18, 19, 20, 21, 22, 23, 24, 25, 26, 27, 28, 29, 30, 31, 32, 33, 34, 35, 36, 37, 38, 39, 40, 41, 42, 43, 44, 45, 46, 47, 48, 49, 50, 51, 52, 53, 54, 55, 90, 91, 92, 93, 94, 95, 96, 97, 98, 99, 100, 101, 102, 103, 104, 105, 106, 107, 108, 109, 110, 111, 112, 113, 114, 115] (by decide +kernel) (by decide +kernel)
set_option maxRecDepth 20000 in
theorem gL_isLeast_X5_leastTicks : GoodIn wsL_isLeast (wsV RL 155 RX5 yX5_leastTicks wsX5_leastTicks) := goodIn_app (goodIn_of _ (by decide +kernel)) ggL_isLeast_X5_leastTicks
set_option maxRecDepth 20000 in
theorem ggL_isLeast_X5_flows : GoodIn wsL_isLeast wsX5_flows := goodIn_r _ [59, 15, 90, 91, 92, 93, 94, 95, 96, 97, 98, 99, 100, 101, 102] (by decide +kernel) (by decide +kernel)
set_option maxRecDepth 20000 in
theorem gL_isLeast_X5_flows : GoodIn wsL_isLeast (wsV RL 92 RX5 yX5_flows wsX5_flows) := goodIn_app (goodIn_of _ (by decide +kernel)) ggL_isLeast_X5_flows
set_option maxRecDepth 20000 in
theorem ggL_isLeast_L_packets : GoodIn wsL_isLeast wsL_packets := goodIn_r _ [63] (by decide +kernel) (by decide +kernel)
set_option maxRecDepth 20000 in
theorem gL_isLeast_L_packets : GoodIn wsL_isLeast (va_wsS RL 141 yL_packets wsL_packets) := goodIn_app (goodIn_of _ (by decide +kernel)) ggL_isLeast_L_packets
set_option maxRecDepth 20000 in
theorem ggL_isLeast_X5_sent : GoodIn wsL_isLeast wsX5_sent := goodIn_ca (goodIn_r _ [67, 16, 68, 69, 70, 4, 71, 72, 73, 15, 74, 75, 76, 90, 91, 92, 93, 94, 95, 96, 97, 98, 99, 100, 101, 102, 103, 104, 105, 106, 107, 108, 109, 110, 111, 112, 113, 114, 115] (by decide +kernel) (by decide +kernel)) (goodIn_sub (fun _ h => List.mem_cons_of_mem _ (List.mem_append_right _ h)) (by decide +kernel))
set_option maxRecDepth 20000 in
theorem gL_isLeast_X5_sent : GoodIn wsL_isLeast (wsV RL 34 RX5 yX5_sent wsX5_sent) := goodIn_app (goodIn_of _ (by decide +kernel)) ggL_isLeast_X5_sent
set_option maxRecDepth 20000 in
theorem ggL_isLeast_X5_lost : GoodIn wsL_isLeast wsX5_lost := goodIn_ca (goodIn_r _ [80, 16, 68, 69, 70, 4, 71, 72, 73, 15, 74, 75, 76, 90, 91, 92, 93, 94, 95, 96, 97, 98, 99, 100, 101, 102, 103, 104, 105, 106, 107, 108, 109, 110, 111, 112, 113, 114, 115] (by decide +kernel) (by decide +kernel)) (goodIn_sub (fun _ h => List.mem_cons_of_mem _ (List.mem_append_right _ h)) (by decide +kernel))
set_option maxRecDepth 20000 in
theorem gL_isLeast_X5_lost : GoodIn wsL_isLeast (wsV RL 40 RX5 yX5_lost wsX5_lost) := goodIn_app (goodIn_of _ (by decide +kernel)) ggL_isLeast_X5_lost
set_option maxRecDepth 20000 in
theorem ggL_isLeast_L_source : GoodIn wsL_isLeast wsL_source := goodIn_r _ [83] (by decide +kernel) (by decide +kernel)
set_option maxRecDepth 20000 in
theorem gL_isLeast_L_source : GoodIn wsL_isLeast (va_wsS RL 81 yL_source wsL_source) := goodIn_app (goodIn_of _ (by decide +kernel)) ggL_isLeast_L_source
set_option maxRecDepth 20000 in
theorem ggL_isLeast_L_target : GoodIn wsL_isLeast wsL_target := goodIn_r _ [86] (by decide +kernel) (by decide +kernel)
set_option maxRecDepth 20000 in
theorem gL_isLeast_L_target : GoodIn wsL_isLeast (va_wsS RL 87 yL_target wsL_target) := goodIn_app (goodIn_of _ (by decide +kernel)) ggL_isLeast_L_target
set_option maxRecDepth 20000 in
theorem ggL_isLeast_L_isFar : GoodIn wsL_isLeast wsL_isFar := goodIn_r _ [89, 81, 82, 62, 83, 84, 85, 86] (by decide +kernel) (by decide +kernel)
set_option maxRecDepth 20000 in
theorem gL_isLeast_L_isFar : GoodIn wsL_isLeast (va_wsS RL 147 yL_isFar wsL_isFar) := goodIn_app (goodIn_of _ (by decide +kernel)) ggL_isLeast_L_isFar
theorem dL_isLeast_0 : decode cL_isLeast 0 = .ok (.aload_n 0, 1) := by decide +kernel
theorem dL_isLeast_1 : decode cL_isLeast 1 = .ok (.invokevirtual 155, 3) := by decide +kernel
theorem dL_isLeast_4 : decode cL_isLeast 4 = .ok (.istore_n 3, 1) := by decide +kernel
theorem dL_isLeast_5 : decode cL_isLeast 5 = .ok (.iconst 0, 1) := by decide +kernel
theorem dL_isLeast_6 : decode cL_isLeast 6 = .ok (.istore 4, 2) := by decide +kernel
theorem dL_isLeast_8 : decode cL_isLeast 8 = .ok (.iconst 0, 1) := by decide +kernel
theorem dL_isLeast_9 : decode cL_isLeast 9 = .ok (.istore 5, 2) := by decide +kernel
theorem dL_isLeast_11 : decode cL_isLeast 11 = .ok (.iconst 0, 1) := by decide +kernel
theorem dL_isLeast_12 : decode cL_isLeast 12 = .ok (.istore 6, 2) := by decide +kernel
theorem dL_isLeast_14 : decode cL_isLeast 14 = .ok (.iconst 0, 1) := by decide +kernel
theorem dL_isLeast_15 : decode cL_isLeast 15 = .ok (.istore 7, 2) := by decide +kernel
theorem dL_isLeast_17 : decode cL_isLeast 17 = .ok (.iload 7, 2) := by decide +kernel
theorem dL_isLeast_19 : decode cL_isLeast 19 = .ok (.aload_n 0, 1) := by decide +kernel
theorem dL_isLeast_20 : decode cL_isLeast 20 = .ok (.invokevirtual 92, 3) := by decide +kernel
theorem dL_isLeast_23 : decode cL_isLeast 23 = .ok (.if_icmp .ge 136, 3) := by decide +kernel
theorem dL_isLeast_26 : decode cL_isLeast 26 = .ok (.aload_n 1, 1) := by decide +kernel
theorem dL_isLeast_27 : decode cL_isLeast 27 = .ok (.iload 7, 2) := by decide +kernel
theorem dL_isLeast_29 : decode cL_isLeast 29 = .ok (.invokestatic 141, 3) := by decide +kernel
theorem dL_isLeast_32 : decode cL_isLeast 32 = .ok (.aload_n 0, 1) := by decide +kernel
theorem dL_isLeast_33 : decode cL_isLeast 33 = .ok (.iload 7, 2) := by decide +kernel
theorem dL_isLeast_35 : decode cL_isLeast 35 = .ok (.invokevirtual 34, 3) := by decide +kernel
theorem dL_isLeast_38 : decode cL_isLeast 38 = .ok (.isub, 1) := by decide +kernel
theorem dL_isLeast_39 : decode cL_isLeast 39 = .ok (.aload_n 0, 1) := by decide +kernel
theorem dL_isLeast_40 : decode cL_isLeast 40 = .ok (.iload 7, 2) := by decide +kernel
theorem dL_isLeast_42 : decode cL_isLeast 42 = .ok (.invokevirtual 40, 3) := by decide +kernel
theorem dL_isLeast_45 : decode cL_isLeast 45 = .ok (.iadd, 1) := by decide +kernel
theorem dL_isLeast_46 : decode cL_isLeast 46 = .ok (.istore 8, 2) := by decide +kernel
theorem dL_isLeast_48 : decode cL_isLeast 48 = .ok (.aload_n 2, 1) := by decide +kernel
theorem dL_isLeast_49 : decode cL_isLeast 49 = .ok (.iconst 3, 1) := by decide +kernel
theorem dL_isLeast_50 : decode cL_isLeast 50 = .ok (.iaload, 1) := by decide +kernel
theorem dL_isLeast_51 : decode cL_isLeast 51 = .ok (.aload_n 1, 1) := by decide +kernel
theorem dL_isLeast_52 : decode cL_isLeast 52 = .ok (.iload 7, 2) := by decide +kernel
theorem dL_isLeast_54 : decode cL_isLeast 54 = .ok (.invokestatic 81, 3) := by decide +kernel
theorem dL_isLeast_57 : decode cL_isLeast 57 = .ok (.iconst 4, 1) := by decide +kernel
theorem dL_isLeast_58 : decode cL_isLeast 58 = .ok (.idiv, 1) := by decide +kernel
theorem dL_isLeast_59 : decode cL_isLeast 59 = .ok (.iconst 4, 1) := by decide +kernel
theorem dL_isLeast_60 : decode cL_isLeast 60 = .ok (.imul, 1) := by decide +kernel
theorem dL_isLeast_61 : decode cL_isLeast 61 = .ok (.ishr, 1) := by decide +kernel
theorem dL_isLeast_62 : decode cL_isLeast 62 = .ok (.bipush 15, 2) := by decide +kernel
theorem dL_isLeast_64 : decode cL_isLeast 64 = .ok (.iand, 1) := by decide +kernel
theorem dL_isLeast_65 : decode cL_isLeast 65 = .ok (.bipush 15, 2) := by decide +kernel
theorem dL_isLeast_67 : decode cL_isLeast 67 = .ok (.if_icmp .eq 25, 3) := by decide +kernel
theorem dL_isLeast_70 : decode cL_isLeast 70 = .ok (.aload_n 2, 1) := by decide +kernel
theorem dL_isLeast_71 : decode cL_isLeast 71 = .ok (.iconst 3, 1) := by decide +kernel
theorem dL_isLeast_72 : decode cL_isLeast 72 = .ok (.iaload, 1) := by decide +kernel
theorem dL_isLeast_73 : decode cL_isLeast 73 = .ok (.aload_n 1, 1) := by decide +kernel
theorem dL_isLeast_74 : decode cL_isLeast 74 = .ok (.iload 7, 2) := by decide +kernel
theorem dL_isLeast_76 : decode cL_isLeast 76 = .ok (.invokestatic 87, 3) := by decide +kernel
theorem dL_isLeast_79 : decode cL_isLeast 79 = .ok (.iconst 4, 1) := by decide +kernel
theorem dL_isLeast_80 : decode cL_isLeast 80 = .ok (.idiv, 1) := by decide +kernel
theorem dL_isLeast_81 : decode cL_isLeast 81 = .ok (.iconst 4, 1) := by decide +kernel
theorem dL_isLeast_82 : decode cL_isLeast 82 = .ok (.imul, 1) := by decide +kernel
theorem dL_isLeast_83 : decode cL_isLeast 83 = .ok (.ishr, 1) := by decide +kernel
theorem dL_isLeast_84 : decode cL_isLeast 84 = .ok (.bipush 15, 2) := by decide +kernel
theorem dL_isLeast_86 : decode cL_isLeast 86 = .ok (.iand, 1) := by decide +kernel
theorem dL_isLeast_87 : decode cL_isLeast 87 = .ok (.bipush 15, 2) := by decide +kernel
theorem dL_isLeast_89 : decode cL_isLeast 89 = .ok (.if_icmp .ne 7, 3) := by decide +kernel
theorem dL_isLeast_92 : decode cL_isLeast 92 = .ok (.iconst 1, 1) := by decide +kernel
theorem dL_isLeast_93 : decode cL_isLeast 93 = .ok (.goto 4, 3) := by decide +kernel
theorem dL_isLeast_96 : decode cL_isLeast 96 = .ok (.iconst 0, 1) := by decide +kernel
theorem dL_isLeast_97 : decode cL_isLeast 97 = .ok (.istore 9, 2) := by decide +kernel
theorem dL_isLeast_99 : decode cL_isLeast 99 = .ok (.iload 6, 2) := by decide +kernel
theorem dL_isLeast_101 : decode cL_isLeast 101 = .ok (.ifCond .ne 22, 3) := by decide +kernel
theorem dL_isLeast_104 : decode cL_isLeast 104 = .ok (.iload 8, 2) := by decide +kernel
theorem dL_isLeast_106 : decode cL_isLeast 106 = .ok (.ifCond .le 21, 3) := by decide +kernel
theorem dL_isLeast_109 : decode cL_isLeast 109 = .ok (.aload_n 1, 1) := by decide +kernel
theorem dL_isLeast_110 : decode cL_isLeast 110 = .ok (.iload 7, 2) := by decide +kernel
theorem dL_isLeast_112 : decode cL_isLeast 112 = .ok (.invokestatic 147, 3) := by decide +kernel
theorem dL_isLeast_115 : decode cL_isLeast 115 = .ok (.ifCond .eq 12, 3) := by decide +kernel
theorem dL_isLeast_118 : decode cL_isLeast 118 = .ok (.iload 9, 2) := by decide +kernel
theorem dL_isLeast_120 : decode cL_isLeast 120 = .ok (.ifCond .eq 7, 3) := by decide +kernel
theorem dL_isLeast_123 : decode cL_isLeast 123 = .ok (.iconst 1, 1) := by decide +kernel
theorem dL_isLeast_124 : decode cL_isLeast 124 = .ok (.goto 4, 3) := by decide +kernel
theorem dL_isLeast_127 : decode cL_isLeast 127 = .ok (.iconst 0, 1) := by decide +kernel
theorem dL_isLeast_128 : decode cL_isLeast 128 = .ok (.istore 6, 2) := by decide +kernel
theorem dL_isLeast_130 : decode cL_isLeast 130 = .ok (.iload 4, 2) := by decide +kernel
theorem dL_isLeast_132 : decode cL_isLeast 132 = .ok (.iload 8, 2) := by decide +kernel
theorem dL_isLeast_134 : decode cL_isLeast 134 = .ok (.iadd, 1) := by decide +kernel
theorem dL_isLeast_135 : decode cL_isLeast 135 = .ok (.istore 4, 2) := by decide +kernel
theorem dL_isLeast_137 : decode cL_isLeast 137 = .ok (.iload 8, 2) := by decide +kernel
theorem dL_isLeast_139 : decode cL_isLeast 139 = .ok (.iload 5, 2) := by decide +kernel
theorem dL_isLeast_141 : decode cL_isLeast 141 = .ok (.if_icmp .le 8, 3) := by decide +kernel
theorem dL_isLeast_144 : decode cL_isLeast 144 = .ok (.iload 8, 2) := by decide +kernel
theorem dL_isLeast_146 : decode cL_isLeast 146 = .ok (.goto 5, 3) := by decide +kernel
theorem dL_isLeast_149 : decode cL_isLeast 149 = .ok (.iload 5, 2) := by decide +kernel
theorem dL_isLeast_151 : decode cL_isLeast 151 = .ok (.istore 5, 2) := by decide +kernel
theorem dL_isLeast_153 : decode cL_isLeast 153 = .ok (.iinc 7 1, 3) := by decide +kernel
theorem dL_isLeast_156 : decode cL_isLeast 156 = .ok (.goto (-139), 3) := by decide +kernel
theorem dL_isLeast_159 : decode cL_isLeast 159 = .ok (.iload 6, 2) := by decide +kernel
theorem dL_isLeast_161 : decode cL_isLeast 161 = .ok (.ifCond .eq 16, 3) := by decide +kernel
theorem dL_isLeast_164 : decode cL_isLeast 164 = .ok (.iload_n 3, 1) := by decide +kernel
theorem dL_isLeast_165 : decode cL_isLeast 165 = .ok (.iconst (-1), 1) := by decide +kernel
theorem dL_isLeast_166 : decode cL_isLeast 166 = .ok (.if_icmp .ne 7, 3) := by decide +kernel
theorem dL_isLeast_169 : decode cL_isLeast 169 = .ok (.iconst 1, 1) := by decide +kernel
theorem dL_isLeast_170 : decode cL_isLeast 170 = .ok (.goto 46, 3) := by decide +kernel
theorem dL_isLeast_173 : decode cL_isLeast 173 = .ok (.iconst 0, 1) := by decide +kernel
theorem dL_isLeast_174 : decode cL_isLeast 174 = .ok (.goto 42, 3) := by decide +kernel
theorem dL_isLeast_177 : decode cL_isLeast 177 = .ok (.iload_n 3, 1) := by decide +kernel
theorem dL_isLeast_178 : decode cL_isLeast 178 = .ok (.iload 5, 2) := by decide +kernel
theorem dL_isLeast_180 : decode cL_isLeast 180 = .ok (.if_icmp .lt 35, 3) := by decide +kernel
theorem dL_isLeast_183 : decode cL_isLeast 183 = .ok (.iload_n 3, 1) := by decide +kernel
theorem dL_isLeast_184 : decode cL_isLeast 184 = .ok (.iload 4, 2) := by decide +kernel
theorem dL_isLeast_186 : decode cL_isLeast 186 = .ok (.if_icmp .gt 29, 3) := by decide +kernel
theorem dL_isLeast_189 : decode cL_isLeast 189 = .ok (.iload_n 3, 1) := by decide +kernel
theorem dL_isLeast_190 : decode cL_isLeast 190 = .ok (.ifCond .ne 7, 3) := by decide +kernel
theorem dL_isLeast_193 : decode cL_isLeast 193 = .ok (.iconst 1, 1) := by decide +kernel
theorem dL_isLeast_194 : decode cL_isLeast 194 = .ok (.goto 4, 3) := by decide +kernel
theorem dL_isLeast_197 : decode cL_isLeast 197 = .ok (.iconst 0, 1) := by decide +kernel
theorem dL_isLeast_198 : decode cL_isLeast 198 = .ok (.iload 4, 2) := by decide +kernel
theorem dL_isLeast_200 : decode cL_isLeast 200 = .ok (.ifCond .ne 7, 3) := by decide +kernel
theorem dL_isLeast_203 : decode cL_isLeast 203 = .ok (.iconst 1, 1) := by decide +kernel
theorem dL_isLeast_204 : decode cL_isLeast 204 = .ok (.goto 4, 3) := by decide +kernel
theorem dL_isLeast_207 : decode cL_isLeast 207 = .ok (.iconst 0, 1) := by decide +kernel
theorem dL_isLeast_208 : decode cL_isLeast 208 = .ok (.if_icmp .ne 7, 3) := by decide +kernel
theorem dL_isLeast_211 : decode cL_isLeast 211 = .ok (.iconst 1, 1) := by decide +kernel
theorem dL_isLeast_212 : decode cL_isLeast 212 = .ok (.goto 4, 3) := by decide +kernel
theorem dL_isLeast_215 : decode cL_isLeast 215 = .ok (.iconst 0, 1) := by decide +kernel
theorem dL_isLeast_216 : decode cL_isLeast 216 = .ok (.ireturn, 1) := by decide +kernel
