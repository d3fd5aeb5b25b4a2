set_option maxRecDepth 20000 in
theorem ggL_isRefused_L_flows : GoodIn wsL_isRefused wsL_flows := goodIn_ca (goodIn_r _ [5, 6, 7, 8, 9, 10, 11, 12, 13, 1, 14, 15, 16, 17, 18, 19, 20, 21, 22, 23, 24, 25, 26, 27, 28, 29, 30, 31, 32, 33, 34, 35, 36, 37, 38, 39, 40, 41, 42, 43, 44, 45, 46, 47, 48, 49, 50, 51, 52, 53, 54, 55, 56, 57, 58, 59, 60, 61, 62, 361, 362, 363, 364, 365, 366, 367, 368, 369, 370, 371, 372, 373, 374, 375, 376, 377, 378, 379, 380, 381, 382, 383, 384, 385, 386] (by decide +kernel) (by decide +kernel)) (goodIn_sub (fun _ h => List.mem_cons_of_mem _ (List.mem_append_left _ (List.mem_append_left _ (List.mem_append_right _ h)))) (by decide +kernel))
set_option maxRecDepth 20000 in
theorem gL_isRefused_L_flows : GoodIn wsL_isRefused (va_wsS RL 158 yL_flows wsL_flows) := goodIn_app (goodIn_of _ (by decide +kernel)) ggL_isRefused_L_flows
set_option maxRecDepth 20000 in
theorem ggL_isRefused_L_links : GoodIn wsL_isRefused wsL_links := goodIn_ca (goodIn_r _ [65, 66, 67, 11, 68, 69, 70, 71, 72, 73, 74, 75, 76, 17, 77, 78, 79, 80, 81, 82, 83, 84, 85, 86, 87, 88, 89, 90, 91, 92, 93, 94, 95, 96, 97, 36, 37, 38, 98, 99, 100, 101, 102, 103, 104, 105, 106, 107, 108, 109, 110, 111, 112, 113, 114, 115, 116, 117, 118, 119, 120, 121, 122, 123, 124, 125, 126, 127, 128, 129, 130, 131, 132, 133, 134, 135, 136, 137, 138, 139, 140, 141, 142, 143, 361, 362, 363, 364, 365, 366, 367, 368, 369, 370, 371, 372, 373, 387, 388, 389, 390, 391, 392, 393, 394, 395, 396, 397] (by decide +kernel) (by decide +kernel)) (goodIn_sub (fun _ h => List.mem_cons_of_mem _ (List.mem_append_left _ (List.mem_append_right _ h))) (by decide +kernel))
set_option maxRecDepth 20000 in
theorem gL_isRefused_L_links : GoodIn wsL_isRefused (va_wsS RL 161 yL_links wsL_links) := goodIn_app (goodIn_of _ (by decide +kernel)) ggL_isRefused_L_links
set_option maxRecDepth 20000 in
theorem ggL_isRefused_L_reset : GoodIn wsL_isRefused wsL_reset := goodIn_ca (goodIn_r _ [146, 147, 148, 149, 150, 17, 151, 96, 97, 36, 37, 38, 152, 153, 154, 155, 156, 157, 158, 19, 24, 78, 92, 143, 159, 80, 160, 161, 83, 162, 163, 164, 165, 166, 167, 168, 169, 170, 171, 172, 361, 362, 363, 364, 365, 366, 367, 368, 369, 370, 371, 372, 373, 387, 388, 389, 390, 391, 392, 393, 394, 395, 396, 397] (by decide +kernel) (by decide +kernel)) (goodIn_sub (fun _ h => List.mem_cons_of_mem _ (List.mem_append_left _ (List.mem_append_right _ h))) (by decide +kernel))
set_option maxRecDepth 20000 in
theorem gL_isRefused_L_reset : GoodIn wsL_isRefused (va_wsS RL 164 yL_reset wsL_reset) := goodIn_app (goodIn_of _ (by decide +kernel)) ggL_isRefused_L_reset
set_option maxRecDepth 20000 in
theorem ggL_isRefused_L_addFlow : GoodIn wsL_isRefused wsL_addFlow := goodIn_ca (goodIn_ca (goodIn_r _ [175, 147, 176, 177, 178, 179, 17, 180, 96, 97, 181, 182, 19, 29, 24, 93, 94, 95, 36, 37, 38, 183, 184, 185, 186, 187, 188, 189, 190, 191, 192, 193, 194, 195, 196, 197, 198, 199, 361, 362, 363, 364, 365, 366, 367, 368, 369, 370, 371, 372, 373, 374, 375, 376, 377, 378, 379, 380, 381, 382, 383, 384, 385, 386] (by decide +kernel) (by decide +kernel)) (goodIn_sub (fun _ h => List.mem_cons_of_mem _ (List.mem_append_left _ (List.mem_append_right _ h))) (by decide +kernel))) (goodIn_sub (fun _ h => List.mem_cons_of_mem _ (List.mem_append_right _ h)) (by decide +kernel))
set_option maxRecDepth 20000 in
theorem gL_isRefused_L_addFlow : GoodIn wsL_isRefused (va_wsS RL 166 yL_addFlow wsL_addFlow) := goodIn_app (goodIn_of _ (by decide +kernel)) ggL_isRefused_L_addFlow
set_option maxRecDepth 20000 in
theorem ggL_isRefused_L_pass : GoodIn wsL_isRefused wsL_pass := goodIn_ca (goodIn_ca (goodIn_r _ [202, 147, 176, 203, 204, 205, 17, 206, 96, 97, 181, 182, 24, 207, 36, 37, 38, 208, 209, 210, 211, 156, 212, 213, 214, 215, 78, 216, 80, 217, 218, 164, 83, 219, 220, 221, 222, 92, 29, 223, 224, 225, 226, 162, 227, 184, 228, 229, 192, 195, 194, 189, 196, 230, 231, 232, 163, 233, 234, 235, 236, 109, 110, 111, 112, 113, 237, 238, 239, 188, 240, 241, 242, 243, 143, 244, 245, 246, 247, 248, 249, 250, 251, 252, 253, 254, 255, 256, 139, 140, 141, 142, 257, 258, 259, 260, 261, 262, 263, 187, 264, 265, 266, 267, 268, 269, 270, 271, 272, 273, 274, 275, 276, 277, 278, 279, 280, 281, 282, 283, 284, 285, 286, 287, 288, 289, 290, 291, 292, 166, 165, 293, 294, 295, 296, 297, 298, 299, 300, 301, 302, 303, 304, 305, 306, 307, 308, 309, 310, 311, 312, 313, 314, 315, 316, 317, 318, 319, 19, 320, 321, 322, 323, 158, 324, 325, 326, 191, 193, 327, 328, 329, 330, 331, 332, 333, 334, 335, 336, 337, 338, 339, 157, 361, 362, 363, 364, 365, 366, 367, 368, 369, 370, 371, 372, 373, 387, 388, 389, 390, 391, 392, 393, 394, 395, 396, 397, 398, 399, 400, 401, 374, 375, 376, 377, 378, 379, 380, 381, 382, 383, 384, 385, 386, 402, 403, 404] (by decide +kernel) (by decide +kernel)) (goodIn_sub (fun _ h => List.mem_cons_of_mem _ (List.mem_append_left _ (List.mem_append_right _ h))) (by decide +kernel))) (goodIn_sub (fun _ h => List.mem_cons_of_mem _ (List.mem_append_right _ h)) (by decide +kernel))
set_option maxRecDepth 20000 in
theorem gL_isRefused_L_pass : GoodIn wsL_isRefused (va_wsS RL 169 yL_pass wsL_pass) := goodIn_app (goodIn_of _ (by decide +kernel)) ggL_isRefused_L_pass
set_option maxRecDepth 20000 in
theorem ggL_isRefused_L_cut : GoodIn wsL_isRefused wsL_cut := goodIn_ca (goodIn_ca (goodIn_r _ [342, 147, 176, 343, 344, 345, 17, 346, 181, 182, 143, 106, 107, 108, 96, 97, 36, 37, 38, 240, 241, 242, 243, 109, 110, 111, 112, 113, 118, 119, 120, 121, 122, 361, 362, 363, 364, 365, 366, 367, 368, 369, 370, 371, 372, 373, 387, 388, 389, 390, 391, 392, 393] (by decide +kernel) (by decide +kernel)) (goodIn_sub (fun _ h => List.mem_cons_of_mem _ (List.mem_append_right _ h)) (by decide +kernel))) (goodIn_sub (fun _ h => List.mem_cons_of_mem _ (List.mem_append_left _ (List.mem_append_right _ h))) (by decide +kernel))
set_option maxRecDepth 20000 in
theorem gL_isRefused_L_cut : GoodIn wsL_isRefused (va_wsS RL 172 yL_cut wsL_cut) := goodIn_app (goodIn_of _ (by decide +kernel)) ggL_isRefused_L_cut
set_option maxRecDepth 20000 in
theorem ggL_isRefused_L_restore : GoodIn wsL_isRefused wsL_restore := goodIn_ca (goodIn_ca (goodIn_r _ [349, 147, 176, 350, 351, 352, 17, 353, 181, 182, 143, 106, 107, 108, 96, 97, 36, 37, 38, 240, 241, 242, 243, 264, 265, 266, 267, 268, 269, 270, 361, 362, 363, 364, 365, 366, 367, 368, 369, 370, 371, 372, 373] (by decide +kernel) (by decide +kernel)) (goodIn_sub (fun _ h => List.mem_cons_of_mem _ (List.mem_append_right _ h)) (by decide +kernel))) (goodIn_sub (fun _ h => List.mem_cons_of_mem _ (List.mem_append_left _ (List.mem_append_right _ h))) (by decide +kernel))
set_option maxRecDepth 20000 in
theorem gL_isRefused_L_restore : GoodIn wsL_isRefused (va_wsS RL 174 yL_restore wsL_restore) := goodIn_app (goodIn_of _ (by decide +kernel)) ggL_isRefused_L_restore
set_option maxRecDepth 20000 in
theorem ggL_isRefused_X5_flows : GoodIn wsL_isRefused wsX5_flows := goodIn_r _ [18, 19, 361, 362, 363, 364, 365, 366, 367, 368, 369, 370, 371, 372, 373] (by decide +kernel) (by decide +kernel)
set_option maxRecDepth 20000 in
theorem gL_isRefused_X5_flows : GoodIn wsL_isRefused (wsV RL 92 RX5 yX5_flows wsX5_flows) := goodIn_app (goodIn_of _ (by decide +kernel)) ggL_isRefused_X5_flows
set_option maxRecDepth 20000 in
theorem ggL_isRefused_L_ask : GoodIn wsL_isRefused wsL_ask := goodIn_ca (goodIn_r _ [356, 147, 88, 89, 90, 17, 91, 92, 93, 94, 95, 96, 97, 36, 37, 38, 98, 99, 100, 101, 123, 124, 125, 126, 131, 132, 133, 134, 102, 103, 104, 105, 106, 107, 108, 109, 110, 111, 112, 113, 114, 115, 116, 117, 118, 119, 120, 121, 122, 127, 128, 129, 130, 135, 136, 137, 138, 139, 140, 141, 142, 143, 361, 362, 363, 364, 365, 366, 367, 368, 369, 370, 371, 372, 373, 394, 395, 396, 397, 387, 388, 389, 390, 391, 392, 393] (by decide +kernel) (by decide +kernel)) (goodIn_sub (fun _ h => List.mem_cons_of_mem _ (List.mem_append_left _ (List.mem_append_right _ h))) (by decide +kernel))
set_option maxRecDepth 20000 in
theorem gL_isRefused_L_ask : GoodIn wsL_isRefused (va_wsS RL 151 yL_ask wsL_ask) := goodIn_app (goodIn_of _ (by decide +kernel)) ggL_isRefused_L_ask
set_option maxRecDepth 20000 in
theorem ggL_isRefused_L_of : GoodIn wsL_isRefused wsL_of := goodIn_ca (goodIn_r _ [359, 360, 25, 26, 27, 17, 28, 29, 30, 31, 32, 33, 34, 35, 19, 36, 37, 38, 39, 40, 41, 42, 43, 44, 45, 46, 47, 48, 49, 50, 51, 52, 53, 54, 55, 56, 57, 58, 59, 60, 61, 62, 361, 362, 363, 364, 365, 366, 367, 368, 369, 370, 371, 372, 373, 374, 375, 376, 377, 378, 379, 380, 381, 382, 383, 384, 385, 386] (by decide +kernel) (by decide +kernel)) (goodIn_sub (fun _ h => List.mem_cons_of_mem _ (List.mem_append_left _ (List.mem_append_left _ (List.mem_append_right _ h)))) (by decide +kernel))
set_option maxRecDepth 20000 in
theorem gL_isRefused_L_of : GoodIn wsL_isRefused (va_wsS RL 137 yL_of wsL_of) := goodIn_app (goodIn_of _ (by decide +kernel)) ggL_isRefused_L_of
theorem dL_isRefused_0 : decode cL_isRefused 0 = .ok (.iload_n 1, 1) := by decide +kernel
theorem dL_isRefused_1 : decode cL_isRefused 1 = .ok (.iconst 2, 1) := by decide +kernel
theorem dL_isRefused_2 : decode cL_isRefused 2 = .ok (.irem, 1) := by decide +kernel
theorem dL_isRefused_3 : decode cL_isRefused 3 = .ok (.ifCond .ne 7, 3) := by decide +kernel
theorem dL_isRefused_6 : decode cL_isRefused 6 = .ok (.iconst 1, 1) := by decide +kernel
theorem dL_isRefused_7 : decode cL_isRefused 7 = .ok (.goto 4, 3) := by decide +kernel
theorem dL_isRefused_10 : decode cL_isRefused 10 = .ok (.iconst 0, 1) := by decide +kernel
theorem dL_isRefused_11 : decode cL_isRefused 11 = .ok (.istore_n 2, 1) := by decide +kernel
theorem dL_isRefused_12 : decode cL_isRefused 12 = .ok (.iload_n 2, 1) := by decide +kernel
theorem dL_isRefused_13 : decode cL_isRefused 13 = .ok (.ifCond .eq 12, 3) := by decide +kernel
theorem dL_isRefused_16 : decode cL_isRefused 16 = .ok (.iconst (-1), 1) := by decide +kernel
theorem dL_isRefused_17 : decode cL_isRefused 17 = .ok (.iload_n 1, 1) := by decide +kernel
theorem dL_isRefused_18 : decode cL_isRefused 18 = .ok (.bipush 30, 2) := by decide +kernel
theorem dL_isRefused_20 : decode cL_isRefused 20 = .ok (.irem, 1) := by decide +kernel
theorem dL_isRefused_21 : decode cL_isRefused 21 = .ok (.isub, 1) := by decide +kernel
theorem dL_isRefused_22 : decode cL_isRefused 22 = .ok (.goto 10, 3) := by decide +kernel
theorem dL_isRefused_25 : decode cL_isRefused 25 = .ok (.bipush 16, 2) := by decide +kernel
theorem dL_isRefused_27 : decode cL_isRefused 27 = .ok (.iload_n 1, 1) := by decide +kernel
theorem dL_isRefused_28 : decode cL_isRefused 28 = .ok (.bipush 30, 2) := by decide +kernel
theorem dL_isRefused_30 : decode cL_isRefused 30 = .ok (.irem, 1) := by decide +kernel
theorem dL_isRefused_31 : decode cL_isRefused 31 = .ok (.iadd, 1) := by decide +kernel
theorem dL_isRefused_32 : decode cL_isRefused 32 = .ok (.istore_n 3, 1) := by decide +kernel
theorem dL_isRefused_33 : decode cL_isRefused 33 = .ok (.iload_n 2, 1) := by decide +kernel
theorem dL_isRefused_34 : decode cL_isRefused 34 = .ok (.ifCond .eq 12, 3) := by decide +kernel
theorem dL_isRefused_37 : decode cL_isRefused 37 = .ok (.iconst (-1), 1) := by decide +kernel
theorem dL_isRefused_38 : decode cL_isRefused 38 = .ok (.iload_n 1, 1) := by decide +kernel
theorem dL_isRefused_39 : decode cL_isRefused 39 = .ok (.bipush 30, 2) := by decide +kernel
theorem dL_isRefused_41 : decode cL_isRefused 41 = .ok (.irem, 1) := by decide +kernel
theorem dL_isRefused_42 : decode cL_isRefused 42 = .ok (.isub, 1) := by decide +kernel
theorem dL_isRefused_43 : decode cL_isRefused 43 = .ok (.goto 9, 3) := by decide +kernel
theorem dL_isRefused_46 : decode cL_isRefused 46 = .ok (.iconst 4, 1) := by decide +kernel
theorem dL_isRefused_47 : decode cL_isRefused 47 = .ok (.iload_n 1, 1) := by decide +kernel
theorem dL_isRefused_48 : decode cL_isRefused 48 = .ok (.bipush 30, 2) := by decide +kernel
theorem dL_isRefused_50 : decode cL_isRefused 50 = .ok (.irem, 1) := by decide +kernel
theorem dL_isRefused_51 : decode cL_isRefused 51 = .ok (.iadd, 1) := by decide +kernel
theorem dL_isRefused_52 : decode cL_isRefused 52 = .ok (.istore 4, 2) := by decide +kernel
theorem dL_isRefused_54 : decode cL_isRefused 54 = .ok (.aload_n 0, 1) := by decide +kernel
theorem dL_isRefused_55 : decode cL_isRefused 55 = .ok (.invokestatic 158, 3) := by decide +kernel
theorem dL_isRefused_58 : decode cL_isRefused 58 = .ok (.ldc2_w 113, 3) := by decide +kernel
theorem dL_isRefused_61 : decode cL_isRefused 61 = .ok (.aload_n 0, 1) := by decide +kernel
theorem dL_isRefused_62 : decode cL_isRefused 62 = .ok (.invokestatic 161, 3) := by decide +kernel
theorem dL_isRefused_65 : decode cL_isRefused 65 = .ok (.lmul, 1) := by decide +kernel
theorem dL_isRefused_66 : decode cL_isRefused 66 = .ok (.ladd, 1) := by decide +kernel
theorem dL_isRefused_67 : decode cL_isRefused 67 = .ok (.lstore 5, 2) := by decide +kernel
theorem dL_isRefused_69 : decode cL_isRefused 69 = .ok (.aload_n 0, 1) := by decide +kernel
theorem dL_isRefused_70 : decode cL_isRefused 70 = .ok (.iload_n 2, 1) := by decide +kernel
theorem dL_isRefused_71 : decode cL_isRefused 71 = .ok (.ifCond .eq 7, 3) := by decide +kernel
theorem dL_isRefused_74 : decode cL_isRefused 74 = .ok (.iconst (-1), 1) := by decide +kernel
theorem dL_isRefused_75 : decode cL_isRefused 75 = .ok (.goto 5, 3) := by decide +kernel
theorem dL_isRefused_78 : decode cL_isRefused 78 = .ok (.bipush 6, 2) := by decide +kernel
theorem dL_isRefused_80 : decode cL_isRefused 80 = .ok (.iconst 5, 1) := by decide +kernel
theorem dL_isRefused_81 : decode cL_isRefused 81 = .ok (.iconst 5, 1) := by decide +kernel
theorem dL_isRefused_82 : decode cL_isRefused 82 = .ok (.invokestatic 164, 3) := by decide +kernel
theorem dL_isRefused_85 : decode cL_isRefused 85 = .ok (.bipush (-62), 2) := by decide +kernel
theorem dL_isRefused_87 : decode cL_isRefused 87 = .ok (.if_icmp .ne 238, 3) := by decide +kernel
theorem dL_isRefused_90 : decode cL_isRefused 90 = .ok (.aload_n 0, 1) := by decide +kernel
theorem dL_isRefused_91 : decode cL_isRefused 91 = .ok (.iconst 0, 1) := by decide +kernel
theorem dL_isRefused_92 : decode cL_isRefused 92 = .ok (.iload_n 2, 1) := by decide +kernel
theorem dL_isRefused_93 : decode cL_isRefused 93 = .ok (.ifCond .eq 7, 3) := by decide +kernel
theorem dL_isRefused_96 : decode cL_isRefused 96 = .ok (.iconst 0, 1) := by decide +kernel
theorem dL_isRefused_97 : decode cL_isRefused 97 = .ok (.goto 5, 3) := by decide +kernel
theorem dL_isRefused_100 : decode cL_isRefused 100 = .ok (.bipush 51, 2) := by decide +kernel
theorem dL_isRefused_102 : decode cL_isRefused 102 = .ok (.iconst 5, 1) := by decide +kernel
theorem dL_isRefused_103 : decode cL_isRefused 103 = .ok (.invokestatic 164, 3) := by decide +kernel
theorem dL_isRefused_106 : decode cL_isRefused 106 = .ok (.bipush (-62), 2) := by decide +kernel
theorem dL_isRefused_108 : decode cL_isRefused 108 = .ok (.if_icmp .ne 217, 3) := by decide +kernel
theorem dL_isRefused_111 : decode cL_isRefused 111 = .ok (.aload_n 0, 1) := by decide +kernel
theorem dL_isRefused_112 : decode cL_isRefused 112 = .ok (.iconst 0, 1) := by decide +kernel
theorem dL_isRefused_113 : decode cL_isRefused 113 = .ok (.iconst 5, 1) := by decide +kernel
theorem dL_isRefused_114 : decode cL_isRefused 114 = .ok (.iload_n 2, 1) := by decide +kernel
theorem dL_isRefused_115 : decode cL_isRefused 115 = .ok (.ifCond .eq 7, 3) := by decide +kernel
theorem dL_isRefused_118 : decode cL_isRefused 118 = .ok (.iconst 0, 1) := by decide +kernel
theorem dL_isRefused_119 : decode cL_isRefused 119 = .ok (.goto 5, 3) := by decide +kernel
theorem dL_isRefused_122 : decode cL_isRefused 122 = .ok (.bipush 17, 2) := by decide +kernel
theorem dL_isRefused_124 : decode cL_isRefused 124 = .ok (.invokestatic 164, 3) := by decide +kernel
theorem dL_isRefused_127 : decode cL_isRefused 127 = .ok (.bipush (-62), 2) := by decide +kernel
theorem dL_isRefused_129 : decode cL_isRefused 129 = .ok (.if_icmp .ne 196, 3) := by decide +kernel
theorem dL_isRefused_132 : decode cL_isRefused 132 = .ok (.aload_n 0, 1) := by decide +kernel
theorem dL_isRefused_133 : decode cL_isRefused 133 = .ok (.iload_n 3, 1) := by decide +kernel
theorem dL_isRefused_134 : decode cL_isRefused 134 = .ok (.iconst 1, 1) := by decide +kernel
theorem dL_isRefused_135 : decode cL_isRefused 135 = .ok (.iconst 1, 1) := by decide +kernel
theorem dL_isRefused_136 : decode cL_isRefused 136 = .ok (.iconst 0, 1) := by decide +kernel
theorem dL_isRefused_137 : decode cL_isRefused 137 = .ok (.invokestatic 166, 3) := by decide +kernel
theorem dL_isRefused_140 : decode cL_isRefused 140 = .ok (.bipush (-62), 2) := by decide +kernel
theorem dL_isRefused_142 : decode cL_isRefused 142 = .ok (.if_icmp .ne 183, 3) := by decide +kernel
theorem dL_isRefused_145 : decode cL_isRefused 145 = .ok (.aload_n 0, 1) := by decide +kernel
theorem dL_isRefused_146 : decode cL_isRefused 146 = .ok (.iconst 1, 1) := by decide +kernel
theorem dL_isRefused_147 : decode cL_isRefused 147 = .ok (.iload_n 3, 1) := by decide +kernel
theorem dL_isRefused_148 : decode cL_isRefused 148 = .ok (.iconst 1, 1) := by decide +kernel
theorem dL_isRefused_149 : decode cL_isRefused 149 = .ok (.iconst 0, 1) := by decide +kernel
theorem dL_isRefused_150 : decode cL_isRefused 150 = .ok (.invokestatic 166, 3) := by decide +kernel
theorem dL_isRefused_153 : decode cL_isRefused 153 = .ok (.bipush (-62), 2) := by decide +kernel
theorem dL_isRefused_155 : decode cL_isRefused 155 = .ok (.if_icmp .ne 170, 3) := by decide +kernel
theorem dL_isRefused_158 : decode cL_isRefused 158 = .ok (.aload_n 0, 1) := by decide +kernel
theorem dL_isRefused_159 : decode cL_isRefused 159 = .ok (.iload_n 1, 1) := by decide +kernel
theorem dL_isRefused_160 : decode cL_isRefused 160 = .ok (.bipush 16, 2) := by decide +kernel
theorem dL_isRefused_162 : decode cL_isRefused 162 = .ok (.irem, 1) := by decide +kernel
theorem dL_isRefused_163 : decode cL_isRefused 163 = .ok (.iload_n 1, 1) := by decide +kernel
theorem dL_isRefused_164 : decode cL_isRefused 164 = .ok (.bipush 16, 2) := by decide +kernel
theorem dL_isRefused_166 : decode cL_isRefused 166 = .ok (.irem, 1) := by decide +kernel
theorem dL_isRefused_167 : decode cL_isRefused 167 = .ok (.iconst 1, 1) := by decide +kernel
theorem dL_isRefused_168 : decode cL_isRefused 168 = .ok (.iconst 0, 1) := by decide +kernel
theorem dL_isRefused_169 : decode cL_isRefused 169 = .ok (.invokestatic 166, 3) := by decide +kernel
theorem dL_isRefused_172 : decode cL_isRefused 172 = .ok (.bipush (-62), 2) := by decide +kernel
theorem dL_isRefused_174 : decode cL_isRefused 174 = .ok (.if_icmp .ne 151, 3) := by decide +kernel
theorem dL_isRefused_177 : decode cL_isRefused 177 = .ok (.aload_n 0, 1) := by decide +kernel
theorem dL_isRefused_178 : decode cL_isRefused 178 = .ok (.iconst 0, 1) := by decide +kernel
theorem dL_isRefused_179 : decode cL_isRefused 179 = .ok (.iconst 1, 1) := by decide +kernel
theorem dL_isRefused_180 : decode cL_isRefused 180 = .ok (.iload_n 2, 1) := by decide +kernel
theorem dL_isRefused_181 : decode cL_isRefused 181 = .ok (.ifCond .eq 7, 3) := by decide +kernel
theorem dL_isRefused_184 : decode cL_isRefused 184 = .ok (.iconst 0, 1) := by decide +kernel
theorem dL_isRefused_185 : decode cL_isRefused 185 = .ok (.goto 5, 3) := by decide +kernel
theorem dL_isRefused_188 : decode cL_isRefused 188 = .ok (.bipush 101, 2) := by decide +kernel
theorem dL_isRefused_190 : decode cL_isRefused 190 = .ok (.iconst 0, 1) := by decide +kernel
theorem dL_isRefused_191 : decode cL_isRefused 191 = .ok (.invokestatic 166, 3) := by decide +kernel
theorem dL_isRefused_194 : decode cL_isRefused 194 = .ok (.bipush (-62), 2) := by decide +kernel
theorem dL_isRefused_196 : decode cL_isRefused 196 = .ok (.if_icmp .ne 129, 3) := by decide +kernel
theorem dL_isRefused_199 : decode cL_isRefused 199 = .ok (.aload_n 0, 1) := by decide +kernel
theorem dL_isRefused_200 : decode cL_isRefused 200 = .ok (.iconst 0, 1) := by decide +kernel
theorem dL_isRefused_201 : decode cL_isRefused 201 = .ok (.iconst 1, 1) := by decide +kernel
theorem dL_isRefused_202 : decode cL_isRefused 202 = .ok (.iconst 1, 1) := by decide +kernel
theorem dL_isRefused_203 : decode cL_isRefused 203 = .ok (.iload_n 2, 1) := by decide +kernel
theorem dL_isRefused_204 : decode cL_isRefused 204 = .ok (.ifCond .eq 7, 3) := by decide +kernel
theorem dL_isRefused_207 : decode cL_isRefused 207 = .ok (.iconst (-1), 1) := by decide +kernel
theorem dL_isRefused_208 : decode cL_isRefused 208 = .ok (.goto 5, 3) := by decide +kernel
theorem dL_isRefused_211 : decode cL_isRefused 211 = .ok (.bipush 101, 2) := by decide +kernel
theorem dL_isRefused_213 : decode cL_isRefused 213 = .ok (.invokestatic 166, 3) := by decide +kernel
theorem dL_isRefused_216 : decode cL_isRefused 216 = .ok (.bipush (-62), 2) := by decide +kernel
theorem dL_isRefused_218 : decode cL_isRefused 218 = .ok (.if_icmp .ne 107, 3) := by decide +kernel
theorem dL_isRefused_221 : decode cL_isRefused 221 = .ok (.aload_n 0, 1) := by decide +kernel
theorem dL_isRefused_222 : decode cL_isRefused 222 = .ok (.iload_n 2, 1) := by decide +kernel
theorem dL_isRefused_223 : decode cL_isRefused 223 = .ok (.ifCond .eq 12, 3) := by decide +kernel
theorem dL_isRefused_226 : decode cL_isRefused 226 = .ok (.iconst 0, 1) := by decide +kernel
theorem dL_isRefused_227 : decode cL_isRefused 227 = .ok (.iload_n 1, 1) := by decide +kernel
theorem dL_isRefused_228 : decode cL_isRefused 228 = .ok (.bipush 30, 2) := by decide +kernel
theorem dL_isRefused_230 : decode cL_isRefused 230 = .ok (.irem, 1) := by decide +kernel
theorem dL_isRefused_231 : decode cL_isRefused 231 = .ok (.isub, 1) := by decide +kernel
theorem dL_isRefused_232 : decode cL_isRefused 232 = .ok (.goto 11, 3) := by decide +kernel
theorem dL_isRefused_235 : decode cL_isRefused 235 = .ok (.sipush 201, 3) := by decide +kernel
theorem dL_isRefused_238 : decode cL_isRefused 238 = .ok (.iload_n 1, 1) := by decide +kernel
theorem dL_isRefused_239 : decode cL_isRefused 239 = .ok (.bipush 30, 2) := by decide +kernel
theorem dL_isRefused_241 : decode cL_isRefused 241 = .ok (.irem, 1) := by decide +kernel
theorem dL_isRefused_242 : decode cL_isRefused 242 = .ok (.iadd, 1) := by decide +kernel
theorem dL_isRefused_243 : decode cL_isRefused 243 = .ok (.invokestatic 169, 3) := by decide +kernel
theorem dL_isRefused_246 : decode cL_isRefused 246 = .ok (.bipush (-62), 2) := by decide +kernel
theorem dL_isRefused_248 : decode cL_isRefused 248 = .ok (.if_icmp .ne 77, 3) := by decide +kernel
theorem dL_isRefused_251 : decode cL_isRefused 251 = .ok (.aload_n 0, 1) := by decide +kernel
theorem dL_isRefused_252 : decode cL_isRefused 252 = .ok (.iload 4, 2) := by decide +kernel
theorem dL_isRefused_254 : decode cL_isRefused 254 = .ok (.iconst 0, 1) := by decide +kernel
theorem dL_isRefused_255 : decode cL_isRefused 255 = .ok (.invokestatic 172, 3) := by decide +kernel
theorem dL_isRefused_258 : decode cL_isRefused 258 = .ok (.bipush (-62), 2) := by decide +kernel
theorem dL_isRefused_260 : decode cL_isRefused 260 = .ok (.if_icmp .ne 65, 3) := by decide +kernel
theorem dL_isRefused_263 : decode cL_isRefused 263 = .ok (.aload_n 0, 1) := by decide +kernel
theorem dL_isRefused_264 : decode cL_isRefused 264 = .ok (.iconst 0, 1) := by decide +kernel
theorem dL_isRefused_265 : decode cL_isRefused 265 = .ok (.iload 4, 2) := by decide +kernel
theorem dL_isRefused_267 : decode cL_isRefused 267 = .ok (.invokestatic 172, 3) := by decide +kernel
theorem dL_isRefused_270 : decode cL_isRefused 270 = .ok (.bipush (-62), 2) := by decide +kernel
theorem dL_isRefused_272 : decode cL_isRefused 272 = .ok (.if_icmp .ne 53, 3) := by decide +kernel
theorem dL_isRefused_275 : decode cL_isRefused 275 = .ok (.aload_n 0, 1) := by decide +kernel
theorem dL_isRefused_276 : decode cL_isRefused 276 = .ok (.iload 4, 2) := by decide +kernel
theorem dL_isRefused_278 : decode cL_isRefused 278 = .ok (.iconst 0, 1) := by decide +kernel
theorem dL_isRefused_279 : decode cL_isRefused 279 = .ok (.invokestatic 174, 3) := by decide +kernel
theorem dL_isRefused_282 : decode cL_isRefused 282 = .ok (.bipush (-62), 2) := by decide +kernel
theorem dL_isRefused_284 : decode cL_isRefused 284 = .ok (.if_icmp .ne 41, 3) := by decide +kernel
theorem dL_isRefused_287 : decode cL_isRefused 287 = .ok (.aload_n 0, 1) := by decide +kernel
theorem dL_isRefused_288 : decode cL_isRefused 288 = .ok (.iconst 0, 1) := by decide +kernel
theorem dL_isRefused_289 : decode cL_isRefused 289 = .ok (.iload 4, 2) := by decide +kernel
theorem dL_isRefused_291 : decode cL_isRefused 291 = .ok (.invokestatic 174, 3) := by decide +kernel
theorem dL_isRefused_294 : decode cL_isRefused 294 = .ok (.bipush (-62), 2) := by decide +kernel
theorem dL_isRefused_296 : decode cL_isRefused 296 = .ok (.if_icmp .ne 29, 3) := by decide +kernel
theorem dL_isRefused_299 : decode cL_isRefused 299 = .ok (.aload_n 0, 1) := by decide +kernel
theorem dL_isRefused_300 : decode cL_isRefused 300 = .ok (.invokevirtual 92, 3) := by decide +kernel
theorem dL_isRefused_303 : decode cL_isRefused 303 = .ok (.bipush 24, 2) := by decide +kernel
theorem dL_isRefused_305 : decode cL_isRefused 305 = .ok (.if_icmp .lt 16, 3) := by decide +kernel
theorem dL_isRefused_308 : decode cL_isRefused 308 = .ok (.aload_n 0, 1) := by decide +kernel
theorem dL_isRefused_309 : decode cL_isRefused 309 = .ok (.iconst 0, 1) := by decide +kernel
theorem dL_isRefused_310 : decode cL_isRefused 310 = .ok (.iconst 1, 1) := by decide +kernel
theorem dL_isRefused_311 : decode cL_isRefused 311 = .ok (.iconst 1, 1) := by decide +kernel
theorem dL_isRefused_312 : decode cL_isRefused 312 = .ok (.iconst 0, 1) := by decide +kernel
theorem dL_isRefused_313 : decode cL_isRefused 313 = .ok (.invokestatic 166, 3) := by decide +kernel
theorem dL_isRefused_316 : decode cL_isRefused 316 = .ok (.bipush (-63), 2) := by decide +kernel
theorem dL_isRefused_318 : decode cL_isRefused 318 = .ok (.if_icmp .ne 7, 3) := by decide +kernel
theorem dL_isRefused_321 : decode cL_isRefused 321 = .ok (.iconst 1, 1) := by decide +kernel
theorem dL_isRefused_322 : decode cL_isRefused 322 = .ok (.goto 4, 3) := by decide +kernel
theorem dL_isRefused_325 : decode cL_isRefused 325 = .ok (.iconst 0, 1) := by decide +kernel
theorem dL_isRefused_326 : decode cL_isRefused 326 = .ok (.istore 7, 2) := by decide +kernel
theorem dL_isRefused_328 : decode cL_isRefused 328 = .ok (.iconst 0, 1) := by decide +kernel
theorem dL_isRefused_329 : decode cL_isRefused 329 = .ok (.istore 8, 2) := by decide +kernel
theorem dL_isRefused_331 : decode cL_isRefused 331 = .ok (.iload 8, 2) := by decide +kernel
theorem dL_isRefused_333 : decode cL_isRefused 333 = .ok (.bipush 8, 2) := by decide +kernel
theorem dL_isRefused_335 : decode cL_isRefused 335 = .ok (.if_icmp .ge 128, 3) := by decide +kernel
theorem dL_isRefused_338 : decode cL_isRefused 338 = .ok (.iload 7, 2) := by decide +kernel
theorem dL_isRefused_340 : decode cL_isRefused 340 = .ok (.ifCond .eq 123, 3) := by decide +kernel
theorem dL_isRefused_343 : decode cL_isRefused 343 = .ok (.iload 8, 2) := by decide +kernel
theorem dL_isRefused_345 : decode cL_isRefused 345 = .ok (.iconst 4, 1) := by decide +kernel
theorem dL_isRefused_346 : decode cL_isRefused 346 = .ok (.if_icmp .ge 24, 3) := by decide +kernel
theorem dL_isRefused_349 : decode cL_isRefused 349 = .ok (.aload_n 0, 1) := by decide +kernel
theorem dL_isRefused_350 : decode cL_isRefused 350 = .ok (.iload 8, 2) := by decide +kernel
theorem dL_isRefused_352 : decode cL_isRefused 352 = .ok (.iload_n 3, 1) := by decide +kernel
theorem dL_isRefused_353 : decode cL_isRefused 353 = .ok (.iconst 0, 1) := by decide +kernel
theorem dL_isRefused_354 : decode cL_isRefused 354 = .ok (.invokestatic 151, 3) := by decide +kernel
theorem dL_isRefused_357 : decode cL_isRefused 357 = .ok (.bipush (-62), 2) := by decide +kernel
theorem dL_isRefused_359 : decode cL_isRefused 359 = .ok (.if_icmp .ne 7, 3) := by decide +kernel
theorem dL_isRefused_362 : decode cL_isRefused 362 = .ok (.iconst 1, 1) := by decide +kernel
theorem dL_isRefused_363 : decode cL_isRefused 363 = .ok (.goto 40, 3) := by decide +kernel
theorem dL_isRefused_366 : decode cL_isRefused 366 = .ok (.iconst 0, 1) := by decide +kernel
theorem dL_isRefused_367 : decode cL_isRefused 367 = .ok (.goto 36, 3) := by decide +kernel
theorem dL_isRefused_370 : decode cL_isRefused 370 = .ok (.aload_n 0, 1) := by decide +kernel
theorem dL_isRefused_371 : decode cL_isRefused 371 = .ok (.iload 8, 2) := by decide +kernel
theorem dL_isRefused_373 : decode cL_isRefused 373 = .ok (.iload 4, 2) := by decide +kernel
theorem dL_isRefused_375 : decode cL_isRefused 375 = .ok (.iconst 1, 1) := by decide +kernel
theorem dL_isRefused_376 : decode cL_isRefused 376 = .ok (.invokestatic 151, 3) := by decide +kernel
theorem dL_isRefused_379 : decode cL_isRefused 379 = .ok (.bipush (-62), 2) := by decide +kernel
theorem dL_isRefused_381 : decode cL_isRefused 381 = .ok (.if_icmp .ne 21, 3) := by decide +kernel
theorem dL_isRefused_384 : decode cL_isRefused 384 = .ok (.aload_n 0, 1) := by decide +kernel
theorem dL_isRefused_385 : decode cL_isRefused 385 = .ok (.iload 8, 2) := by decide +kernel
theorem dL_isRefused_387 : decode cL_isRefused 387 = .ok (.iconst 1, 1) := by decide +kernel
theorem dL_isRefused_388 : decode cL_isRefused 388 = .ok (.iload 4, 2) := by decide +kernel
theorem dL_isRefused_390 : decode cL_isRefused 390 = .ok (.invokestatic 151, 3) := by decide +kernel
theorem dL_isRefused_393 : decode cL_isRefused 393 = .ok (.bipush (-62), 2) := by decide +kernel
theorem dL_isRefused_395 : decode cL_isRefused 395 = .ok (.if_icmp .ne 7, 3) := by decide +kernel
theorem dL_isRefused_398 : decode cL_isRefused 398 = .ok (.iconst 1, 1) := by decide +kernel
theorem dL_isRefused_399 : decode cL_isRefused 399 = .ok (.goto 4, 3) := by decide +kernel
theorem dL_isRefused_402 : decode cL_isRefused 402 = .ok (.iconst 0, 1) := by decide +kernel
theorem dL_isRefused_403 : decode cL_isRefused 403 = .ok (.istore 7, 2) := by decide +kernel
theorem dL_isRefused_405 : decode cL_isRefused 405 = .ok (.iload 7, 2) := by decide +kernel
theorem dL_isRefused_407 : decode cL_isRefused 407 = .ok (.ifCond .eq 47, 3) := by decide +kernel
theorem dL_isRefused_410 : decode cL_isRefused 410 = .ok (.iload 8, 2) := by decide +kernel
theorem dL_isRefused_412 : decode cL_isRefused 412 = .ok (.bipush 6, 2) := by decide +kernel
theorem dL_isRefused_414 : decode cL_isRefused 414 = .ok (.if_icmp .gt 36, 3) := by decide +kernel
theorem dL_isRefused_417 : decode cL_isRefused 417 = .ok (.aload_n 0, 1) := by decide +kernel
theorem dL_isRefused_418 : decode cL_isRefused 418 = .ok (.iload 8, 2) := by decide +kernel
theorem dL_isRefused_420 : decode cL_isRefused 420 = .ok (.iload_n 2, 1) := by decide +kernel
theorem dL_isRefused_421 : decode cL_isRefused 421 = .ok (.ifCond .eq 12, 3) := by decide +kernel
theorem dL_isRefused_424 : decode cL_isRefused 424 = .ok (.iconst (-1), 1) := by decide +kernel
theorem dL_isRefused_425 : decode cL_isRefused 425 = .ok (.iload_n 1, 1) := by decide +kernel
theorem dL_isRefused_426 : decode cL_isRefused 426 = .ok (.bipush 30, 2) := by decide +kernel
theorem dL_isRefused_428 : decode cL_isRefused 428 = .ok (.irem, 1) := by decide +kernel
theorem dL_isRefused_429 : decode cL_isRefused 429 = .ok (.isub, 1) := by decide +kernel
theorem dL_isRefused_430 : decode cL_isRefused 430 = .ok (.goto 12, 3) := by decide +kernel
theorem dL_isRefused_433 : decode cL_isRefused 433 = .ok (.aload_n 0, 1) := by decide +kernel
theorem dL_isRefused_434 : decode cL_isRefused 434 = .ok (.invokevirtual 92, 3) := by decide +kernel
theorem dL_isRefused_437 : decode cL_isRefused 437 = .ok (.iload_n 1, 1) := by decide +kernel
theorem dL_isRefused_438 : decode cL_isRefused 438 = .ok (.bipush 30, 2) := by decide +kernel
theorem dL_isRefused_440 : decode cL_isRefused 440 = .ok (.irem, 1) := by decide +kernel
theorem dL_isRefused_441 : decode cL_isRefused 441 = .ok (.iadd, 1) := by decide +kernel
theorem dL_isRefused_442 : decode cL_isRefused 442 = .ok (.invokestatic 137, 3) := by decide +kernel
theorem dL_isRefused_445 : decode cL_isRefused 445 = .ok (.bipush (-61), 2) := by decide +kernel
theorem dL_isRefused_447 : decode cL_isRefused 447 = .ok (.if_icmp .ne 7, 3) := by decide +kernel
theorem dL_isRefused_450 : decode cL_isRefused 450 = .ok (.iconst 1, 1) := by decide +kernel
theorem dL_isRefused_451 : decode cL_isRefused 451 = .ok (.goto 4, 3) := by decide +kernel
theorem dL_isRefused_454 : decode cL_isRefused 454 = .ok (.iconst 0, 1) := by decide +kernel
theorem dL_isRefused_455 : decode cL_isRefused 455 = .ok (.istore 7, 2) := by decide +kernel
theorem dL_isRefused_457 : decode cL_isRefused 457 = .ok (.iinc 8 1, 3) := by decide +kernel
theorem dL_isRefused_460 : decode cL_isRefused 460 = .ok (.goto (-129), 3) := by decide +kernel
theorem dL_isRefused_463 : decode cL_isRefused 463 = .ok (.iload 7, 2) := by decide +kernel
theorem dL_isRefused_465 : decode cL_isRefused 465 = .ok (.ifCond .eq 26, 3) := by decide +kernel
theorem dL_isRefused_468 : decode cL_isRefused 468 = .ok (.aload_n 0, 1) := by decide +kernel
theorem dL_isRefused_469 : decode cL_isRefused 469 = .ok (.invokestatic 158, 3) := by decide +kernel
theorem dL_isRefused_472 : decode cL_isRefused 472 = .ok (.ldc2_w 113, 3) := by decide +kernel
theorem dL_isRefused_475 : decode cL_isRefused 475 = .ok (.aload_n 0, 1) := by decide +kernel
theorem dL_isRefused_476 : decode cL_isRefused 476 = .ok (.invokestatic 161, 3) := by decide +kernel
theorem dL_isRefused_479 : decode cL_isRefused 479 = .ok (.lmul, 1) := by decide +kernel
theorem dL_isRefused_480 : decode cL_isRefused 480 = .ok (.ladd, 1) := by decide +kernel
theorem dL_isRefused_481 : decode cL_isRefused 481 = .ok (.lload 5, 2) := by decide +kernel
theorem dL_isRefused_483 : decode cL_isRefused 483 = .ok (.lcmp, 1) := by decide +kernel
theorem dL_isRefused_484 : decode cL_isRefused 484 = .ok (.ifCond .ne 7, 3) := by decide +kernel
theorem dL_isRefused_487 : decode cL_isRefused 487 = .ok (.iconst 1, 1) := by decide +kernel
theorem dL_isRefused_488 : decode cL_isRefused 488 = .ok (.goto 4, 3) := by decide +kernel
theorem dL_isRefused_491 : decode cL_isRefused 491 = .ok (.iconst 0, 1) := by decide +kernel
theorem dL_isRefused_492 : decode cL_isRefused 492 = .ok (.ireturn, 1) := by decide +kernel
