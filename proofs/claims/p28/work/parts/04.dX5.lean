set_option maxRecDepth 20000 in
theorem ggX5_init_X0_init : GoodIn wsX5_init wsX0_init := goodIn_r _ [26, 27, 2, 3] (by decide +kernel) (by decide +kernel)
set_option maxRecDepth 20000 in
theorem gX5_init_X0_init_n46 : GoodIn wsX5_init (wsX0_init) := ggX5_init_X0_init
set_option maxRecDepth 20000 in
theorem ggX5_init_X1_init : GoodIn wsX5_init wsX1_init := goodIn_r _ [29, 30, 2, 3, 31, 21, 22, 32, 33, 34, 35, 36, 37, 38, 15, 39, 40, 41, 42, 43, 44, 121, 122, 123, 124, 125, 126, 127, 117, 118, 119, 120, 131, 132, 133, 134] (by decide +kernel) (by decide +kernel)
set_option maxRecDepth 20000 in
theorem gX5_init_X1_init_n47 : GoodIn wsX5_init (wsX1_init) := ggX5_init_X1_init
set_option maxRecDepth 20000 in
theorem ggX5_init_X2_init : GoodIn wsX5_init wsX2_init := goodIn_r _ [35, 36, 2, 3, 37, 38, 15, 39, 40, 41, 42, 43, 44, 121, 122, 123, 124, 125, 126, 127, 131, 132, 133, 134] (by decide +kernel) (by decide +kernel)
set_option maxRecDepth 20000 in
theorem gX5_init_X2_init_n55 : GoodIn wsX5_init (wsX2_init) := ggX5_init_X2_init
set_option maxRecDepth 20000 in
theorem ggX5_init_X3_init : GoodIn wsX5_init wsX3_init := goodIn_r _ [46, 47, 2, 3, 48, 49, 50, 15, 51, 128, 129, 130] (by decide +kernel) (by decide +kernel)
set_option maxRecDepth 20000 in
theorem gX5_init_X3_init_n56 : GoodIn wsX5_init (wsX3_init) := ggX5_init_X3_init
set_option maxRecDepth 20000 in
theorem ggX5_init_X5_joinLeaf : GoodIn wsX5_init wsX5_joinLeaf := goodIn_r _ [56, 13, 7, 57, 58, 59, 55, 60, 11, 61, 62, 63, 64, 10, 91, 92, 93, 94, 95, 96, 97, 98, 99, 100, 101, 102, 103, 128, 129, 130, 117, 118, 119, 120] (by decide +kernel) (by decide +kernel)
set_option maxRecDepth 20000 in
theorem gX5_init_X5_joinLeaf : GoodIn wsX5_init (wsV RX5 59 RX5 yX5_joinLeaf wsX5_joinLeaf) := goodIn_app (goodIn_of _ (by decide +kernel)) ggX5_init_X5_joinLeaf
set_option maxRecDepth 20000 in
theorem ggX5_init_X5_joinSpine : GoodIn wsX5_init wsX5_joinSpine := goodIn_r _ [68, 14, 61, 62, 63, 55, 64, 10, 57, 58, 59, 60, 11, 91, 92, 93, 94, 95, 96, 97, 98, 99, 100, 101, 102, 103, 128, 129, 130] (by decide +kernel) (by decide +kernel)
set_option maxRecDepth 20000 in
theorem gX5_init_X5_joinSpine : GoodIn wsX5_init (wsV RX5 63 RX5 yX5_joinSpine wsX5_joinSpine) := goodIn_app (goodIn_of _ (by decide +kernel)) ggX5_init_X5_joinSpine
set_option maxRecDepth 20000 in
theorem ggX5_init_X5_begin : GoodIn wsX5_init wsX5_begin := goodIn_r _ [72, 73, 74, 75, 76, 77, 9, 7, 16, 78, 22, 79, 80, 39, 81, 82, 83, 84, 85, 86, 20, 87, 88, 89, 90, 91, 92, 93, 94, 95, 96, 97, 98, 99, 100, 101, 102, 103, 121, 122, 123, 124, 125, 126, 127, 117, 118, 119, 120] (by decide +kernel) (by decide +kernel)
set_option maxRecDepth 20000 in
theorem gX5_init_X5_begin : GoodIn wsX5_init (wsV RX5 66 RX5 yX5_begin wsX5_begin) := goodIn_app (goodIn_of _ (by decide +kernel)) ggX5_init_X5_begin
theorem dX5_init_0 : decode cX5_init 0 = .ok (.aload_n 0, 1) := by decide +kernel
theorem dX5_init_1 : decode cX5_init 1 = .ok (.invokespecial 3, 3) := by decide +kernel
theorem dX5_init_4 : decode cX5_init 4 = .ok (.aload_n 0, 1) := by decide +kernel
theorem dX5_init_5 : decode cX5_init 5 = .ok (.bipush 24, 2) := by decide +kernel
theorem dX5_init_7 : decode cX5_init 7 = .ok (.anewarray 9, 3) := by decide +kernel
theorem dX5_init_10 : decode cX5_init 10 = .ok (.putfield 11, 3) := by decide +kernel
theorem dX5_init_13 : decode cX5_init 13 = .ok (.aload_n 0, 1) := by decide +kernel
theorem dX5_init_14 : decode cX5_init 14 = .ok (.bipush 16, 2) := by decide +kernel
theorem dX5_init_16 : decode cX5_init 16 = .ok (.anewarray 15, 3) := by decide +kernel
theorem dX5_init_19 : decode cX5_init 19 = .ok (.putfield 17, 3) := by decide +kernel
theorem dX5_init_22 : decode cX5_init 22 = .ok (.aload_n 0, 1) := by decide +kernel
theorem dX5_init_23 : decode cX5_init 23 = .ok (.bipush 64, 2) := by decide +kernel
theorem dX5_init_25 : decode cX5_init 25 = .ok (.anewarray 21, 3) := by decide +kernel
theorem dX5_init_28 : decode cX5_init 28 = .ok (.putfield 23, 3) := by decide +kernel
theorem dX5_init_31 : decode cX5_init 31 = .ok (.aload_n 0, 1) := by decide +kernel
theorem dX5_init_32 : decode cX5_init 32 = .ok (.bipush 16, 2) := by decide +kernel
theorem dX5_init_34 : decode cX5_init 34 = .ok (.anewarray 21, 3) := by decide +kernel
theorem dX5_init_37 : decode cX5_init 37 = .ok (.putfield 27, 3) := by decide +kernel
theorem dX5_init_40 : decode cX5_init 40 = .ok (.aload_n 0, 1) := by decide +kernel
theorem dX5_init_41 : decode cX5_init 41 = .ok (.bipush 16, 2) := by decide +kernel
theorem dX5_init_43 : decode cX5_init 43 = .ok (.anewarray 21, 3) := by decide +kernel
theorem dX5_init_46 : decode cX5_init 46 = .ok (.putfield 30, 3) := by decide +kernel
theorem dX5_init_49 : decode cX5_init 49 = .ok (.aload_n 0, 1) := by decide +kernel
theorem dX5_init_50 : decode cX5_init 50 = .ok (.iconst 4, 1) := by decide +kernel
theorem dX5_init_51 : decode cX5_init 51 = .ok (.anewarray 33, 3) := by decide +kernel
theorem dX5_init_54 : decode cX5_init 54 = .ok (.putfield 35, 3) := by decide +kernel
theorem dX5_init_57 : decode cX5_init 57 = .ok (.aload_n 0, 1) := by decide +kernel
theorem dX5_init_58 : decode cX5_init 58 = .ok (.iconst 4, 1) := by decide +kernel
theorem dX5_init_59 : decode cX5_init 59 = .ok (.anewarray 33, 3) := by decide +kernel
theorem dX5_init_62 : decode cX5_init 62 = .ok (.putfield 39, 3) := by decide +kernel
theorem dX5_init_65 : decode cX5_init 65 = .ok (.aload_n 0, 1) := by decide +kernel
theorem dX5_init_66 : decode cX5_init 66 = .ok (.iconst 4, 1) := by decide +kernel
theorem dX5_init_67 : decode cX5_init 67 = .ok (.newarray .int, 2) := by decide +kernel
theorem dX5_init_69 : decode cX5_init 69 = .ok (.putfield 42, 3) := by decide +kernel
theorem dX5_init_72 : decode cX5_init 72 = .ok (.iconst 0, 1) := by decide +kernel
theorem dX5_init_73 : decode cX5_init 73 = .ok (.istore_n 1, 1) := by decide +kernel
theorem dX5_init_74 : decode cX5_init 74 = .ok (.iload_n 1, 1) := by decide +kernel
theorem dX5_init_75 : decode cX5_init 75 = .ok (.bipush 24, 2) := by decide +kernel
theorem dX5_init_77 : decode cX5_init 77 = .ok (.if_icmp .ge 22, 3) := by decide +kernel
theorem dX5_init_80 : decode cX5_init 80 = .ok (.aload_n 0, 1) := by decide +kernel
theorem dX5_init_81 : decode cX5_init 81 = .ok (.getfield 11, 3) := by decide +kernel
theorem dX5_init_84 : decode cX5_init 84 = .ok (.iload_n 1, 1) := by decide +kernel
theorem dX5_init_85 : decode cX5_init 85 = .ok (.new 9, 3) := by decide +kernel
theorem dX5_init_88 : decode cX5_init 88 = .ok (.dup, 1) := by decide +kernel
theorem dX5_init_89 : decode cX5_init 89 = .ok (.invokespecial 46, 3) := by decide +kernel
theorem dX5_init_92 : decode cX5_init 92 = .ok (.aastore, 1) := by decide +kernel
theorem dX5_init_93 : decode cX5_init 93 = .ok (.iinc 1 1, 3) := by decide +kernel
theorem dX5_init_96 : decode cX5_init 96 = .ok (.goto (-22), 3) := by decide +kernel
theorem dX5_init_99 : decode cX5_init 99 = .ok (.iconst 0, 1) := by decide +kernel
theorem dX5_init_100 : decode cX5_init 100 = .ok (.istore_n 1, 1) := by decide +kernel
theorem dX5_init_101 : decode cX5_init 101 = .ok (.iload_n 1, 1) := by decide +kernel
theorem dX5_init_102 : decode cX5_init 102 = .ok (.bipush 16, 2) := by decide +kernel
theorem dX5_init_104 : decode cX5_init 104 = .ok (.if_icmp .ge 55, 3) := by decide +kernel
theorem dX5_init_107 : decode cX5_init 107 = .ok (.aload_n 0, 1) := by decide +kernel
theorem dX5_init_108 : decode cX5_init 108 = .ok (.getfield 17, 3) := by decide +kernel
theorem dX5_init_111 : decode cX5_init 111 = .ok (.iload_n 1, 1) := by decide +kernel
theorem dX5_init_112 : decode cX5_init 112 = .ok (.new 15, 3) := by decide +kernel
theorem dX5_init_115 : decode cX5_init 115 = .ok (.dup, 1) := by decide +kernel
theorem dX5_init_116 : decode cX5_init 116 = .ok (.invokespecial 47, 3) := by decide +kernel
theorem dX5_init_119 : decode cX5_init 119 = .ok (.aastore, 1) := by decide +kernel
theorem dX5_init_120 : decode cX5_init 120 = .ok (.aload_n 0, 1) := by decide +kernel
theorem dX5_init_121 : decode cX5_init 121 = .ok (.getfield 23, 3) := by decide +kernel
theorem dX5_init_124 : decode cX5_init 124 = .ok (.iload_n 1, 1) := by decide +kernel
theorem dX5_init_125 : decode cX5_init 125 = .ok (.aload_n 0, 1) := by decide +kernel
theorem dX5_init_126 : decode cX5_init 126 = .ok (.getfield 17, 3) := by decide +kernel
theorem dX5_init_129 : decode cX5_init 129 = .ok (.iload_n 1, 1) := by decide +kernel
theorem dX5_init_130 : decode cX5_init 130 = .ok (.aaload, 1) := by decide +kernel
theorem dX5_init_131 : decode cX5_init 131 = .ok (.getfield 48, 3) := by decide +kernel
theorem dX5_init_134 : decode cX5_init 134 = .ok (.aastore, 1) := by decide +kernel
theorem dX5_init_135 : decode cX5_init 135 = .ok (.aload_n 0, 1) := by decide +kernel
theorem dX5_init_136 : decode cX5_init 136 = .ok (.getfield 23, 3) := by decide +kernel
theorem dX5_init_139 : decode cX5_init 139 = .ok (.bipush 16, 2) := by decide +kernel
theorem dX5_init_141 : decode cX5_init 141 = .ok (.iload_n 1, 1) := by decide +kernel
theorem dX5_init_142 : decode cX5_init 142 = .ok (.iadd, 1) := by decide +kernel
theorem dX5_init_143 : decode cX5_init 143 = .ok (.aload_n 0, 1) := by decide +kernel
theorem dX5_init_144 : decode cX5_init 144 = .ok (.getfield 17, 3) := by decide +kernel
theorem dX5_init_147 : decode cX5_init 147 = .ok (.iload_n 1, 1) := by decide +kernel
theorem dX5_init_148 : decode cX5_init 148 = .ok (.aaload, 1) := by decide +kernel
theorem dX5_init_149 : decode cX5_init 149 = .ok (.getfield 52, 3) := by decide +kernel
theorem dX5_init_152 : decode cX5_init 152 = .ok (.aastore, 1) := by decide +kernel
theorem dX5_init_153 : decode cX5_init 153 = .ok (.iinc 1 1, 3) := by decide +kernel
theorem dX5_init_156 : decode cX5_init 156 = .ok (.goto (-55), 3) := by decide +kernel
theorem dX5_init_159 : decode cX5_init 159 = .ok (.iconst 0, 1) := by decide +kernel
theorem dX5_init_160 : decode cX5_init 160 = .ok (.istore_n 1, 1) := by decide +kernel
theorem dX5_init_161 : decode cX5_init 161 = .ok (.iload_n 1, 1) := by decide +kernel
theorem dX5_init_162 : decode cX5_init 162 = .ok (.bipush 16, 2) := by decide +kernel
theorem dX5_init_164 : decode cX5_init 164 = .ok (.if_icmp .ge 65, 3) := by decide +kernel
theorem dX5_init_167 : decode cX5_init 167 = .ok (.aload_n 0, 1) := by decide +kernel
theorem dX5_init_168 : decode cX5_init 168 = .ok (.getfield 27, 3) := by decide +kernel
theorem dX5_init_171 : decode cX5_init 171 = .ok (.iload_n 1, 1) := by decide +kernel
theorem dX5_init_172 : decode cX5_init 172 = .ok (.new 21, 3) := by decide +kernel
theorem dX5_init_175 : decode cX5_init 175 = .ok (.dup, 1) := by decide +kernel
theorem dX5_init_176 : decode cX5_init 176 = .ok (.invokespecial 55, 3) := by decide +kernel
theorem dX5_init_179 : decode cX5_init 179 = .ok (.aastore, 1) := by decide +kernel
theorem dX5_init_180 : decode cX5_init 180 = .ok (.aload_n 0, 1) := by decide +kernel
theorem dX5_init_181 : decode cX5_init 181 = .ok (.getfield 30, 3) := by decide +kernel
theorem dX5_init_184 : decode cX5_init 184 = .ok (.iload_n 1, 1) := by decide +kernel
theorem dX5_init_185 : decode cX5_init 185 = .ok (.new 21, 3) := by decide +kernel
theorem dX5_init_188 : decode cX5_init 188 = .ok (.dup, 1) := by decide +kernel
theorem dX5_init_189 : decode cX5_init 189 = .ok (.invokespecial 55, 3) := by decide +kernel
theorem dX5_init_192 : decode cX5_init 192 = .ok (.aastore, 1) := by decide +kernel
theorem dX5_init_193 : decode cX5_init 193 = .ok (.aload_n 0, 1) := by decide +kernel
theorem dX5_init_194 : decode cX5_init 194 = .ok (.getfield 23, 3) := by decide +kernel
theorem dX5_init_197 : decode cX5_init 197 = .ok (.bipush 32, 2) := by decide +kernel
theorem dX5_init_199 : decode cX5_init 199 = .ok (.iload_n 1, 1) := by decide +kernel
theorem dX5_init_200 : decode cX5_init 200 = .ok (.iadd, 1) := by decide +kernel
theorem dX5_init_201 : decode cX5_init 201 = .ok (.aload_n 0, 1) := by decide +kernel
theorem dX5_init_202 : decode cX5_init 202 = .ok (.getfield 27, 3) := by decide +kernel
theorem dX5_init_205 : decode cX5_init 205 = .ok (.iload_n 1, 1) := by decide +kernel
theorem dX5_init_206 : decode cX5_init 206 = .ok (.aaload, 1) := by decide +kernel
theorem dX5_init_207 : decode cX5_init 207 = .ok (.aastore, 1) := by decide +kernel
theorem dX5_init_208 : decode cX5_init 208 = .ok (.aload_n 0, 1) := by decide +kernel
theorem dX5_init_209 : decode cX5_init 209 = .ok (.getfield 23, 3) := by decide +kernel
theorem dX5_init_212 : decode cX5_init 212 = .ok (.bipush 48, 2) := by decide +kernel
theorem dX5_init_214 : decode cX5_init 214 = .ok (.iload_n 1, 1) := by decide +kernel
theorem dX5_init_215 : decode cX5_init 215 = .ok (.iadd, 1) := by decide +kernel
theorem dX5_init_216 : decode cX5_init 216 = .ok (.aload_n 0, 1) := by decide +kernel
theorem dX5_init_217 : decode cX5_init 217 = .ok (.getfield 30, 3) := by decide +kernel
theorem dX5_init_220 : decode cX5_init 220 = .ok (.iload_n 1, 1) := by decide +kernel
theorem dX5_init_221 : decode cX5_init 221 = .ok (.aaload, 1) := by decide +kernel
theorem dX5_init_222 : decode cX5_init 222 = .ok (.aastore, 1) := by decide +kernel
theorem dX5_init_223 : decode cX5_init 223 = .ok (.iinc 1 1, 3) := by decide +kernel
theorem dX5_init_226 : decode cX5_init 226 = .ok (.goto (-65), 3) := by decide +kernel
theorem dX5_init_229 : decode cX5_init 229 = .ok (.iconst 0, 1) := by decide +kernel
theorem dX5_init_230 : decode cX5_init 230 = .ok (.istore_n 1, 1) := by decide +kernel
theorem dX5_init_231 : decode cX5_init 231 = .ok (.iload_n 1, 1) := by decide +kernel
theorem dX5_init_232 : decode cX5_init 232 = .ok (.iconst 4, 1) := by decide +kernel
theorem dX5_init_233 : decode cX5_init 233 = .ok (.if_icmp .ge 31, 3) := by decide +kernel
theorem dX5_init_236 : decode cX5_init 236 = .ok (.aload_n 0, 1) := by decide +kernel
theorem dX5_init_237 : decode cX5_init 237 = .ok (.getfield 35, 3) := by decide +kernel
theorem dX5_init_240 : decode cX5_init 240 = .ok (.iload_n 1, 1) := by decide +kernel
theorem dX5_init_241 : decode cX5_init 241 = .ok (.new 33, 3) := by decide +kernel
theorem dX5_init_244 : decode cX5_init 244 = .ok (.dup, 1) := by decide +kernel
theorem dX5_init_245 : decode cX5_init 245 = .ok (.bipush 8, 2) := by decide +kernel
theorem dX5_init_247 : decode cX5_init 247 = .ok (.bipush 8, 2) := by decide +kernel
theorem dX5_init_249 : decode cX5_init 249 = .ok (.invokespecial 56, 3) := by decide +kernel
theorem dX5_init_252 : decode cX5_init 252 = .ok (.aastore, 1) := by decide +kernel
theorem dX5_init_253 : decode cX5_init 253 = .ok (.aload_n 0, 1) := by decide +kernel
theorem dX5_init_254 : decode cX5_init 254 = .ok (.iload_n 1, 1) := by decide +kernel
theorem dX5_init_255 : decode cX5_init 255 = .ok (.invokevirtual 59, 3) := by decide +kernel
theorem dX5_init_258 : decode cX5_init 258 = .ok (.iinc 1 1, 3) := by decide +kernel
theorem dX5_init_261 : decode cX5_init 261 = .ok (.goto (-30), 3) := by decide +kernel
theorem dX5_init_264 : decode cX5_init 264 = .ok (.iconst 0, 1) := by decide +kernel
theorem dX5_init_265 : decode cX5_init 265 = .ok (.istore_n 1, 1) := by decide +kernel
theorem dX5_init_266 : decode cX5_init 266 = .ok (.iload_n 1, 1) := by decide +kernel
theorem dX5_init_267 : decode cX5_init 267 = .ok (.iconst 4, 1) := by decide +kernel
theorem dX5_init_268 : decode cX5_init 268 = .ok (.if_icmp .ge 29, 3) := by decide +kernel
theorem dX5_init_271 : decode cX5_init 271 = .ok (.aload_n 0, 1) := by decide +kernel
theorem dX5_init_272 : decode cX5_init 272 = .ok (.getfield 39, 3) := by decide +kernel
theorem dX5_init_275 : decode cX5_init 275 = .ok (.iload_n 1, 1) := by decide +kernel
theorem dX5_init_276 : decode cX5_init 276 = .ok (.new 33, 3) := by decide +kernel
theorem dX5_init_279 : decode cX5_init 279 = .ok (.dup, 1) := by decide +kernel
theorem dX5_init_280 : decode cX5_init 280 = .ok (.iconst 4, 1) := by decide +kernel
theorem dX5_init_281 : decode cX5_init 281 = .ok (.iconst 4, 1) := by decide +kernel
theorem dX5_init_282 : decode cX5_init 282 = .ok (.invokespecial 56, 3) := by decide +kernel
theorem dX5_init_285 : decode cX5_init 285 = .ok (.aastore, 1) := by decide +kernel
theorem dX5_init_286 : decode cX5_init 286 = .ok (.aload_n 0, 1) := by decide +kernel
theorem dX5_init_287 : decode cX5_init 287 = .ok (.iload_n 1, 1) := by decide +kernel
theorem dX5_init_288 : decode cX5_init 288 = .ok (.invokevirtual 63, 3) := by decide +kernel
theorem dX5_init_291 : decode cX5_init 291 = .ok (.iinc 1 1, 3) := by decide +kernel
theorem dX5_init_294 : decode cX5_init 294 = .ok (.goto (-28), 3) := by decide +kernel
theorem dX5_init_297 : decode cX5_init 297 = .ok (.aload_n 0, 1) := by decide +kernel
theorem dX5_init_298 : decode cX5_init 298 = .ok (.iconst 0, 1) := by decide +kernel
theorem dX5_init_299 : decode cX5_init 299 = .ok (.iconst 5, 1) := by decide +kernel
theorem dX5_init_300 : decode cX5_init 300 = .ok (.bipush 8, 2) := by decide +kernel
theorem dX5_init_302 : decode cX5_init 302 = .ok (.invokevirtual 66, 3) := by decide +kernel
theorem dX5_init_305 : decode cX5_init 305 = .ok (.return_, 1) := by decide +kernel
set_option maxRecDepth 20000 in
theorem ggX5_joinLeaf_X5_southOf : GoodIn wsX5_joinLeaf wsX5_southOf := goodIn_r _ [7, 8, 14, 15, 16, 17, 18, 19, 20, 21, 22, 23, 24, 25, 26] (by decide +kernel) (by decide +kernel)
set_option maxRecDepth 20000 in
theorem gX5_joinLeaf_X5_southOf : GoodIn wsX5_joinLeaf (wsV RX5 76 RX5 yX5_southOf wsX5_southOf) := goodIn_app (goodIn_of _ (by decide +kernel)) ggX5_joinLeaf_X5_southOf
set_option maxRecDepth 20000 in
theorem ggX5_joinLeaf_X5_northOf : GoodIn wsX5_joinLeaf wsX5_northOf := goodIn_r _ [12, 13, 14, 15, 16, 17, 18, 19, 20, 21, 22, 23, 24, 25, 26] (by decide +kernel) (by decide +kernel)
set_option maxRecDepth 20000 in
theorem gX5_joinLeaf_X5_northOf : GoodIn wsX5_joinLeaf (wsV RX5 80 RX5 yX5_northOf wsX5_northOf) := goodIn_app (goodIn_of _ (by decide +kernel)) ggX5_joinLeaf_X5_northOf
theorem dX5_joinLeaf_0 : decode cX5_joinLeaf 0 = .ok (.aload_n 0, 1) := by decide +kernel
theorem dX5_joinLeaf_1 : decode cX5_joinLeaf 1 = .ok (.getfield 35, 3) := by decide +kernel
theorem dX5_joinLeaf_4 : decode cX5_joinLeaf 4 = .ok (.iload_n 1, 1) := by decide +kernel
theorem dX5_joinLeaf_5 : decode cX5_joinLeaf 5 = .ok (.aaload, 1) := by decide +kernel
theorem dX5_joinLeaf_6 : decode cX5_joinLeaf 6 = .ok (.astore_n 2, 1) := by decide +kernel
theorem dX5_joinLeaf_7 : decode cX5_joinLeaf 7 = .ok (.iconst 0, 1) := by decide +kernel
theorem dX5_joinLeaf_8 : decode cX5_joinLeaf 8 = .ok (.istore_n 3, 1) := by decide +kernel
theorem dX5_joinLeaf_9 : decode cX5_joinLeaf 9 = .ok (.iload_n 3, 1) := by decide +kernel
theorem dX5_joinLeaf_10 : decode cX5_joinLeaf 10 = .ok (.iconst 4, 1) := by decide +kernel
theorem dX5_joinLeaf_11 : decode cX5_joinLeaf 11 = .ok (.if_icmp .ge 43, 3) := by decide +kernel
theorem dX5_joinLeaf_14 : decode cX5_joinLeaf 14 = .ok (.aload_n 0, 1) := by decide +kernel
theorem dX5_joinLeaf_15 : decode cX5_joinLeaf 15 = .ok (.getfield 17, 3) := by decide +kernel
theorem dX5_joinLeaf_18 : decode cX5_joinLeaf 18 = .ok (.iload_n 1, 1) := by decide +kernel
theorem dX5_joinLeaf_19 : decode cX5_joinLeaf 19 = .ok (.iconst 4, 1) := by decide +kernel
theorem dX5_joinLeaf_20 : decode cX5_joinLeaf 20 = .ok (.imul, 1) := by decide +kernel
theorem dX5_joinLeaf_21 : decode cX5_joinLeaf 21 = .ok (.iload_n 3, 1) := by decide +kernel
theorem dX5_joinLeaf_22 : decode cX5_joinLeaf 22 = .ok (.iadd, 1) := by decide +kernel
theorem dX5_joinLeaf_23 : decode cX5_joinLeaf 23 = .ok (.aaload, 1) := by decide +kernel
theorem dX5_joinLeaf_24 : decode cX5_joinLeaf 24 = .ok (.astore 4, 2) := by decide +kernel
theorem dX5_joinLeaf_26 : decode cX5_joinLeaf 26 = .ok (.aload_n 2, 1) := by decide +kernel
theorem dX5_joinLeaf_27 : decode cX5_joinLeaf 27 = .ok (.getfield 70, 3) := by decide +kernel
theorem dX5_joinLeaf_30 : decode cX5_joinLeaf 30 = .ok (.iload_n 3, 1) := by decide +kernel
theorem dX5_joinLeaf_31 : decode cX5_joinLeaf 31 = .ok (.aload 4, 2) := by decide +kernel
theorem dX5_joinLeaf_33 : decode cX5_joinLeaf 33 = .ok (.getfield 48, 3) := by decide +kernel
theorem dX5_joinLeaf_36 : decode cX5_joinLeaf 36 = .ok (.aastore, 1) := by decide +kernel
theorem dX5_joinLeaf_37 : decode cX5_joinLeaf 37 = .ok (.aload_n 2, 1) := by decide +kernel
theorem dX5_joinLeaf_38 : decode cX5_joinLeaf 38 = .ok (.getfield 73, 3) := by decide +kernel
theorem dX5_joinLeaf_41 : decode cX5_joinLeaf 41 = .ok (.iload_n 3, 1) := by decide +kernel
theorem dX5_joinLeaf_42 : decode cX5_joinLeaf 42 = .ok (.aload 4, 2) := by decide +kernel
theorem dX5_joinLeaf_44 : decode cX5_joinLeaf 44 = .ok (.getfield 52, 3) := by decide +kernel
theorem dX5_joinLeaf_47 : decode cX5_joinLeaf 47 = .ok (.aastore, 1) := by decide +kernel
theorem dX5_joinLeaf_48 : decode cX5_joinLeaf 48 = .ok (.iinc 3 1, 3) := by decide +kernel
theorem dX5_joinLeaf_51 : decode cX5_joinLeaf 51 = .ok (.goto (-42), 3) := by decide +kernel
theorem dX5_joinLeaf_54 : decode cX5_joinLeaf 54 = .ok (.iconst 0, 1) := by decide +kernel
theorem dX5_joinLeaf_55 : decode cX5_joinLeaf 55 = .ok (.istore_n 3, 1) := by decide +kernel
theorem dX5_joinLeaf_56 : decode cX5_joinLeaf 56 = .ok (.iload_n 3, 1) := by decide +kernel
theorem dX5_joinLeaf_57 : decode cX5_joinLeaf 57 = .ok (.iconst 4, 1) := by decide +kernel
theorem dX5_joinLeaf_58 : decode cX5_joinLeaf 58 = .ok (.if_icmp .ge 37, 3) := by decide +kernel
theorem dX5_joinLeaf_61 : decode cX5_joinLeaf 61 = .ok (.aload_n 2, 1) := by decide +kernel
theorem dX5_joinLeaf_62 : decode cX5_joinLeaf 62 = .ok (.getfield 70, 3) := by decide +kernel
theorem dX5_joinLeaf_65 : decode cX5_joinLeaf 65 = .ok (.iconst 4, 1) := by decide +kernel
theorem dX5_joinLeaf_66 : decode cX5_joinLeaf 66 = .ok (.iload_n 3, 1) := by decide +kernel
theorem dX5_joinLeaf_67 : decode cX5_joinLeaf 67 = .ok (.iadd, 1) := by decide +kernel
theorem dX5_joinLeaf_68 : decode cX5_joinLeaf 68 = .ok (.aload_n 0, 1) := by decide +kernel
theorem dX5_joinLeaf_69 : decode cX5_joinLeaf 69 = .ok (.iload_n 3, 1) := by decide +kernel
theorem dX5_joinLeaf_70 : decode cX5_joinLeaf 70 = .ok (.iload_n 1, 1) := by decide +kernel
theorem dX5_joinLeaf_71 : decode cX5_joinLeaf 71 = .ok (.invokevirtual 76, 3) := by decide +kernel
theorem dX5_joinLeaf_74 : decode cX5_joinLeaf 74 = .ok (.aastore, 1) := by decide +kernel
theorem dX5_joinLeaf_75 : decode cX5_joinLeaf 75 = .ok (.aload_n 2, 1) := by decide +kernel
theorem dX5_joinLeaf_76 : decode cX5_joinLeaf 76 = .ok (.getfield 73, 3) := by decide +kernel
theorem dX5_joinLeaf_79 : decode cX5_joinLeaf 79 = .ok (.iconst 4, 1) := by decide +kernel
theorem dX5_joinLeaf_80 : decode cX5_joinLeaf 80 = .ok (.iload_n 3, 1) := by decide +kernel
theorem dX5_joinLeaf_81 : decode cX5_joinLeaf 81 = .ok (.iadd, 1) := by decide +kernel
theorem dX5_joinLeaf_82 : decode cX5_joinLeaf 82 = .ok (.aload_n 0, 1) := by decide +kernel
theorem dX5_joinLeaf_83 : decode cX5_joinLeaf 83 = .ok (.iload_n 1, 1) := by decide +kernel
theorem dX5_joinLeaf_84 : decode cX5_joinLeaf 84 = .ok (.iload_n 3, 1) := by decide +kernel
theorem dX5_joinLeaf_85 : decode cX5_joinLeaf 85 = .ok (.invokevirtual 80, 3) := by decide +kernel
theorem dX5_joinLeaf_88 : decode cX5_joinLeaf 88 = .ok (.aastore, 1) := by decide +kernel
theorem dX5_joinLeaf_89 : decode cX5_joinLeaf 89 = .ok (.iinc 3 1, 3) := by decide +kernel
theorem dX5_joinLeaf_92 : decode cX5_joinLeaf 92 = .ok (.goto (-36), 3) := by decide +kernel
theorem dX5_joinLeaf_95 : decode cX5_joinLeaf 95 = .ok (.return_, 1) := by decide +kernel
set_option maxRecDepth 20000 in
theorem ggX5_joinSpine_X5_northOf : GoodIn wsX5_joinSpine wsX5_northOf := goodIn_r _ [6, 7, 13, 14, 15, 16, 17, 18, 19, 20, 21, 22, 23, 24, 25] (by decide +kernel) (by decide +kernel)
set_option maxRecDepth 20000 in
theorem gX5_joinSpine_X5_northOf : GoodIn wsX5_joinSpine (wsV RX5 80 RX5 yX5_northOf wsX5_northOf) := goodIn_app (goodIn_of _ (by decide +kernel)) ggX5_joinSpine_X5_northOf
set_option maxRecDepth 20000 in
theorem ggX5_joinSpine_X5_southOf : GoodIn wsX5_joinSpine wsX5_southOf := goodIn_r _ [11, 12, 13, 14, 15, 16, 17, 18, 19, 20, 21, 22, 23, 24, 25] (by decide +kernel) (by decide +kernel)
set_option maxRecDepth 20000 in
theorem gX5_joinSpine_X5_southOf : GoodIn wsX5_joinSpine (wsV RX5 76 RX5 yX5_southOf wsX5_southOf) := goodIn_app (goodIn_of _ (by decide +kernel)) ggX5_joinSpine_X5_southOf
theorem dX5_joinSpine_0 : decode cX5_joinSpine 0 = .ok (.aload_n 0, 1) := by decide +kernel
theorem dX5_joinSpine_1 : decode cX5_joinSpine 1 = .ok (.getfield 39, 3) := by decide +kernel
theorem dX5_joinSpine_4 : decode cX5_joinSpine 4 = .ok (.iload_n 1, 1) := by decide +kernel
theorem dX5_joinSpine_5 : decode cX5_joinSpine 5 = .ok (.aaload, 1) := by decide +kernel
theorem dX5_joinSpine_6 : decode cX5_joinSpine 6 = .ok (.astore_n 2, 1) := by decide +kernel
theorem dX5_joinSpine_7 : decode cX5_joinSpine 7 = .ok (.iconst 0, 1) := by decide +kernel
theorem dX5_joinSpine_8 : decode cX5_joinSpine 8 = .ok (.istore_n 3, 1) := by decide +kernel
theorem dX5_joinSpine_9 : decode cX5_joinSpine 9 = .ok (.iload_n 3, 1) := by decide +kernel
theorem dX5_joinSpine_10 : decode cX5_joinSpine 10 = .ok (.iconst 4, 1) := by decide +kernel
theorem dX5_joinSpine_11 : decode cX5_joinSpine 11 = .ok (.if_icmp .ge 33, 3) := by decide +kernel
theorem dX5_joinSpine_14 : decode cX5_joinSpine 14 = .ok (.aload_n 2, 1) := by decide +kernel
theorem dX5_joinSpine_15 : decode cX5_joinSpine 15 = .ok (.getfield 70, 3) := by decide +kernel
theorem dX5_joinSpine_18 : decode cX5_joinSpine 18 = .ok (.iload_n 3, 1) := by decide +kernel
theorem dX5_joinSpine_19 : decode cX5_joinSpine 19 = .ok (.aload_n 0, 1) := by decide +kernel
theorem dX5_joinSpine_20 : decode cX5_joinSpine 20 = .ok (.iload_n 3, 1) := by decide +kernel
theorem dX5_joinSpine_21 : decode cX5_joinSpine 21 = .ok (.iload_n 1, 1) := by decide +kernel
theorem dX5_joinSpine_22 : decode cX5_joinSpine 22 = .ok (.invokevirtual 80, 3) := by decide +kernel
theorem dX5_joinSpine_25 : decode cX5_joinSpine 25 = .ok (.aastore, 1) := by decide +kernel
theorem dX5_joinSpine_26 : decode cX5_joinSpine 26 = .ok (.aload_n 2, 1) := by decide +kernel
theorem dX5_joinSpine_27 : decode cX5_joinSpine 27 = .ok (.getfield 73, 3) := by decide +kernel
theorem dX5_joinSpine_30 : decode cX5_joinSpine 30 = .ok (.iload_n 3, 1) := by decide +kernel
theorem dX5_joinSpine_31 : decode cX5_joinSpine 31 = .ok (.aload_n 0, 1) := by decide +kernel
theorem dX5_joinSpine_32 : decode cX5_joinSpine 32 = .ok (.iload_n 1, 1) := by decide +kernel
theorem dX5_joinSpine_33 : decode cX5_joinSpine 33 = .ok (.iload_n 3, 1) := by decide +kernel
theorem dX5_joinSpine_34 : decode cX5_joinSpine 34 = .ok (.invokevirtual 76, 3) := by decide +kernel
theorem dX5_joinSpine_37 : decode cX5_joinSpine 37 = .ok (.aastore, 1) := by decide +kernel
theorem dX5_joinSpine_38 : decode cX5_joinSpine 38 = .ok (.iinc 3 1, 3) := by decide +kernel
theorem dX5_joinSpine_41 : decode cX5_joinSpine 41 = .ok (.goto (-32), 3) := by decide +kernel
theorem dX5_joinSpine_44 : decode cX5_joinSpine 44 = .ok (.return_, 1) := by decide +kernel
set_option maxRecDepth 20000 in
theorem ggX5_begin_X2_clear : GoodIn wsX5_begin wsX2_clear := goodIn_r _ [12, 13, 14, 15, 16, 17, 18, 38, 39, 40, 41, 42, 43, 44] (by decide +kernel) (by decide +kernel)
set_option maxRecDepth 20000 in
theorem gX5_begin_X2_clear_n99 : GoodIn wsX5_begin (wsX2_clear) := ggX5_begin_X2_clear
set_option maxRecDepth 20000 in
theorem ggX5_begin_X1_clear : GoodIn wsX5_begin wsX1_clear := goodIn_r _ [22, 23, 24, 45, 46, 47, 48] (by decide +kernel) (by decide +kernel)
set_option maxRecDepth 20000 in
theorem gX5_begin_X1_clear_n102 : GoodIn wsX5_begin (wsX1_clear) := ggX5_begin_X1_clear
theorem dX5_begin_0 : decode cX5_begin 0 = .ok (.aload_n 0, 1) := by decide +kernel
theorem dX5_begin_1 : decode cX5_begin 1 = .ok (.iload_n 1, 1) := by decide +kernel
theorem dX5_begin_2 : decode cX5_begin 2 = .ok (.putfield 83, 3) := by decide +kernel
theorem dX5_begin_5 : decode cX5_begin 5 = .ok (.aload_n 0, 1) := by decide +kernel
theorem dX5_begin_6 : decode cX5_begin 6 = .ok (.iload_n 2, 1) := by decide +kernel
theorem dX5_begin_7 : decode cX5_begin 7 = .ok (.putfield 87, 3) := by decide +kernel
theorem dX5_begin_10 : decode cX5_begin 10 = .ok (.aload_n 0, 1) := by decide +kernel
theorem dX5_begin_11 : decode cX5_begin 11 = .ok (.iload_n 3, 1) := by decide +kernel
theorem dX5_begin_12 : decode cX5_begin 12 = .ok (.putfield 90, 3) := by decide +kernel
theorem dX5_begin_15 : decode cX5_begin 15 = .ok (.aload_n 0, 1) := by decide +kernel
theorem dX5_begin_16 : decode cX5_begin 16 = .ok (.iconst 0, 1) := by decide +kernel
theorem dX5_begin_17 : decode cX5_begin 17 = .ok (.putfield 93, 3) := by decide +kernel
theorem dX5_begin_20 : decode cX5_begin 20 = .ok (.aload_n 0, 1) := by decide +kernel
theorem dX5_begin_21 : decode cX5_begin 21 = .ok (.iconst 0, 1) := by decide +kernel
theorem dX5_begin_22 : decode cX5_begin 22 = .ok (.putfield 96, 3) := by decide +kernel
theorem dX5_begin_25 : decode cX5_begin 25 = .ok (.iconst 0, 1) := by decide +kernel
theorem dX5_begin_26 : decode cX5_begin 26 = .ok (.istore 4, 2) := by decide +kernel
theorem dX5_begin_28 : decode cX5_begin 28 = .ok (.iload 4, 2) := by decide +kernel
theorem dX5_begin_30 : decode cX5_begin 30 = .ok (.aload_n 0, 1) := by decide +kernel
theorem dX5_begin_31 : decode cX5_begin 31 = .ok (.getfield 23, 3) := by decide +kernel
theorem dX5_begin_34 : decode cX5_begin 34 = .ok (.arraylength, 1) := by decide +kernel
theorem dX5_begin_35 : decode cX5_begin 35 = .ok (.if_icmp .ge 19, 3) := by decide +kernel
theorem dX5_begin_38 : decode cX5_begin 38 = .ok (.aload_n 0, 1) := by decide +kernel
theorem dX5_begin_39 : decode cX5_begin 39 = .ok (.getfield 23, 3) := by decide +kernel
theorem dX5_begin_42 : decode cX5_begin 42 = .ok (.iload 4, 2) := by decide +kernel
theorem dX5_begin_44 : decode cX5_begin 44 = .ok (.aaload, 1) := by decide +kernel
theorem dX5_begin_45 : decode cX5_begin 45 = .ok (.invokevirtual 99, 3) := by decide +kernel
theorem dX5_begin_48 : decode cX5_begin 48 = .ok (.iinc 4 1, 3) := by decide +kernel
theorem dX5_begin_51 : decode cX5_begin 51 = .ok (.goto (-23), 3) := by decide +kernel
theorem dX5_begin_54 : decode cX5_begin 54 = .ok (.iconst 0, 1) := by decide +kernel
theorem dX5_begin_55 : decode cX5_begin 55 = .ok (.istore 4, 2) := by decide +kernel
theorem dX5_begin_57 : decode cX5_begin 57 = .ok (.iload 4, 2) := by decide +kernel
theorem dX5_begin_59 : decode cX5_begin 59 = .ok (.bipush 16, 2) := by decide +kernel
theorem dX5_begin_61 : decode cX5_begin 61 = .ok (.if_icmp .ge 19, 3) := by decide +kernel
theorem dX5_begin_64 : decode cX5_begin 64 = .ok (.aload_n 0, 1) := by decide +kernel
theorem dX5_begin_65 : decode cX5_begin 65 = .ok (.getfield 17, 3) := by decide +kernel
theorem dX5_begin_68 : decode cX5_begin 68 = .ok (.iload 4, 2) := by decide +kernel
theorem dX5_begin_70 : decode cX5_begin 70 = .ok (.aaload, 1) := by decide +kernel
theorem dX5_begin_71 : decode cX5_begin 71 = .ok (.invokevirtual 102, 3) := by decide +kernel
theorem dX5_begin_74 : decode cX5_begin 74 = .ok (.iinc 4 1, 3) := by decide +kernel
theorem dX5_begin_77 : decode cX5_begin 77 = .ok (.goto (-20), 3) := by decide +kernel
theorem dX5_begin_80 : decode cX5_begin 80 = .ok (.iconst 0, 1) := by decide +kernel
theorem dX5_begin_81 : decode cX5_begin 81 = .ok (.istore 4, 2) := by decide +kernel
theorem dX5_begin_83 : decode cX5_begin 83 = .ok (.iload 4, 2) := by decide +kernel
theorem dX5_begin_85 : decode cX5_begin 85 = .ok (.iconst 4, 1) := by decide +kernel
theorem dX5_begin_86 : decode cX5_begin 86 = .ok (.if_icmp .ge 18, 3) := by decide +kernel
theorem dX5_begin_89 : decode cX5_begin 89 = .ok (.aload_n 0, 1) := by decide +kernel
theorem dX5_begin_90 : decode cX5_begin 90 = .ok (.getfield 42, 3) := by decide +kernel
theorem dX5_begin_93 : decode cX5_begin 93 = .ok (.iload 4, 2) := by decide +kernel
theorem dX5_begin_95 : decode cX5_begin 95 = .ok (.bipush 15, 2) := by decide +kernel
theorem dX5_begin_97 : decode cX5_begin 97 = .ok (.iastore, 1) := by decide +kernel
theorem dX5_begin_98 : decode cX5_begin 98 = .ok (.iinc 4 1, 3) := by decide +kernel
theorem dX5_begin_101 : decode cX5_begin 101 = .ok (.goto (-18), 3) := by decide +kernel
theorem dX5_begin_104 : decode cX5_begin 104 = .ok (.return_, 1) := by decide +kernel
set_option maxRecDepth 20000 in
theorem ggX5_reset_X5_isOutside : GoodIn wsX5_reset wsX5_isOutside := goodIn_r _ [6] (by decide +kernel) (by decide +kernel)
set_option maxRecDepth 20000 in
theorem gX5_reset_X5_isOutside : GoodIn wsX5_reset (va_wsS RX5 103 yX5_isOutside wsX5_isOutside) := goodIn_app (goodIn_of _ (by decide +kernel)) ggX5_reset_X5_isOutside
set_option maxRecDepth 20000 in
theorem ggX5_reset_X5_begin : GoodIn wsX5_reset wsX5_begin := goodIn_r _ [10, 11, 12, 13, 14, 15, 16, 17, 18, 19, 20, 21, 22, 23, 24, 25, 26, 27, 28, 29, 30, 31, 32, 33, 34, 35, 36, 37, 38, 39, 40, 41, 42, 43, 44, 45, 46, 47, 48, 49, 50, 51, 52, 53, 54, 55, 56, 57, 58] (by decide +kernel) (by decide +kernel)
set_option maxRecDepth 20000 in
theorem gX5_reset_X5_begin : GoodIn wsX5_reset (wsV RX5 66 RX5 yX5_begin wsX5_begin) := goodIn_app (goodIn_of _ (by decide +kernel)) ggX5_reset_X5_begin
theorem dX5_reset_0 : decode cX5_reset 0 = .ok (.iload_n 1, 1) := by decide +kernel
theorem dX5_reset_1 : decode cX5_reset 1 = .ok (.iconst 0, 1) := by decide +kernel
theorem dX5_reset_2 : decode cX5_reset 2 = .ok (.iconst 5, 1) := by decide +kernel
theorem dX5_reset_3 : decode cX5_reset 3 = .ok (.invokestatic 103, 3) := by decide +kernel
theorem dX5_reset_6 : decode cX5_reset 6 = .ok (.ifCond .ne 23, 3) := by decide +kernel
theorem dX5_reset_9 : decode cX5_reset 9 = .ok (.iload_n 2, 1) := by decide +kernel
theorem dX5_reset_10 : decode cX5_reset 10 = .ok (.iconst 1, 1) := by decide +kernel
theorem dX5_reset_11 : decode cX5_reset 11 = .ok (.bipush 50, 2) := by decide +kernel
theorem dX5_reset_13 : decode cX5_reset 13 = .ok (.invokestatic 103, 3) := by decide +kernel
theorem dX5_reset_16 : decode cX5_reset 16 = .ok (.ifCond .ne 13, 3) := by decide +kernel
theorem dX5_reset_19 : decode cX5_reset 19 = .ok (.iload_n 3, 1) := by decide +kernel
theorem dX5_reset_20 : decode cX5_reset 20 = .ok (.iconst 1, 1) := by decide +kernel
theorem dX5_reset_21 : decode cX5_reset 21 = .ok (.bipush 16, 2) := by decide +kernel
theorem dX5_reset_23 : decode cX5_reset 23 = .ok (.invokestatic 103, 3) := by decide +kernel
theorem dX5_reset_26 : decode cX5_reset 26 = .ok (.ifCond .eq 13, 3) := by decide +kernel
theorem dX5_reset_29 : decode cX5_reset 29 = .ok (.new 107, 3) := by decide +kernel
theorem dX5_reset_32 : decode cX5_reset 32 = .ok (.dup, 1) := by decide +kernel
theorem dX5_reset_33 : decode cX5_reset 33 = .ok (.ldc 109, 2) := by decide +kernel
theorem dX5_reset_35 : decode cX5_reset 35 = .ok (.invokespecial 111, 3) := by decide +kernel
theorem dX5_reset_38 : decode cX5_reset 38 = .ok (.athrow, 1) := by decide +kernel
theorem dX5_reset_39 : decode cX5_reset 39 = .ok (.aload_n 0, 1) := by decide +kernel
theorem dX5_reset_40 : decode cX5_reset 40 = .ok (.iload_n 1, 1) := by decide +kernel
theorem dX5_reset_41 : decode cX5_reset 41 = .ok (.iload_n 2, 1) := by decide +kernel
theorem dX5_reset_42 : decode cX5_reset 42 = .ok (.iload_n 3, 1) := by decide +kernel
theorem dX5_reset_43 : decode cX5_reset 43 = .ok (.invokevirtual 66, 3) := by decide +kernel
theorem dX5_reset_46 : decode cX5_reset 46 = .ok (.return_, 1) := by decide +kernel
set_option maxRecDepth 20000 in
theorem ggX5_addFlow_X5_checkHost : GoodIn wsX5_addFlow wsX5_checkHost := goodIn_ca (goodIn_r _ [11, 1, 2, 12, 13, 10, 14] (by decide +kernel) (by decide +kernel)) (goodIn_sub (fun _ h => List.mem_cons_of_mem _ (List.mem_append_left _ (List.mem_append_right _ h))) (by decide +kernel))
set_option maxRecDepth 20000 in
theorem gX5_addFlow_X5_checkHost : GoodIn wsX5_addFlow (va_wsS RX5 114 yX5_checkHost wsX5_checkHost) := goodIn_app (goodIn_of _ (by decide +kernel)) ggX5_addFlow_X5_checkHost
set_option maxRecDepth 20000 in
theorem ggX5_addFlow_X5_isOutside : GoodIn wsX5_addFlow wsX5_isOutside := goodIn_r _ [14] (by decide +kernel) (by decide +kernel)
set_option maxRecDepth 20000 in
theorem gX5_addFlow_X5_isOutside : GoodIn wsX5_addFlow (va_wsS RX5 103 yX5_isOutside wsX5_isOutside) := goodIn_app (goodIn_of _ (by decide +kernel)) ggX5_addFlow_X5_isOutside
set_option maxRecDepth 20000 in
theorem ggX5_addFlow_X0_begin : GoodIn wsX5_addFlow wsX0_begin := goodIn_r _ [18, 19, 20, 21, 22, 23, 24, 25, 26, 27, 28, 29, 30, 31, 45, 46, 47, 48, 49, 50, 51, 52, 53, 54, 55, 56, 57] (by decide +kernel) (by decide +kernel)
set_option maxRecDepth 20000 in
theorem gX5_addFlow_X0_begin_n126 : GoodIn wsX5_addFlow (wsX0_begin) := ggX5_addFlow_X0_begin
theorem dX5_addFlow_0 : decode cX5_addFlow 0 = .ok (.iload_n 1, 1) := by decide +kernel
theorem dX5_addFlow_1 : decode cX5_addFlow 1 = .ok (.invokestatic 114, 3) := by decide +kernel
theorem dX5_addFlow_4 : decode cX5_addFlow 4 = .ok (.iload_n 2, 1) := by decide +kernel
theorem dX5_addFlow_5 : decode cX5_addFlow 5 = .ok (.invokestatic 114, 3) := by decide +kernel
theorem dX5_addFlow_8 : decode cX5_addFlow 8 = .ok (.iload_n 2, 1) := by decide +kernel
theorem dX5_addFlow_9 : decode cX5_addFlow 9 = .ok (.iload_n 1, 1) := by decide +kernel
theorem dX5_addFlow_10 : decode cX5_addFlow 10 = .ok (.if_icmp .ne 13, 3) := by decide +kernel
theorem dX5_addFlow_13 : decode cX5_addFlow 13 = .ok (.new 107, 3) := by decide +kernel
theorem dX5_addFlow_16 : decode cX5_addFlow 16 = .ok (.dup, 1) := by decide +kernel
theorem dX5_addFlow_17 : decode cX5_addFlow 17 = .ok (.ldc 117, 2) := by decide +kernel
theorem dX5_addFlow_19 : decode cX5_addFlow 19 = .ok (.invokespecial 111, 3) := by decide +kernel
theorem dX5_addFlow_22 : decode cX5_addFlow 22 = .ok (.athrow, 1) := by decide +kernel
theorem dX5_addFlow_23 : decode cX5_addFlow 23 = .ok (.iload_n 3, 1) := by decide +kernel
theorem dX5_addFlow_24 : decode cX5_addFlow 24 = .ok (.iconst 1, 1) := by decide +kernel
theorem dX5_addFlow_25 : decode cX5_addFlow 25 = .ok (.bipush 100, 2) := by decide +kernel
theorem dX5_addFlow_27 : decode cX5_addFlow 27 = .ok (.invokestatic 103, 3) := by decide +kernel
theorem dX5_addFlow_30 : decode cX5_addFlow 30 = .ok (.ifCond .ne 14, 3) := by decide +kernel
theorem dX5_addFlow_33 : decode cX5_addFlow 33 = .ok (.iload 4, 2) := by decide +kernel
theorem dX5_addFlow_35 : decode cX5_addFlow 35 = .ok (.iconst 0, 1) := by decide +kernel
theorem dX5_addFlow_36 : decode cX5_addFlow 36 = .ok (.bipush 100, 2) := by decide +kernel
theorem dX5_addFlow_38 : decode cX5_addFlow 38 = .ok (.invokestatic 103, 3) := by decide +kernel
theorem dX5_addFlow_41 : decode cX5_addFlow 41 = .ok (.ifCond .eq 13, 3) := by decide +kernel
theorem dX5_addFlow_44 : decode cX5_addFlow 44 = .ok (.new 107, 3) := by decide +kernel
theorem dX5_addFlow_47 : decode cX5_addFlow 47 = .ok (.dup, 1) := by decide +kernel
theorem dX5_addFlow_48 : decode cX5_addFlow 48 = .ok (.ldc 119, 2) := by decide +kernel
theorem dX5_addFlow_50 : decode cX5_addFlow 50 = .ok (.invokespecial 111, 3) := by decide +kernel
theorem dX5_addFlow_53 : decode cX5_addFlow 53 = .ok (.athrow, 1) := by decide +kernel
theorem dX5_addFlow_54 : decode cX5_addFlow 54 = .ok (.aload_n 0, 1) := by decide +kernel
theorem dX5_addFlow_55 : decode cX5_addFlow 55 = .ok (.getfield 93, 3) := by decide +kernel
theorem dX5_addFlow_58 : decode cX5_addFlow 58 = .ok (.bipush 24, 2) := by decide +kernel
theorem dX5_addFlow_60 : decode cX5_addFlow 60 = .ok (.if_icmp .lt 13, 3) := by decide +kernel
theorem dX5_addFlow_63 : decode cX5_addFlow 63 = .ok (.new 121, 3) := by decide +kernel
theorem dX5_addFlow_66 : decode cX5_addFlow 66 = .ok (.dup, 1) := by decide +kernel
theorem dX5_addFlow_67 : decode cX5_addFlow 67 = .ok (.ldc 123, 2) := by decide +kernel
theorem dX5_addFlow_69 : decode cX5_addFlow 69 = .ok (.invokespecial 125, 3) := by decide +kernel
theorem dX5_addFlow_72 : decode cX5_addFlow 72 = .ok (.athrow, 1) := by decide +kernel
theorem dX5_addFlow_73 : decode cX5_addFlow 73 = .ok (.aload_n 0, 1) := by decide +kernel
theorem dX5_addFlow_74 : decode cX5_addFlow 74 = .ok (.getfield 11, 3) := by decide +kernel
theorem dX5_addFlow_77 : decode cX5_addFlow 77 = .ok (.aload_n 0, 1) := by decide +kernel
theorem dX5_addFlow_78 : decode cX5_addFlow 78 = .ok (.getfield 93, 3) := by decide +kernel
theorem dX5_addFlow_81 : decode cX5_addFlow 81 = .ok (.aaload, 1) := by decide +kernel
theorem dX5_addFlow_82 : decode cX5_addFlow 82 = .ok (.iload_n 1, 1) := by decide +kernel
theorem dX5_addFlow_83 : decode cX5_addFlow 83 = .ok (.iload_n 2, 1) := by decide +kernel
theorem dX5_addFlow_84 : decode cX5_addFlow 84 = .ok (.iload_n 3, 1) := by decide +kernel
theorem dX5_addFlow_85 : decode cX5_addFlow 85 = .ok (.aload_n 0, 1) := by decide +kernel
theorem dX5_addFlow_86 : decode cX5_addFlow 86 = .ok (.getfield 96, 3) := by decide +kernel
theorem dX5_addFlow_89 : decode cX5_addFlow 89 = .ok (.iload 4, 2) := by decide +kernel
theorem dX5_addFlow_91 : decode cX5_addFlow 91 = .ok (.iadd, 1) := by decide +kernel
theorem dX5_addFlow_92 : decode cX5_addFlow 92 = .ok (.invokevirtual 126, 3) := by decide +kernel
theorem dX5_addFlow_95 : decode cX5_addFlow 95 = .ok (.aload_n 0, 1) := by decide +kernel
theorem dX5_addFlow_96 : decode cX5_addFlow 96 = .ok (.dup, 1) := by decide +kernel
theorem dX5_addFlow_97 : decode cX5_addFlow 97 = .ok (.getfield 93, 3) := by decide +kernel
theorem dX5_addFlow_100 : decode cX5_addFlow 100 = .ok (.iconst 1, 1) := by decide +kernel
theorem dX5_addFlow_101 : decode cX5_addFlow 101 = .ok (.iadd, 1) := by decide +kernel
theorem dX5_addFlow_102 : decode cX5_addFlow 102 = .ok (.putfield 93, 3) := by decide +kernel
theorem dX5_addFlow_105 : decode cX5_addFlow 105 = .ok (.aload_n 0, 1) := by decide +kernel
theorem dX5_addFlow_106 : decode cX5_addFlow 106 = .ok (.getfield 93, 3) := by decide +kernel
theorem dX5_addFlow_109 : decode cX5_addFlow 109 = .ok (.iconst 1, 1) := by decide +kernel
theorem dX5_addFlow_110 : decode cX5_addFlow 110 = .ok (.isub, 1) := by decide +kernel
theorem dX5_addFlow_111 : decode cX5_addFlow 111 = .ok (.ireturn, 1) := by decide +kernel
set_option maxRecDepth 20000 in
theorem ggX5_cut_X5_checkConnection : GoodIn wsX5_cut wsX5_checkConnection := goodIn_ca (goodIn_r _ [7, 8, 9, 10, 11, 6, 12] (by decide +kernel) (by decide +kernel)) (goodIn_sub (fun _ h => List.mem_cons_of_mem _ (List.mem_append_right _ h)) (by decide +kernel))
set_option maxRecDepth 20000 in
theorem gX5_cut_X5_checkConnection : GoodIn wsX5_cut (va_wsS RX5 129 yX5_checkConnection wsX5_checkConnection) := goodIn_app (goodIn_of _ (by decide +kernel)) ggX5_cut_X5_checkConnection
set_option maxRecDepth 20000 in
theorem ggX5_cut_X5_isCut : GoodIn wsX5_cut wsX5_isCut := goodIn_r _ [16, 3, 27, 28, 29, 30, 31, 32, 33, 34, 35, 36, 37, 38, 39] (by decide +kernel) (by decide +kernel)
set_option maxRecDepth 20000 in
theorem gX5_cut_X5_isCut : GoodIn wsX5_cut (wsV RX5 132 RX5 yX5_isCut wsX5_isCut) := goodIn_app (goodIn_of _ (by decide +kernel)) ggX5_cut_X5_isCut
set_option maxRecDepth 20000 in
theorem ggX5_cut_X5_northOf : GoodIn wsX5_cut wsX5_northOf := goodIn_r _ [20, 21, 27, 28, 29, 30, 31, 32, 33, 34, 35, 36, 37, 38, 39] (by decide +kernel) (by decide +kernel)
set_option maxRecDepth 20000 in
theorem gX5_cut_X5_northOf : GoodIn wsX5_cut (wsV RX5 80 RX5 yX5_northOf wsX5_northOf) := goodIn_app (goodIn_of _ (by decide +kernel)) ggX5_cut_X5_northOf
set_option maxRecDepth 20000 in
theorem ggX5_cut_X5_southOf : GoodIn wsX5_cut wsX5_southOf := goodIn_r _ [25, 26, 27, 28, 29, 30, 31, 32, 33, 34, 35, 36, 37, 38, 39] (by decide +kernel) (by decide +kernel)
set_option maxRecDepth 20000 in
theorem gX5_cut_X5_southOf : GoodIn wsX5_cut (wsV RX5 76 RX5 yX5_southOf wsX5_southOf) := goodIn_app (goodIn_of _ (by decide +kernel)) ggX5_cut_X5_southOf
theorem dX5_cut_0 : decode cX5_cut 0 = .ok (.iload_n 1, 1) := by decide +kernel
theorem dX5_cut_1 : decode cX5_cut 1 = .ok (.iload_n 2, 1) := by decide +kernel
theorem dX5_cut_2 : decode cX5_cut 2 = .ok (.invokestatic 129, 3) := by decide +kernel
theorem dX5_cut_5 : decode cX5_cut 5 = .ok (.aload_n 0, 1) := by decide +kernel
theorem dX5_cut_6 : decode cX5_cut 6 = .ok (.iload_n 1, 1) := by decide +kernel
theorem dX5_cut_7 : decode cX5_cut 7 = .ok (.iload_n 2, 1) := by decide +kernel
theorem dX5_cut_8 : decode cX5_cut 8 = .ok (.invokevirtual 132, 3) := by decide +kernel
theorem dX5_cut_11 : decode cX5_cut 11 = .ok (.ifCond .eq 13, 3) := by decide +kernel
theorem dX5_cut_14 : decode cX5_cut 14 = .ok (.new 121, 3) := by decide +kernel
theorem dX5_cut_17 : decode cX5_cut 17 = .ok (.dup, 1) := by decide +kernel
theorem dX5_cut_18 : decode cX5_cut 18 = .ok (.ldc 136, 2) := by decide +kernel
theorem dX5_cut_20 : decode cX5_cut 20 = .ok (.invokespecial 125, 3) := by decide +kernel
theorem dX5_cut_23 : decode cX5_cut 23 = .ok (.athrow, 1) := by decide +kernel
theorem dX5_cut_24 : decode cX5_cut 24 = .ok (.aload_n 0, 1) := by decide +kernel
theorem dX5_cut_25 : decode cX5_cut 25 = .ok (.getfield 42, 3) := by decide +kernel
theorem dX5_cut_28 : decode cX5_cut 28 = .ok (.iload_n 1, 1) := by decide +kernel
theorem dX5_cut_29 : decode cX5_cut 29 = .ok (.dup2, 1) := by decide +kernel
theorem dX5_cut_30 : decode cX5_cut 30 = .ok (.iaload, 1) := by decide +kernel
theorem dX5_cut_31 : decode cX5_cut 31 = .ok (.iconst 1, 1) := by decide +kernel
theorem dX5_cut_32 : decode cX5_cut 32 = .ok (.iload_n 2, 1) := by decide +kernel
theorem dX5_cut_33 : decode cX5_cut 33 = .ok (.ishl, 1) := by decide +kernel
theorem dX5_cut_34 : decode cX5_cut 34 = .ok (.iconst (-1), 1) := by decide +kernel
theorem dX5_cut_35 : decode cX5_cut 35 = .ok (.ixor, 1) := by decide +kernel
theorem dX5_cut_36 : decode cX5_cut 36 = .ok (.iand, 1) := by decide +kernel
theorem dX5_cut_37 : decode cX5_cut 37 = .ok (.iastore, 1) := by decide +kernel
theorem dX5_cut_38 : decode cX5_cut 38 = .ok (.aload_n 0, 1) := by decide +kernel
theorem dX5_cut_39 : decode cX5_cut 39 = .ok (.iload_n 1, 1) := by decide +kernel
theorem dX5_cut_40 : decode cX5_cut 40 = .ok (.iload_n 2, 1) := by decide +kernel
theorem dX5_cut_41 : decode cX5_cut 41 = .ok (.invokevirtual 80, 3) := by decide +kernel
theorem dX5_cut_44 : decode cX5_cut 44 = .ok (.getfield 138, 3) := by decide +kernel
theorem dX5_cut_47 : decode cX5_cut 47 = .ok (.aload_n 0, 1) := by decide +kernel
theorem dX5_cut_48 : decode cX5_cut 48 = .ok (.iload_n 2, 1) := by decide +kernel
theorem dX5_cut_49 : decode cX5_cut 49 = .ok (.iload_n 1, 1) := by decide +kernel
theorem dX5_cut_50 : decode cX5_cut 50 = .ok (.invokevirtual 76, 3) := by decide +kernel
theorem dX5_cut_53 : decode cX5_cut 53 = .ok (.getfield 138, 3) := by decide +kernel
theorem dX5_cut_56 : decode cX5_cut 56 = .ok (.iadd, 1) := by decide +kernel
theorem dX5_cut_57 : decode cX5_cut 57 = .ok (.ireturn, 1) := by decide +kernel
set_option maxRecDepth 20000 in
theorem ggX5_restore_X5_checkConnection : GoodIn wsX5_restore wsX5_checkConnection := goodIn_ca (goodIn_r _ [7, 8, 9, 10, 11, 6, 12] (by decide +kernel) (by decide +kernel)) (goodIn_sub (fun _ h => List.mem_cons_of_mem _ (List.mem_append_right _ h)) (by decide +kernel))
set_option maxRecDepth 20000 in
theorem gX5_restore_X5_checkConnection : GoodIn wsX5_restore (va_wsS RX5 129 yX5_checkConnection wsX5_checkConnection) := goodIn_app (goodIn_of _ (by decide +kernel)) ggX5_restore_X5_checkConnection
set_option maxRecDepth 20000 in
theorem ggX5_restore_X5_isCut : GoodIn wsX5_restore wsX5_isCut := goodIn_r _ [16, 3, 24, 25, 26, 27, 28, 29, 30, 31, 32, 33, 34, 35, 36] (by decide +kernel) (by decide +kernel)
set_option maxRecDepth 20000 in
theorem gX5_restore_X5_isCut : GoodIn wsX5_restore (wsV RX5 132 RX5 yX5_isCut wsX5_isCut) := goodIn_app (goodIn_of _ (by decide +kernel)) ggX5_restore_X5_isCut
set_option maxRecDepth 20000 in
theorem ggX5_restore_J6_bitCount_0f7a4 : GoodIn wsX5_restore wsJ6_bitCount_0f7a4 := goodIn_r _ [20, 21, 22, 23] (by decide +kernel) (by decide +kernel)
set_option maxRecDepth 20000 in
theorem gX5_restore_J6_bitCount_0f7a4 : GoodIn wsX5_restore (va_wsS RX5 143 yJ6_bitCount_0f7a4 wsJ6_bitCount_0f7a4) := goodIn_app (goodIn_of _ (by decide +kernel)) ggX5_restore_J6_bitCount_0f7a4
theorem dX5_restore_0 : decode cX5_restore 0 = .ok (.iload_n 1, 1) := by decide +kernel
theorem dX5_restore_1 : decode cX5_restore 1 = .ok (.iload_n 2, 1) := by decide +kernel
theorem dX5_restore_2 : decode cX5_restore 2 = .ok (.invokestatic 129, 3) := by decide +kernel
theorem dX5_restore_5 : decode cX5_restore 5 = .ok (.aload_n 0, 1) := by decide +kernel
theorem dX5_restore_6 : decode cX5_restore 6 = .ok (.iload_n 1, 1) := by decide +kernel
theorem dX5_restore_7 : decode cX5_restore 7 = .ok (.iload_n 2, 1) := by decide +kernel
theorem dX5_restore_8 : decode cX5_restore 8 = .ok (.invokevirtual 132, 3) := by decide +kernel
theorem dX5_restore_11 : decode cX5_restore 11 = .ok (.ifCond .ne 13, 3) := by decide +kernel
theorem dX5_restore_14 : decode cX5_restore 14 = .ok (.new 121, 3) := by decide +kernel
theorem dX5_restore_17 : decode cX5_restore 17 = .ok (.dup, 1) := by decide +kernel
theorem dX5_restore_18 : decode cX5_restore 18 = .ok (.ldc 141, 2) := by decide +kernel
theorem dX5_restore_20 : decode cX5_restore 20 = .ok (.invokespecial 125, 3) := by decide +kernel
theorem dX5_restore_23 : decode cX5_restore 23 = .ok (.athrow, 1) := by decide +kernel
theorem dX5_restore_24 : decode cX5_restore 24 = .ok (.aload_n 0, 1) := by decide +kernel
theorem dX5_restore_25 : decode cX5_restore 25 = .ok (.getfield 42, 3) := by decide +kernel
theorem dX5_restore_28 : decode cX5_restore 28 = .ok (.iload_n 1, 1) := by decide +kernel
theorem dX5_restore_29 : decode cX5_restore 29 = .ok (.dup2, 1) := by decide +kernel
theorem dX5_restore_30 : decode cX5_restore 30 = .ok (.iaload, 1) := by decide +kernel
theorem dX5_restore_31 : decode cX5_restore 31 = .ok (.iconst 1, 1) := by decide +kernel
theorem dX5_restore_32 : decode cX5_restore 32 = .ok (.iload_n 2, 1) := by decide +kernel
theorem dX5_restore_33 : decode cX5_restore 33 = .ok (.ishl, 1) := by decide +kernel
theorem dX5_restore_34 : decode cX5_restore 34 = .ok (.ior, 1) := by decide +kernel
theorem dX5_restore_35 : decode cX5_restore 35 = .ok (.iastore, 1) := by decide +kernel
theorem dX5_restore_36 : decode cX5_restore 36 = .ok (.bipush 16, 2) := by decide +kernel
theorem dX5_restore_38 : decode cX5_restore 38 = .ok (.istore_n 3, 1) := by decide +kernel
theorem dX5_restore_39 : decode cX5_restore 39 = .ok (.iconst 0, 1) := by decide +kernel
theorem dX5_restore_40 : decode cX5_restore 40 = .ok (.istore 4, 2) := by decide +kernel
theorem dX5_restore_42 : decode cX5_restore 42 = .ok (.iload 4, 2) := by decide +kernel
theorem dX5_restore_44 : decode cX5_restore 44 = .ok (.iconst 4, 1) := by decide +kernel
theorem dX5_restore_45 : decode cX5_restore 45 = .ok (.if_icmp .ge 22, 3) := by decide +kernel
theorem dX5_restore_48 : decode cX5_restore 48 = .ok (.iload_n 3, 1) := by decide +kernel
theorem dX5_restore_49 : decode cX5_restore 49 = .ok (.aload_n 0, 1) := by decide +kernel
theorem dX5_restore_50 : decode cX5_restore 50 = .ok (.getfield 42, 3) := by decide +kernel
theorem dX5_restore_53 : decode cX5_restore 53 = .ok (.iload 4, 2) := by decide +kernel
theorem dX5_restore_55 : decode cX5_restore 55 = .ok (.iaload, 1) := by decide +kernel
theorem dX5_restore_56 : decode cX5_restore 56 = .ok (.invokestatic 143, 3) := by decide +kernel
theorem dX5_restore_59 : decode cX5_restore 59 = .ok (.isub, 1) := by decide +kernel
theorem dX5_restore_60 : decode cX5_restore 60 = .ok (.istore_n 3, 1) := by decide +kernel
theorem dX5_restore_61 : decode cX5_restore 61 = .ok (.iinc 4 1, 3) := by decide +kernel
theorem dX5_restore_64 : decode cX5_restore 64 = .ok (.goto (-22), 3) := by decide +kernel
theorem dX5_restore_67 : decode cX5_restore 67 = .ok (.iload_n 3, 1) := by decide +kernel
theorem dX5_restore_68 : decode cX5_restore 68 = .ok (.ireturn, 1) := by decide +kernel
set_option maxRecDepth 20000 in
theorem ggX5_pass_X5_isOutside : GoodIn wsX5_pass wsX5_isOutside := goodIn_r _ [10] (by decide +kernel) (by decide +kernel)
set_option maxRecDepth 20000 in
theorem gX5_pass_X5_isOutside : GoodIn wsX5_pass (va_wsS RX5 103 yX5_isOutside wsX5_isOutside) := goodIn_app (goodIn_of _ (by decide +kernel)) ggX5_pass_X5_isOutside
set_option maxRecDepth 20000 in
theorem ggX5_pass_X5_runTick : GoodIn wsX5_pass wsX5_runTick := goodIn_r _ [14, 5, 15, 16, 17, 18, 9, 19, 20, 21, 22, 23, 24, 25, 26, 27, 28, 29, 30, 31, 32, 33, 34, 35, 36, 37, 38, 39, 40, 41, 42, 43, 44, 45, 46, 47, 48, 49, 50, 51, 52, 53, 54, 55, 56, 57, 58, 59, 60, 61, 62, 63, 64, 65, 66, 67, 68, 69, 70, 71, 72, 73, 74, 75, 76, 77, 78, 79, 80, 81, 82, 83, 84, 85, 86, 87, 88, 89, 90, 91, 92, 93, 94, 95, 96, 97, 98, 99, 100, 101, 102, 103, 104, 105, 106, 107, 108, 109, 110, 111, 112, 113, 114, 115, 116, 117, 118, 119, 120, 121, 122, 123, 124, 125, 126, 127, 128, 129, 130, 131, 132, 133, 134, 135, 136, 137, 138, 139, 140, 141, 142, 143, 144, 145, 146, 147, 148, 149, 150, 151, 152, 153, 154, 155, 156, 157, 158, 159, 160, 161, 162, 163, 164, 165, 166, 167, 168, 169, 170, 171, 172, 173, 174, 175, 176, 177, 178, 179, 180, 181, 182, 183, 184, 185, 186, 187, 188, 189, 190, 191, 192, 193, 194, 195, 196, 197, 198, 199, 200, 201, 202, 203, 204, 205, 206, 207, 208, 209, 210, 211, 212, 213, 214, 215, 216, 217, 218, 219, 220] (by decide +kernel) (by decide +kernel)
set_option maxRecDepth 20000 in
theorem gX5_pass_X5_runTick : GoodIn wsX5_pass (wsV RX5 154 RX5 yX5_runTick wsX5_runTick) := goodIn_app (goodIn_of _ (by decide +kernel)) ggX5_pass_X5_runTick
theorem dX5_pass_0 : decode cX5_pass 0 = .ok (.iload_n 1, 1) := by decide +kernel
theorem dX5_pass_1 : decode cX5_pass 1 = .ok (.iconst 1, 1) := by decide +kernel
theorem dX5_pass_2 : decode cX5_pass 2 = .ok (.sipush 200, 3) := by decide +kernel
theorem dX5_pass_5 : decode cX5_pass 5 = .ok (.invokestatic 103, 3) := by decide +kernel
theorem dX5_pass_8 : decode cX5_pass 8 = .ok (.ifCond .eq 13, 3) := by decide +kernel
theorem dX5_pass_11 : decode cX5_pass 11 = .ok (.new 107, 3) := by decide +kernel
theorem dX5_pass_14 : decode cX5_pass 14 = .ok (.dup, 1) := by decide +kernel
theorem dX5_pass_15 : decode cX5_pass 15 = .ok (.ldc 149, 2) := by decide +kernel
theorem dX5_pass_17 : decode cX5_pass 17 = .ok (.invokespecial 111, 3) := by decide +kernel
theorem dX5_pass_20 : decode cX5_pass 20 = .ok (.athrow, 1) := by decide +kernel
theorem dX5_pass_21 : decode cX5_pass 21 = .ok (.aload_n 0, 1) := by decide +kernel
theorem dX5_pass_22 : decode cX5_pass 22 = .ok (.getfield 96, 3) := by decide +kernel
theorem dX5_pass_25 : decode cX5_pass 25 = .ok (.iload_n 1, 1) := by decide +kernel
theorem dX5_pass_26 : decode cX5_pass 26 = .ok (.iadd, 1) := by decide +kernel
theorem dX5_pass_27 : decode cX5_pass 27 = .ok (.ldc 151, 2) := by decide +kernel
theorem dX5_pass_29 : decode cX5_pass 29 = .ok (.if_icmp .le 13, 3) := by decide +kernel
theorem dX5_pass_32 : decode cX5_pass 32 = .ok (.new 121, 3) := by decide +kernel
theorem dX5_pass_35 : decode cX5_pass 35 = .ok (.dup, 1) := by decide +kernel
theorem dX5_pass_36 : decode cX5_pass 36 = .ok (.ldc 152, 2) := by decide +kernel
theorem dX5_pass_38 : decode cX5_pass 38 = .ok (.invokespecial 125, 3) := by decide +kernel
theorem dX5_pass_41 : decode cX5_pass 41 = .ok (.athrow, 1) := by decide +kernel
theorem dX5_pass_42 : decode cX5_pass 42 = .ok (.iconst 0, 1) := by decide +kernel
theorem dX5_pass_43 : decode cX5_pass 43 = .ok (.istore_n 2, 1) := by decide +kernel
theorem dX5_pass_44 : decode cX5_pass 44 = .ok (.iconst 0, 1) := by decide +kernel
theorem dX5_pass_45 : decode cX5_pass 45 = .ok (.istore_n 3, 1) := by decide +kernel
theorem dX5_pass_46 : decode cX5_pass 46 = .ok (.iload_n 3, 1) := by decide +kernel
theorem dX5_pass_47 : decode cX5_pass 47 = .ok (.iload_n 1, 1) := by decide +kernel
theorem dX5_pass_48 : decode cX5_pass 48 = .ok (.if_icmp .ge 16, 3) := by decide +kernel
theorem dX5_pass_51 : decode cX5_pass 51 = .ok (.iload_n 2, 1) := by decide +kernel
theorem dX5_pass_52 : decode cX5_pass 52 = .ok (.aload_n 0, 1) := by decide +kernel
theorem dX5_pass_53 : decode cX5_pass 53 = .ok (.invokevirtual 154, 3) := by decide +kernel
theorem dX5_pass_56 : decode cX5_pass 56 = .ok (.iadd, 1) := by decide +kernel
theorem dX5_pass_57 : decode cX5_pass 57 = .ok (.istore_n 2, 1) := by decide +kernel
theorem dX5_pass_58 : decode cX5_pass 58 = .ok (.iinc 3 1, 3) := by decide +kernel
theorem dX5_pass_61 : decode cX5_pass 61 = .ok (.goto (-15), 3) := by decide +kernel
theorem dX5_pass_64 : decode cX5_pass 64 = .ok (.iload_n 2, 1) := by decide +kernel
theorem dX5_pass_65 : decode cX5_pass 65 = .ok (.ireturn, 1) := by decide +kernel
theorem dX5_clock_0 : decode cX5_clock 0 = .ok (.aload_n 0, 1) := by decide +kernel
theorem dX5_clock_1 : decode cX5_clock 1 = .ok (.getfield 96, 3) := by decide +kernel
theorem dX5_clock_4 : decode cX5_clock 4 = .ok (.ireturn, 1) := by decide +kernel
theorem dX5_flows_0 : decode cX5_flows 0 = .ok (.aload_n 0, 1) := by decide +kernel
theorem dX5_flows_1 : decode cX5_flows 1 = .ok (.getfield 93, 3) := by decide +kernel
theorem dX5_flows_4 : decode cX5_flows 4 = .ok (.ireturn, 1) := by decide +kernel
set_option maxRecDepth 20000 in
theorem ggX5_sent_X5_checkFlow : GoodIn wsX5_sent wsX5_checkFlow := goodIn_ca (goodIn_r _ [6, 7, 8, 9, 10, 11, 5, 12, 13, 14, 15, 16, 17, 18, 19, 20, 21, 22, 23, 24, 25] (by decide +kernel) (by decide +kernel)) (goodIn_sub (fun _ h => List.mem_cons_of_mem _ (List.mem_append_right _ h)) (by decide +kernel))
set_option maxRecDepth 20000 in
theorem gX5_sent_X5_checkFlow : GoodIn wsX5_sent (wsV RX5 158 RX5 yX5_checkFlow wsX5_checkFlow) := goodIn_app (goodIn_of _ (by decide +kernel)) ggX5_sent_X5_checkFlow
theorem dX5_sent_0 : decode cX5_sent 0 = .ok (.aload_n 0, 1) := by decide +kernel
theorem dX5_sent_1 : decode cX5_sent 1 = .ok (.iload_n 1, 1) := by decide +kernel
theorem dX5_sent_2 : decode cX5_sent 2 = .ok (.invokevirtual 158, 3) := by decide +kernel
theorem dX5_sent_5 : decode cX5_sent 5 = .ok (.aload_n 0, 1) := by decide +kernel
theorem dX5_sent_6 : decode cX5_sent 6 = .ok (.getfield 11, 3) := by decide +kernel
theorem dX5_sent_9 : decode cX5_sent 9 = .ok (.iload_n 1, 1) := by decide +kernel
theorem dX5_sent_10 : decode cX5_sent 10 = .ok (.aaload, 1) := by decide +kernel
theorem dX5_sent_11 : decode cX5_sent 11 = .ok (.getfield 161, 3) := by decide +kernel
theorem dX5_sent_14 : decode cX5_sent 14 = .ok (.ireturn, 1) := by decide +kernel
set_option maxRecDepth 20000 in
theorem ggX5_delivered_X5_checkFlow : GoodIn wsX5_delivered wsX5_checkFlow := goodIn_ca (goodIn_r _ [6, 7, 8, 9, 10, 11, 5, 12, 13, 14, 15, 16, 17, 18, 19, 20, 21, 22, 23, 24, 25] (by decide +kernel) (by decide +kernel)) (goodIn_sub (fun _ h => List.mem_cons_of_mem _ (List.mem_append_right _ h)) (by decide +kernel))
set_option maxRecDepth 20000 in
theorem gX5_delivered_X5_checkFlow : GoodIn wsX5_delivered (wsV RX5 158 RX5 yX5_checkFlow wsX5_checkFlow) := goodIn_app (goodIn_of _ (by decide +kernel)) ggX5_delivered_X5_checkFlow
theorem dX5_delivered_0 : decode cX5_delivered 0 = .ok (.aload_n 0, 1) := by decide +kernel
theorem dX5_delivered_1 : decode cX5_delivered 1 = .ok (.iload_n 1, 1) := by decide +kernel
theorem dX5_delivered_2 : decode cX5_delivered 2 = .ok (.invokevirtual 158, 3) := by decide +kernel
theorem dX5_delivered_5 : decode cX5_delivered 5 = .ok (.aload_n 0, 1) := by decide +kernel
theorem dX5_delivered_6 : decode cX5_delivered 6 = .ok (.getfield 11, 3) := by decide +kernel
theorem dX5_delivered_9 : decode cX5_delivered 9 = .ok (.iload_n 1, 1) := by decide +kernel
theorem dX5_delivered_10 : decode cX5_delivered 10 = .ok (.aaload, 1) := by decide +kernel
theorem dX5_delivered_11 : decode cX5_delivered 11 = .ok (.getfield 164, 3) := by decide +kernel
theorem dX5_delivered_14 : decode cX5_delivered 14 = .ok (.ireturn, 1) := by decide +kernel
set_option maxRecDepth 20000 in
theorem ggX5_lost_X5_checkFlow : GoodIn wsX5_lost wsX5_checkFlow := goodIn_ca (goodIn_r _ [6, 7, 8, 9, 10, 11, 5, 12, 13, 14, 15, 16, 17, 18, 19, 20, 21, 22, 23, 24, 25] (by decide +kernel) (by decide +kernel)) (goodIn_sub (fun _ h => List.mem_cons_of_mem _ (List.mem_append_right _ h)) (by decide +kernel))
set_option maxRecDepth 20000 in
theorem gX5_lost_X5_checkFlow : GoodIn wsX5_lost (wsV RX5 158 RX5 yX5_checkFlow wsX5_checkFlow) := goodIn_app (goodIn_of _ (by decide +kernel)) ggX5_lost_X5_checkFlow
theorem dX5_lost_0 : decode cX5_lost 0 = .ok (.aload_n 0, 1) := by decide +kernel
theorem dX5_lost_1 : decode cX5_lost 1 = .ok (.iload_n 1, 1) := by decide +kernel
theorem dX5_lost_2 : decode cX5_lost 2 = .ok (.invokevirtual 158, 3) := by decide +kernel
theorem dX5_lost_5 : decode cX5_lost 5 = .ok (.aload_n 0, 1) := by decide +kernel
theorem dX5_lost_6 : decode cX5_lost 6 = .ok (.getfield 11, 3) := by decide +kernel
theorem dX5_lost_9 : decode cX5_lost 9 = .ok (.iload_n 1, 1) := by decide +kernel
theorem dX5_lost_10 : decode cX5_lost 10 = .ok (.aaload, 1) := by decide +kernel
theorem dX5_lost_11 : decode cX5_lost 11 = .ok (.getfield 167, 3) := by decide +kernel
theorem dX5_lost_14 : decode cX5_lost 14 = .ok (.ireturn, 1) := by decide +kernel
set_option maxRecDepth 20000 in
theorem ggX5_outOfOrder_X5_checkFlow : GoodIn wsX5_outOfOrder wsX5_checkFlow := goodIn_ca (goodIn_r _ [6, 7, 8, 9, 10, 11, 5, 12, 13, 14, 15, 16, 17, 18, 19, 20, 21, 22, 23, 24, 25] (by decide +kernel) (by decide +kernel)) (goodIn_sub (fun _ h => List.mem_cons_of_mem _ (List.mem_append_right _ h)) (by decide +kernel))
set_option maxRecDepth 20000 in
theorem gX5_outOfOrder_X5_checkFlow : GoodIn wsX5_outOfOrder (wsV RX5 158 RX5 yX5_checkFlow wsX5_checkFlow) := goodIn_app (goodIn_of _ (by decide +kernel)) ggX5_outOfOrder_X5_checkFlow
theorem dX5_outOfOrder_0 : decode cX5_outOfOrder 0 = .ok (.aload_n 0, 1) := by decide +kernel
theorem dX5_outOfOrder_1 : decode cX5_outOfOrder 1 = .ok (.iload_n 1, 1) := by decide +kernel
theorem dX5_outOfOrder_2 : decode cX5_outOfOrder 2 = .ok (.invokevirtual 158, 3) := by decide +kernel
theorem dX5_outOfOrder_5 : decode cX5_outOfOrder 5 = .ok (.aload_n 0, 1) := by decide +kernel
theorem dX5_outOfOrder_6 : decode cX5_outOfOrder 6 = .ok (.getfield 11, 3) := by decide +kernel
theorem dX5_outOfOrder_9 : decode cX5_outOfOrder 9 = .ok (.iload_n 1, 1) := by decide +kernel
theorem dX5_outOfOrder_10 : decode cX5_outOfOrder 10 = .ok (.aaload, 1) := by decide +kernel
theorem dX5_outOfOrder_11 : decode cX5_outOfOrder 11 = .ok (.getfield 170, 3) := by decide +kernel
theorem dX5_outOfOrder_14 : decode cX5_outOfOrder 14 = .ok (.ireturn, 1) := by decide +kernel
set_option maxRecDepth 20000 in
theorem ggX5_doneIn_X5_checkFlow : GoodIn wsX5_doneIn wsX5_checkFlow := goodIn_ca (goodIn_r _ [6, 7, 8, 9, 10, 11, 5, 12, 13, 14, 15, 16, 17, 18, 19, 20, 21, 22, 23, 24, 25] (by decide +kernel) (by decide +kernel)) (goodIn_sub (fun _ h => List.mem_cons_of_mem _ (List.mem_append_right _ h)) (by decide +kernel))
set_option maxRecDepth 20000 in
theorem gX5_doneIn_X5_checkFlow : GoodIn wsX5_doneIn (wsV RX5 158 RX5 yX5_checkFlow wsX5_checkFlow) := goodIn_app (goodIn_of _ (by decide +kernel)) ggX5_doneIn_X5_checkFlow
theorem dX5_doneIn_0 : decode cX5_doneIn 0 = .ok (.aload_n 0, 1) := by decide +kernel
theorem dX5_doneIn_1 : decode cX5_doneIn 1 = .ok (.iload_n 1, 1) := by decide +kernel
theorem dX5_doneIn_2 : decode cX5_doneIn 2 = .ok (.invokevirtual 158, 3) := by decide +kernel
theorem dX5_doneIn_5 : decode cX5_doneIn 5 = .ok (.aload_n 0, 1) := by decide +kernel
theorem dX5_doneIn_6 : decode cX5_doneIn 6 = .ok (.getfield 11, 3) := by decide +kernel
theorem dX5_doneIn_9 : decode cX5_doneIn 9 = .ok (.iload_n 1, 1) := by decide +kernel
theorem dX5_doneIn_10 : decode cX5_doneIn 10 = .ok (.aaload, 1) := by decide +kernel
theorem dX5_doneIn_11 : decode cX5_doneIn 11 = .ok (.getfield 173, 3) := by decide +kernel
theorem dX5_doneIn_14 : decode cX5_doneIn 14 = .ok (.ireturn, 1) := by decide +kernel
set_option maxRecDepth 20000 in
theorem ggX5_flowlets_X5_checkFlow : GoodIn wsX5_flowlets wsX5_checkFlow := goodIn_ca (goodIn_r _ [6, 7, 8, 9, 10, 11, 5, 12, 13, 14, 15, 16, 17, 18, 19, 20, 21, 22, 23, 24, 25] (by decide +kernel) (by decide +kernel)) (goodIn_sub (fun _ h => List.mem_cons_of_mem _ (List.mem_append_right _ h)) (by decide +kernel))
set_option maxRecDepth 20000 in
theorem gX5_flowlets_X5_checkFlow : GoodIn wsX5_flowlets (wsV RX5 158 RX5 yX5_checkFlow wsX5_checkFlow) := goodIn_app (goodIn_of _ (by decide +kernel)) ggX5_flowlets_X5_checkFlow
theorem dX5_flowlets_0 : decode cX5_flowlets 0 = .ok (.aload_n 0, 1) := by decide +kernel
theorem dX5_flowlets_1 : decode cX5_flowlets 1 = .ok (.iload_n 1, 1) := by decide +kernel
theorem dX5_flowlets_2 : decode cX5_flowlets 2 = .ok (.invokevirtual 158, 3) := by decide +kernel
theorem dX5_flowlets_5 : decode cX5_flowlets 5 = .ok (.aload_n 0, 1) := by decide +kernel
theorem dX5_flowlets_6 : decode cX5_flowlets 6 = .ok (.getfield 11, 3) := by decide +kernel
theorem dX5_flowlets_9 : decode cX5_flowlets 9 = .ok (.iload_n 1, 1) := by decide +kernel
theorem dX5_flowlets_10 : decode cX5_flowlets 10 = .ok (.aaload, 1) := by decide +kernel
theorem dX5_flowlets_11 : decode cX5_flowlets 11 = .ok (.getfield 176, 3) := by decide +kernel
theorem dX5_flowlets_14 : decode cX5_flowlets 14 = .ok (.ireturn, 1) := by decide +kernel
set_option maxRecDepth 20000 in
theorem ggX5_spineOf_X5_checkFlow : GoodIn wsX5_spineOf wsX5_checkFlow := goodIn_ca (goodIn_r _ [6, 7, 8, 9, 10, 11, 5, 12, 13, 14, 15, 16, 17, 18, 19, 20, 21, 22, 23, 24, 25] (by decide +kernel) (by decide +kernel)) (goodIn_sub (fun _ h => List.mem_cons_of_mem _ (List.mem_append_right _ h)) (by decide +kernel))
set_option maxRecDepth 20000 in
theorem gX5_spineOf_X5_checkFlow : GoodIn wsX5_spineOf (wsV RX5 158 RX5 yX5_checkFlow wsX5_checkFlow) := goodIn_app (goodIn_of _ (by decide +kernel)) ggX5_spineOf_X5_checkFlow
theorem dX5_spineOf_0 : decode cX5_spineOf 0 = .ok (.aload_n 0, 1) := by decide +kernel
theorem dX5_spineOf_1 : decode cX5_spineOf 1 = .ok (.iload_n 1, 1) := by decide +kernel
theorem dX5_spineOf_2 : decode cX5_spineOf 2 = .ok (.invokevirtual 158, 3) := by decide +kernel
theorem dX5_spineOf_5 : decode cX5_spineOf 5 = .ok (.aload_n 0, 1) := by decide +kernel
theorem dX5_spineOf_6 : decode cX5_spineOf 6 = .ok (.getfield 11, 3) := by decide +kernel
theorem dX5_spineOf_9 : decode cX5_spineOf 9 = .ok (.iload_n 1, 1) := by decide +kernel
theorem dX5_spineOf_10 : decode cX5_spineOf 10 = .ok (.aaload, 1) := by decide +kernel
theorem dX5_spineOf_11 : decode cX5_spineOf 11 = .ok (.getfield 179, 3) := by decide +kernel
theorem dX5_spineOf_14 : decode cX5_spineOf 14 = .ok (.ireturn, 1) := by decide +kernel
set_option maxRecDepth 20000 in
theorem ggX5_upQueue_X5_checkHost : GoodIn wsX5_upQueue wsX5_checkHost := goodIn_ca (goodIn_r _ [5, 6, 7, 8, 9, 4, 10] (by decide +kernel) (by decide +kernel)) (goodIn_sub (fun _ h => List.mem_cons_of_mem _ (List.mem_append_right _ h)) (by decide +kernel))
set_option maxRecDepth 20000 in
theorem gX5_upQueue_X5_checkHost : GoodIn wsX5_upQueue (va_wsS RX5 114 yX5_checkHost wsX5_checkHost) := goodIn_app (goodIn_of _ (by decide +kernel)) ggX5_upQueue_X5_checkHost
theorem dX5_upQueue_0 : decode cX5_upQueue 0 = .ok (.iload_n 1, 1) := by decide +kernel
theorem dX5_upQueue_1 : decode cX5_upQueue 1 = .ok (.invokestatic 114, 3) := by decide +kernel
theorem dX5_upQueue_4 : decode cX5_upQueue 4 = .ok (.aload_n 0, 1) := by decide +kernel
theorem dX5_upQueue_5 : decode cX5_upQueue 5 = .ok (.getfield 17, 3) := by decide +kernel
theorem dX5_upQueue_8 : decode cX5_upQueue 8 = .ok (.iload_n 1, 1) := by decide +kernel
theorem dX5_upQueue_9 : decode cX5_upQueue 9 = .ok (.aaload, 1) := by decide +kernel
theorem dX5_upQueue_10 : decode cX5_upQueue 10 = .ok (.getfield 48, 3) := by decide +kernel
theorem dX5_upQueue_13 : decode cX5_upQueue 13 = .ok (.getfield 138, 3) := by decide +kernel
theorem dX5_upQueue_16 : decode cX5_upQueue 16 = .ok (.ireturn, 1) := by decide +kernel
set_option maxRecDepth 20000 in
theorem ggX5_downQueue_X5_checkHost : GoodIn wsX5_downQueue wsX5_checkHost := goodIn_ca (goodIn_r _ [5, 6, 7, 8, 9, 4, 10] (by decide +kernel) (by decide +kernel)) (goodIn_sub (fun _ h => List.mem_cons_of_mem _ (List.mem_append_right _ h)) (by decide +kernel))
set_option maxRecDepth 20000 in
theorem gX5_downQueue_X5_checkHost : GoodIn wsX5_downQueue (va_wsS RX5 114 yX5_checkHost wsX5_checkHost) := goodIn_app (goodIn_of _ (by decide +kernel)) ggX5_downQueue_X5_checkHost
theorem dX5_downQueue_0 : decode cX5_downQueue 0 = .ok (.iload_n 1, 1) := by decide +kernel
theorem dX5_downQueue_1 : decode cX5_downQueue 1 = .ok (.invokestatic 114, 3) := by decide +kernel
theorem dX5_downQueue_4 : decode cX5_downQueue 4 = .ok (.aload_n 0, 1) := by decide +kernel
theorem dX5_downQueue_5 : decode cX5_downQueue 5 = .ok (.getfield 17, 3) := by decide +kernel
theorem dX5_downQueue_8 : decode cX5_downQueue 8 = .ok (.iload_n 1, 1) := by decide +kernel
theorem dX5_downQueue_9 : decode cX5_downQueue 9 = .ok (.aaload, 1) := by decide +kernel
theorem dX5_downQueue_10 : decode cX5_downQueue 10 = .ok (.getfield 52, 3) := by decide +kernel
theorem dX5_downQueue_13 : decode cX5_downQueue 13 = .ok (.getfield 138, 3) := by decide +kernel
theorem dX5_downQueue_16 : decode cX5_downQueue 16 = .ok (.ireturn, 1) := by decide +kernel
set_option maxRecDepth 20000 in
theorem ggX5_northQueue_X5_checkConnection : GoodIn wsX5_northQueue wsX5_checkConnection := goodIn_ca (goodIn_r _ [4, 5, 6, 7, 8, 3, 9] (by decide +kernel) (by decide +kernel)) (goodIn_sub (fun _ h => List.mem_cons_of_mem _ (List.mem_append_right _ h)) (by decide +kernel))
set_option maxRecDepth 20000 in
theorem gX5_northQueue_X5_checkConnection : GoodIn wsX5_northQueue (va_wsS RX5 129 yX5_checkConnection wsX5_checkConnection) := goodIn_app (goodIn_of _ (by decide +kernel)) ggX5_northQueue_X5_checkConnection
set_option maxRecDepth 20000 in
theorem ggX5_northQueue_X5_northOf : GoodIn wsX5_northQueue wsX5_northOf := goodIn_r _ [13, 14, 22, 23, 24, 25, 26, 27, 28, 29, 30, 31, 32, 33, 34] (by decide +kernel) (by decide +kernel)
set_option maxRecDepth 20000 in
theorem gX5_northQueue_X5_northOf : GoodIn wsX5_northQueue (wsV RX5 80 RX5 yX5_northOf wsX5_northOf) := goodIn_app (goodIn_of _ (by decide +kernel)) ggX5_northQueue_X5_northOf
theorem dX5_northQueue_0 : decode cX5_northQueue 0 = .ok (.iload_n 1, 1) := by decide +kernel
theorem dX5_northQueue_1 : decode cX5_northQueue 1 = .ok (.iload_n 2, 1) := by decide +kernel
theorem dX5_northQueue_2 : decode cX5_northQueue 2 = .ok (.invokestatic 129, 3) := by decide +kernel
theorem dX5_northQueue_5 : decode cX5_northQueue 5 = .ok (.aload_n 0, 1) := by decide +kernel
theorem dX5_northQueue_6 : decode cX5_northQueue 6 = .ok (.iload_n 1, 1) := by decide +kernel
theorem dX5_northQueue_7 : decode cX5_northQueue 7 = .ok (.iload_n 2, 1) := by decide +kernel
theorem dX5_northQueue_8 : decode cX5_northQueue 8 = .ok (.invokevirtual 80, 3) := by decide +kernel
theorem dX5_northQueue_11 : decode cX5_northQueue 11 = .ok (.getfield 138, 3) := by decide +kernel
theorem dX5_northQueue_14 : decode cX5_northQueue 14 = .ok (.ireturn, 1) := by decide +kernel
set_option maxRecDepth 20000 in
theorem ggX5_southQueue_X5_checkConnection : GoodIn wsX5_southQueue wsX5_checkConnection := goodIn_ca (goodIn_r _ [4, 5, 6, 7, 8, 3, 9] (by decide +kernel) (by decide +kernel)) (goodIn_sub (fun _ h => List.mem_cons_of_mem _ (List.mem_append_right _ h)) (by decide +kernel))
set_option maxRecDepth 20000 in
theorem gX5_southQueue_X5_checkConnection : GoodIn wsX5_southQueue (va_wsS RX5 129 yX5_checkConnection wsX5_checkConnection) := goodIn_app (goodIn_of _ (by decide +kernel)) ggX5_southQueue_X5_checkConnection
set_option maxRecDepth 20000 in
theorem ggX5_southQueue_X5_southOf : GoodIn wsX5_southQueue wsX5_southOf := goodIn_r _ [13, 14, 22, 23, 24, 25, 26, 27, 28, 29, 30, 31, 32, 33, 34] (by decide +kernel) (by decide +kernel)
set_option maxRecDepth 20000 in
theorem gX5_southQueue_X5_southOf : GoodIn wsX5_southQueue (wsV RX5 76 RX5 yX5_southOf wsX5_southOf) := goodIn_app (goodIn_of _ (by decide +kernel)) ggX5_southQueue_X5_southOf
theorem dX5_southQueue_0 : decode cX5_southQueue 0 = .ok (.iload_n 2, 1) := by decide +kernel
theorem dX5_southQueue_1 : decode cX5_southQueue 1 = .ok (.iload_n 1, 1) := by decide +kernel
theorem dX5_southQueue_2 : decode cX5_southQueue 2 = .ok (.invokestatic 129, 3) := by decide +kernel
theorem dX5_southQueue_5 : decode cX5_southQueue 5 = .ok (.aload_n 0, 1) := by decide +kernel
theorem dX5_southQueue_6 : decode cX5_southQueue 6 = .ok (.iload_n 1, 1) := by decide +kernel
theorem dX5_southQueue_7 : decode cX5_southQueue 7 = .ok (.iload_n 2, 1) := by decide +kernel
theorem dX5_southQueue_8 : decode cX5_southQueue 8 = .ok (.invokevirtual 76, 3) := by decide +kernel
theorem dX5_southQueue_11 : decode cX5_southQueue 11 = .ok (.getfield 138, 3) := by decide +kernel
theorem dX5_southQueue_14 : decode cX5_southQueue 14 = .ok (.ireturn, 1) := by decide +kernel
set_option maxRecDepth 20000 in
theorem ggX5_upCredits_X5_checkHost : GoodIn wsX5_upCredits wsX5_checkHost := goodIn_ca (goodIn_r _ [5, 6, 7, 8, 9, 4, 10] (by decide +kernel) (by decide +kernel)) (goodIn_sub (fun _ h => List.mem_cons_of_mem _ (List.mem_append_right _ h)) (by decide +kernel))
set_option maxRecDepth 20000 in
theorem gX5_upCredits_X5_checkHost : GoodIn wsX5_upCredits (va_wsS RX5 114 yX5_checkHost wsX5_checkHost) := goodIn_app (goodIn_of _ (by decide +kernel)) ggX5_upCredits_X5_checkHost
theorem dX5_upCredits_0 : decode cX5_upCredits 0 = .ok (.iload_n 1, 1) := by decide +kernel
theorem dX5_upCredits_1 : decode cX5_upCredits 1 = .ok (.invokestatic 114, 3) := by decide +kernel
theorem dX5_upCredits_4 : decode cX5_upCredits 4 = .ok (.aload_n 0, 1) := by decide +kernel
theorem dX5_upCredits_5 : decode cX5_upCredits 5 = .ok (.getfield 17, 3) := by decide +kernel
theorem dX5_upCredits_8 : decode cX5_upCredits 8 = .ok (.iload_n 1, 1) := by decide +kernel
theorem dX5_upCredits_9 : decode cX5_upCredits 9 = .ok (.aaload, 1) := by decide +kernel
theorem dX5_upCredits_10 : decode cX5_upCredits 10 = .ok (.getfield 48, 3) := by decide +kernel
theorem dX5_upCredits_13 : decode cX5_upCredits 13 = .ok (.getfield 182, 3) := by decide +kernel
theorem dX5_upCredits_16 : decode cX5_upCredits 16 = .ok (.ireturn, 1) := by decide +kernel
set_option maxRecDepth 20000 in
theorem ggX5_northCredits_X5_checkConnection : GoodIn wsX5_northCredits wsX5_checkConnection := goodIn_ca (goodIn_r _ [4, 5, 6, 7, 8, 3, 9] (by decide +kernel) (by decide +kernel)) (goodIn_sub (fun _ h => List.mem_cons_of_mem _ (List.mem_append_right _ h)) (by decide +kernel))
set_option maxRecDepth 20000 in
theorem gX5_northCredits_X5_checkConnection : GoodIn wsX5_northCredits (va_wsS RX5 129 yX5_checkConnection wsX5_checkConnection) := goodIn_app (goodIn_of _ (by decide +kernel)) ggX5_northCredits_X5_checkConnection
set_option maxRecDepth 20000 in
theorem ggX5_northCredits_X5_northOf : GoodIn wsX5_northCredits wsX5_northOf := goodIn_r _ [13, 14, 22, 23, 24, 25, 26, 27, 28, 29, 30, 31, 32, 33, 34] (by decide +kernel) (by decide +kernel)
set_option maxRecDepth 20000 in
theorem gX5_northCredits_X5_northOf : GoodIn wsX5_northCredits (wsV RX5 80 RX5 yX5_northOf wsX5_northOf) := goodIn_app (goodIn_of _ (by decide +kernel)) ggX5_northCredits_X5_northOf
theorem dX5_northCredits_0 : decode cX5_northCredits 0 = .ok (.iload_n 1, 1) := by decide +kernel
theorem dX5_northCredits_1 : decode cX5_northCredits 1 = .ok (.iload_n 2, 1) := by decide +kernel
theorem dX5_northCredits_2 : decode cX5_northCredits 2 = .ok (.invokestatic 129, 3) := by decide +kernel
theorem dX5_northCredits_5 : decode cX5_northCredits 5 = .ok (.aload_n 0, 1) := by decide +kernel
theorem dX5_northCredits_6 : decode cX5_northCredits 6 = .ok (.iload_n 1, 1) := by decide +kernel
theorem dX5_northCredits_7 : decode cX5_northCredits 7 = .ok (.iload_n 2, 1) := by decide +kernel
theorem dX5_northCredits_8 : decode cX5_northCredits 8 = .ok (.invokevirtual 80, 3) := by decide +kernel
theorem dX5_northCredits_11 : decode cX5_northCredits 11 = .ok (.getfield 182, 3) := by decide +kernel
theorem dX5_northCredits_14 : decode cX5_northCredits 14 = .ok (.ireturn, 1) := by decide +kernel
set_option maxRecDepth 20000 in
theorem ggX5_returning_X2_onTheWayBack : GoodIn wsX5_returning wsX2_onTheWayBack := goodIn_r _ [5, 6, 20, 21, 22, 23, 24, 25, 26] (by decide +kernel) (by decide +kernel)
set_option maxRecDepth 20000 in
theorem gX5_returning_X2_onTheWayBack_n185 : GoodIn wsX5_returning (wsX2_onTheWayBack) := ggX5_returning_X2_onTheWayBack
theorem dX5_returning_0 : decode cX5_returning 0 = .ok (.iconst 0, 1) := by decide +kernel
theorem dX5_returning_1 : decode cX5_returning 1 = .ok (.istore_n 1, 1) := by decide +kernel
theorem dX5_returning_2 : decode cX5_returning 2 = .ok (.iconst 0, 1) := by decide +kernel
theorem dX5_returning_3 : decode cX5_returning 3 = .ok (.istore_n 2, 1) := by decide +kernel
theorem dX5_returning_4 : decode cX5_returning 4 = .ok (.iload_n 2, 1) := by decide +kernel
theorem dX5_returning_5 : decode cX5_returning 5 = .ok (.aload_n 0, 1) := by decide +kernel
theorem dX5_returning_6 : decode cX5_returning 6 = .ok (.getfield 23, 3) := by decide +kernel
theorem dX5_returning_9 : decode cX5_returning 9 = .ok (.arraylength, 1) := by decide +kernel
theorem dX5_returning_10 : decode cX5_returning 10 = .ok (.if_icmp .ge 21, 3) := by decide +kernel
theorem dX5_returning_13 : decode cX5_returning 13 = .ok (.iload_n 1, 1) := by decide +kernel
theorem dX5_returning_14 : decode cX5_returning 14 = .ok (.aload_n 0, 1) := by decide +kernel
theorem dX5_returning_15 : decode cX5_returning 15 = .ok (.getfield 23, 3) := by decide +kernel
theorem dX5_returning_18 : decode cX5_returning 18 = .ok (.iload_n 2, 1) := by decide +kernel
theorem dX5_returning_19 : decode cX5_returning 19 = .ok (.aaload, 1) := by decide +kernel
theorem dX5_returning_20 : decode cX5_returning 20 = .ok (.invokevirtual 185, 3) := by decide +kernel
theorem dX5_returning_23 : decode cX5_returning 23 = .ok (.iadd, 1) := by decide +kernel
theorem dX5_returning_24 : decode cX5_returning 24 = .ok (.istore_n 1, 1) := by decide +kernel
theorem dX5_returning_25 : decode cX5_returning 25 = .ok (.iinc 2 1, 3) := by decide +kernel
theorem dX5_returning_28 : decode cX5_returning 28 = .ok (.goto (-24), 3) := by decide +kernel
theorem dX5_returning_31 : decode cX5_returning 31 = .ok (.iload_n 1, 1) := by decide +kernel
theorem dX5_returning_32 : decode cX5_returning 32 = .ok (.ireturn, 1) := by decide +kernel
theorem dX5_queued_0 : decode cX5_queued 0 = .ok (.iconst 0, 1) := by decide +kernel
theorem dX5_queued_1 : decode cX5_queued 1 = .ok (.istore_n 1, 1) := by decide +kernel
theorem dX5_queued_2 : decode cX5_queued 2 = .ok (.iconst 0, 1) := by decide +kernel
theorem dX5_queued_3 : decode cX5_queued 3 = .ok (.istore_n 2, 1) := by decide +kernel
theorem dX5_queued_4 : decode cX5_queued 4 = .ok (.iload_n 2, 1) := by decide +kernel
theorem dX5_queued_5 : decode cX5_queued 5 = .ok (.aload_n 0, 1) := by decide +kernel
theorem dX5_queued_6 : decode cX5_queued 6 = .ok (.getfield 23, 3) := by decide +kernel
theorem dX5_queued_9 : decode cX5_queued 9 = .ok (.arraylength, 1) := by decide +kernel
theorem dX5_queued_10 : decode cX5_queued 10 = .ok (.if_icmp .ge 21, 3) := by decide +kernel
theorem dX5_queued_13 : decode cX5_queued 13 = .ok (.iload_n 1, 1) := by decide +kernel
theorem dX5_queued_14 : decode cX5_queued 14 = .ok (.aload_n 0, 1) := by decide +kernel
theorem dX5_queued_15 : decode cX5_queued 15 = .ok (.getfield 23, 3) := by decide +kernel
theorem dX5_queued_18 : decode cX5_queued 18 = .ok (.iload_n 2, 1) := by decide +kernel
theorem dX5_queued_19 : decode cX5_queued 19 = .ok (.aaload, 1) := by decide +kernel
theorem dX5_queued_20 : decode cX5_queued 20 = .ok (.getfield 138, 3) := by decide +kernel
theorem dX5_queued_23 : decode cX5_queued 23 = .ok (.iadd, 1) := by decide +kernel
theorem dX5_queued_24 : decode cX5_queued 24 = .ok (.istore_n 1, 1) := by decide +kernel
theorem dX5_queued_25 : decode cX5_queued 25 = .ok (.iinc 2 1, 3) := by decide +kernel
theorem dX5_queued_28 : decode cX5_queued 28 = .ok (.goto (-24), 3) := by decide +kernel
theorem dX5_queued_31 : decode cX5_queued 31 = .ok (.iload_n 1, 1) := by decide +kernel
theorem dX5_queued_32 : decode cX5_queued 32 = .ok (.ireturn, 1) := by decide +kernel
set_option maxRecDepth 20000 in
theorem ggX5_open_X5_checkHost : GoodIn wsX5_open wsX5_checkHost := goodIn_ca (goodIn_r _ [5, 6, 7, 8, 9, 4, 10] (by decide +kernel) (by decide +kernel)) (goodIn_sub (fun _ h => List.mem_cons_of_mem _ (List.mem_append_right _ h)) (by decide +kernel))
set_option maxRecDepth 20000 in
theorem gX5_open_X5_checkHost : GoodIn wsX5_open (va_wsS RX5 114 yX5_checkHost wsX5_checkHost) := goodIn_app (goodIn_of _ (by decide +kernel)) ggX5_open_X5_checkHost
theorem dX5_open_0 : decode cX5_open 0 = .ok (.iload_n 1, 1) := by decide +kernel
theorem dX5_open_1 : decode cX5_open 1 = .ok (.invokestatic 114, 3) := by decide +kernel
theorem dX5_open_4 : decode cX5_open 4 = .ok (.aload_n 0, 1) := by decide +kernel
theorem dX5_open_5 : decode cX5_open 5 = .ok (.getfield 17, 3) := by decide +kernel
theorem dX5_open_8 : decode cX5_open 8 = .ok (.iload_n 1, 1) := by decide +kernel
theorem dX5_open_9 : decode cX5_open 9 = .ok (.aaload, 1) := by decide +kernel
theorem dX5_open_10 : decode cX5_open 10 = .ok (.getfield 188, 3) := by decide +kernel
theorem dX5_open_13 : decode cX5_open 13 = .ok (.ireturn, 1) := by decide +kernel
set_option maxRecDepth 20000 in
theorem ggX5_usable_X5_isOutside : GoodIn wsX5_usable wsX5_isOutside := goodIn_r _ [6] (by decide +kernel) (by decide +kernel)
set_option maxRecDepth 20000 in
theorem gX5_usable_X5_isOutside : GoodIn wsX5_usable (va_wsS RX5 103 yX5_isOutside wsX5_isOutside) := goodIn_app (goodIn_of _ (by decide +kernel)) ggX5_usable_X5_isOutside
set_option maxRecDepth 20000 in
theorem ggX5_usable_X5_usableSpines : GoodIn wsX5_usable wsX5_usableSpines := goodIn_r _ [10, 11, 12, 13, 14, 15, 16, 17, 18, 19, 20, 21, 22, 23, 24] (by decide +kernel) (by decide +kernel)
set_option maxRecDepth 20000 in
theorem gX5_usable_X5_usableSpines : GoodIn wsX5_usable (wsV RX5 193 RX5 yX5_usableSpines wsX5_usableSpines) := goodIn_app (goodIn_of _ (by decide +kernel)) ggX5_usable_X5_usableSpines
theorem dX5_usable_0 : decode cX5_usable 0 = .ok (.iload_n 1, 1) := by decide +kernel
theorem dX5_usable_1 : decode cX5_usable 1 = .ok (.iconst 0, 1) := by decide +kernel
theorem dX5_usable_2 : decode cX5_usable 2 = .ok (.iconst 3, 1) := by decide +kernel
theorem dX5_usable_3 : decode cX5_usable 3 = .ok (.invokestatic 103, 3) := by decide +kernel
theorem dX5_usable_6 : decode cX5_usable 6 = .ok (.ifCond .ne 17, 3) := by decide +kernel
theorem dX5_usable_9 : decode cX5_usable 9 = .ok (.iload_n 2, 1) := by decide +kernel
theorem dX5_usable_10 : decode cX5_usable 10 = .ok (.iconst 0, 1) := by decide +kernel
theorem dX5_usable_11 : decode cX5_usable 11 = .ok (.iconst 3, 1) := by decide +kernel
theorem dX5_usable_12 : decode cX5_usable 12 = .ok (.invokestatic 103, 3) := by decide +kernel
theorem dX5_usable_15 : decode cX5_usable 15 = .ok (.ifCond .ne 8, 3) := by decide +kernel
theorem dX5_usable_18 : decode cX5_usable 18 = .ok (.iload_n 2, 1) := by decide +kernel
theorem dX5_usable_19 : decode cX5_usable 19 = .ok (.iload_n 1, 1) := by decide +kernel
theorem dX5_usable_20 : decode cX5_usable 20 = .ok (.if_icmp .ne 13, 3) := by decide +kernel
theorem dX5_usable_23 : decode cX5_usable 23 = .ok (.new 107, 3) := by decide +kernel
theorem dX5_usable_26 : decode cX5_usable 26 = .ok (.dup, 1) := by decide +kernel
theorem dX5_usable_27 : decode cX5_usable 27 = .ok (.ldc 191, 2) := by decide +kernel
theorem dX5_usable_29 : decode cX5_usable 29 = .ok (.invokespecial 111, 3) := by decide +kernel
theorem dX5_usable_32 : decode cX5_usable 32 = .ok (.athrow, 1) := by decide +kernel
theorem dX5_usable_33 : decode cX5_usable 33 = .ok (.aload_n 0, 1) := by decide +kernel
theorem dX5_usable_34 : decode cX5_usable 34 = .ok (.iload_n 1, 1) := by decide +kernel
theorem dX5_usable_35 : decode cX5_usable 35 = .ok (.iload_n 2, 1) := by decide +kernel
theorem dX5_usable_36 : decode cX5_usable 36 = .ok (.invokevirtual 193, 3) := by decide +kernel
theorem dX5_usable_39 : decode cX5_usable 39 = .ok (.ireturn, 1) := by decide +kernel
set_option maxRecDepth 20000 in
theorem ggX5_leastTicks_X5_unsentBy : GoodIn wsX5_leastTicks wsX5_unsentBy := goodIn_r _ [10, 11, 12, 13, 14, 15, 16, 17, 18, 19, 52, 53, 54, 55, 56, 57, 58, 59, 60, 61, 62, 63, 64, 65, 66, 67, 68, 69, 70, 71, 72, 73, 74, 75, 76, 77] (by decide +kernel) (by decide +kernel)
set_option maxRecDepth 20000 in
theorem gX5_leastTicks_X5_unsentBy : GoodIn wsX5_leastTicks (wsV RX5 197 RX5 yX5_unsentBy wsX5_unsentBy) := goodIn_app (goodIn_of _ (by decide +kernel)) ggX5_leastTicks_X5_unsentBy
set_option maxRecDepth 20000 in
theorem ggX5_leastTicks_X5_unsentFor : GoodIn wsX5_leastTicks wsX5_unsentFor := goodIn_r _ [23, 11, 12, 13, 14, 15, 16, 17, 18, 19, 52, 53, 54, 55, 56, 57, 58, 59, 60, 61, 62, 63, 64, 65, 66, 67, 68, 69, 70, 71, 72, 73, 74, 75, 76, 77] (by decide +kernel) (by decide +kernel)
set_option maxRecDepth 20000 in
theorem gX5_leastTicks_X5_unsentFor : GoodIn wsX5_leastTicks (wsV RX5 200 RX5 yX5_unsentFor wsX5_unsentFor) := goodIn_app (goodIn_of _ (by decide +kernel)) ggX5_leastTicks_X5_unsentFor
set_option maxRecDepth 20000 in
theorem ggX5_leastTicks_X5_unsentOutOf : GoodIn wsX5_leastTicks wsX5_unsentOutOf := goodIn_r _ [27, 11, 12, 28, 14, 29, 30, 31, 32, 33, 34, 35, 36, 37, 38, 39, 40, 13, 15, 16, 17, 18, 19, 52, 53, 54, 55, 56, 57, 58, 59, 60, 61, 62, 63, 64, 65, 66, 67, 68, 69, 70, 71, 72, 73, 74, 75, 76, 77] (by decide +kernel) (by decide +kernel)
set_option maxRecDepth 20000 in
theorem gX5_leastTicks_X5_unsentOutOf : GoodIn wsX5_leastTicks (wsV RX5 208 RX5 yX5_unsentOutOf wsX5_unsentOutOf) := goodIn_app (goodIn_of _ (by decide +kernel)) ggX5_leastTicks_X5_unsentOutOf
set_option maxRecDepth 20000 in
theorem ggX5_leastTicks_X5_unsentInto : GoodIn wsX5_leastTicks wsX5_unsentInto := goodIn_r _ [44, 11, 12, 28, 14, 29, 30, 31, 32, 33, 34, 35, 36, 37, 38, 39, 40, 13, 15, 16, 17, 18, 19, 52, 53, 54, 55, 56, 57, 58, 59, 60, 61, 62, 63, 64, 65, 66, 67, 68, 69, 70, 71, 72, 73, 74, 75, 76, 77] (by decide +kernel) (by decide +kernel)
set_option maxRecDepth 20000 in
theorem gX5_leastTicks_X5_unsentInto : GoodIn wsX5_leastTicks (wsV RX5 211 RX5 yX5_unsentInto wsX5_unsentInto) := goodIn_app (goodIn_of _ (by decide +kernel)) ggX5_leastTicks_X5_unsentInto
set_option maxRecDepth 20000 in
theorem ggX5_leastTicks_J6_bitCount_0f7a4 : GoodIn wsX5_leastTicks wsJ6_bitCount_0f7a4 := goodIn_r _ [48, 49, 50, 51] (by decide +kernel) (by decide +kernel)
set_option maxRecDepth 20000 in
theorem gX5_leastTicks_J6_bitCount_0f7a4 : GoodIn wsX5_leastTicks (va_wsS RX5 143 yJ6_bitCount_0f7a4 wsJ6_bitCount_0f7a4) := goodIn_app (goodIn_of _ (by decide +kernel)) ggX5_leastTicks_J6_bitCount_0f7a4
theorem dX5_leastTicks_0 : decode cX5_leastTicks 0 = .ok (.iconst 0, 1) := by decide +kernel
theorem dX5_leastTicks_1 : decode cX5_leastTicks 1 = .ok (.istore_n 1, 1) := by decide +kernel
theorem dX5_leastTicks_2 : decode cX5_leastTicks 2 = .ok (.iconst 0, 1) := by decide +kernel
theorem dX5_leastTicks_3 : decode cX5_leastTicks 3 = .ok (.istore_n 2, 1) := by decide +kernel
theorem dX5_leastTicks_4 : decode cX5_leastTicks 4 = .ok (.iload_n 2, 1) := by decide +kernel
theorem dX5_leastTicks_5 : decode cX5_leastTicks 5 = .ok (.bipush 16, 2) := by decide +kernel
theorem dX5_leastTicks_7 : decode cX5_leastTicks 7 = .ok (.if_icmp .ge 27, 3) := by decide +kernel
theorem dX5_leastTicks_10 : decode cX5_leastTicks 10 = .ok (.iload_n 1, 1) := by decide +kernel
theorem dX5_leastTicks_11 : decode cX5_leastTicks 11 = .ok (.aload_n 0, 1) := by decide +kernel
theorem dX5_leastTicks_12 : decode cX5_leastTicks 12 = .ok (.iload_n 2, 1) := by decide +kernel
theorem dX5_leastTicks_13 : decode cX5_leastTicks 13 = .ok (.invokevirtual 197, 3) := by decide +kernel
theorem dX5_leastTicks_16 : decode cX5_leastTicks 16 = .ok (.aload_n 0, 1) := by decide +kernel
theorem dX5_leastTicks_17 : decode cX5_leastTicks 17 = .ok (.iload_n 2, 1) := by decide +kernel
theorem dX5_leastTicks_18 : decode cX5_leastTicks 18 = .ok (.invokevirtual 200, 3) := by decide +kernel
theorem dX5_leastTicks_21 : decode cX5_leastTicks 21 = .ok (.invokestatic 203, 3) := by decide +kernel
theorem dX5_leastTicks_24 : decode cX5_leastTicks 24 = .ok (.invokestatic 203, 3) := by decide +kernel
theorem dX5_leastTicks_27 : decode cX5_leastTicks 27 = .ok (.istore_n 1, 1) := by decide +kernel
theorem dX5_leastTicks_28 : decode cX5_leastTicks 28 = .ok (.iinc 2 1, 3) := by decide +kernel
theorem dX5_leastTicks_31 : decode cX5_leastTicks 31 = .ok (.goto (-27), 3) := by decide +kernel
theorem dX5_leastTicks_34 : decode cX5_leastTicks 34 = .ok (.iconst 0, 1) := by decide +kernel
theorem dX5_leastTicks_35 : decode cX5_leastTicks 35 = .ok (.istore_n 2, 1) := by decide +kernel
theorem dX5_leastTicks_36 : decode cX5_leastTicks 36 = .ok (.iload_n 2, 1) := by decide +kernel
theorem dX5_leastTicks_37 : decode cX5_leastTicks 37 = .ok (.iconst 4, 1) := by decide +kernel
theorem dX5_leastTicks_38 : decode cX5_leastTicks 38 = .ok (.if_icmp .ge 64, 3) := by decide +kernel
theorem dX5_leastTicks_41 : decode cX5_leastTicks 41 = .ok (.aload_n 0, 1) := by decide +kernel
theorem dX5_leastTicks_42 : decode cX5_leastTicks 42 = .ok (.iload_n 2, 1) := by decide +kernel
theorem dX5_leastTicks_43 : decode cX5_leastTicks 43 = .ok (.invokevirtual 208, 3) := by decide +kernel
theorem dX5_leastTicks_46 : decode cX5_leastTicks 46 = .ok (.aload_n 0, 1) := by decide +kernel
theorem dX5_leastTicks_47 : decode cX5_leastTicks 47 = .ok (.iload_n 2, 1) := by decide +kernel
theorem dX5_leastTicks_48 : decode cX5_leastTicks 48 = .ok (.invokevirtual 211, 3) := by decide +kernel
theorem dX5_leastTicks_51 : decode cX5_leastTicks 51 = .ok (.invokestatic 203, 3) := by decide +kernel
theorem dX5_leastTicks_54 : decode cX5_leastTicks 54 = .ok (.istore_n 3, 1) := by decide +kernel
theorem dX5_leastTicks_55 : decode cX5_leastTicks 55 = .ok (.aload_n 0, 1) := by decide +kernel
theorem dX5_leastTicks_56 : decode cX5_leastTicks 56 = .ok (.getfield 42, 3) := by decide +kernel
theorem dX5_leastTicks_59 : decode cX5_leastTicks 59 = .ok (.iload_n 2, 1) := by decide +kernel
theorem dX5_leastTicks_60 : decode cX5_leastTicks 60 = .ok (.iaload, 1) := by decide +kernel
theorem dX5_leastTicks_61 : decode cX5_leastTicks 61 = .ok (.invokestatic 143, 3) := by decide +kernel
theorem dX5_leastTicks_64 : decode cX5_leastTicks 64 = .ok (.istore 4, 2) := by decide +kernel
theorem dX5_leastTicks_66 : decode cX5_leastTicks 66 = .ok (.iload_n 3, 1) := by decide +kernel
theorem dX5_leastTicks_67 : decode cX5_leastTicks 67 = .ok (.ifCond .le 10, 3) := by decide +kernel
theorem dX5_leastTicks_70 : decode cX5_leastTicks 70 = .ok (.iload 4, 2) := by decide +kernel
theorem dX5_leastTicks_72 : decode cX5_leastTicks 72 = .ok (.ifCond .ne 5, 3) := by decide +kernel
theorem dX5_leastTicks_75 : decode cX5_leastTicks 75 = .ok (.iconst (-1), 1) := by decide +kernel
theorem dX5_leastTicks_76 : decode cX5_leastTicks 76 = .ok (.ireturn, 1) := by decide +kernel
theorem dX5_leastTicks_77 : decode cX5_leastTicks 77 = .ok (.iload 4, 2) := by decide +kernel
theorem dX5_leastTicks_79 : decode cX5_leastTicks 79 = .ok (.ifCond .le 17, 3) := by decide +kernel
theorem dX5_leastTicks_82 : decode cX5_leastTicks 82 = .ok (.iload_n 1, 1) := by decide +kernel
theorem dX5_leastTicks_83 : decode cX5_leastTicks 83 = .ok (.iload_n 3, 1) := by decide +kernel
theorem dX5_leastTicks_84 : decode cX5_leastTicks 84 = .ok (.iload 4, 2) := by decide +kernel
theorem dX5_leastTicks_86 : decode cX5_leastTicks 86 = .ok (.iadd, 1) := by decide +kernel
theorem dX5_leastTicks_87 : decode cX5_leastTicks 87 = .ok (.iconst 1, 1) := by decide +kernel
theorem dX5_leastTicks_88 : decode cX5_leastTicks 88 = .ok (.isub, 1) := by decide +kernel
theorem dX5_leastTicks_89 : decode cX5_leastTicks 89 = .ok (.iload 4, 2) := by decide +kernel
theorem dX5_leastTicks_91 : decode cX5_leastTicks 91 = .ok (.idiv, 1) := by decide +kernel
theorem dX5_leastTicks_92 : decode cX5_leastTicks 92 = .ok (.invokestatic 203, 3) := by decide +kernel
theorem dX5_leastTicks_95 : decode cX5_leastTicks 95 = .ok (.istore_n 1, 1) := by decide +kernel
theorem dX5_leastTicks_96 : decode cX5_leastTicks 96 = .ok (.iinc 2 1, 3) := by decide +kernel
theorem dX5_leastTicks_99 : decode cX5_leastTicks 99 = .ok (.goto (-63), 3) := by decide +kernel
theorem dX5_leastTicks_102 : decode cX5_leastTicks 102 = .ok (.iload_n 1, 1) := by decide +kernel
theorem dX5_leastTicks_103 : decode cX5_leastTicks 103 = .ok (.ireturn, 1) := by decide +kernel
set_option maxRecDepth 20000 in
theorem ggX5_unsentBy_X0_unsent : GoodIn wsX5_unsentBy wsX0_unsent := goodIn_r _ [6, 7, 8, 9, 23, 24, 25, 26, 27, 28, 29, 30, 31, 32, 33, 34, 35] (by decide +kernel) (by decide +kernel)
set_option maxRecDepth 20000 in
theorem gX5_unsentBy_X0_unsent_n217 : GoodIn wsX5_unsentBy (wsX0_unsent) := ggX5_unsentBy_X0_unsent
theorem dX5_unsentBy_0 : decode cX5_unsentBy 0 = .ok (.iconst 0, 1) := by decide +kernel
theorem dX5_unsentBy_1 : decode cX5_unsentBy 1 = .ok (.istore_n 2, 1) := by decide +kernel
theorem dX5_unsentBy_2 : decode cX5_unsentBy 2 = .ok (.iconst 0, 1) := by decide +kernel
theorem dX5_unsentBy_3 : decode cX5_unsentBy 3 = .ok (.istore_n 3, 1) := by decide +kernel
theorem dX5_unsentBy_4 : decode cX5_unsentBy 4 = .ok (.iload_n 3, 1) := by decide +kernel
theorem dX5_unsentBy_5 : decode cX5_unsentBy 5 = .ok (.aload_n 0, 1) := by decide +kernel
theorem dX5_unsentBy_6 : decode cX5_unsentBy 6 = .ok (.getfield 93, 3) := by decide +kernel
theorem dX5_unsentBy_9 : decode cX5_unsentBy 9 = .ok (.if_icmp .ge 34, 3) := by decide +kernel
theorem dX5_unsentBy_12 : decode cX5_unsentBy 12 = .ok (.aload_n 0, 1) := by decide +kernel
theorem dX5_unsentBy_13 : decode cX5_unsentBy 13 = .ok (.getfield 11, 3) := by decide +kernel
theorem dX5_unsentBy_16 : decode cX5_unsentBy 16 = .ok (.iload_n 3, 1) := by decide +kernel
theorem dX5_unsentBy_17 : decode cX5_unsentBy 17 = .ok (.aaload, 1) := by decide +kernel
theorem dX5_unsentBy_18 : decode cX5_unsentBy 18 = .ok (.getfield 214, 3) := by decide +kernel
theorem dX5_unsentBy_21 : decode cX5_unsentBy 21 = .ok (.iload_n 1, 1) := by decide +kernel
theorem dX5_unsentBy_22 : decode cX5_unsentBy 22 = .ok (.if_icmp .ne 15, 3) := by decide +kernel
theorem dX5_unsentBy_25 : decode cX5_unsentBy 25 = .ok (.iload_n 2, 1) := by decide +kernel
theorem dX5_unsentBy_26 : decode cX5_unsentBy 26 = .ok (.aload_n 0, 1) := by decide +kernel
theorem dX5_unsentBy_27 : decode cX5_unsentBy 27 = .ok (.getfield 11, 3) := by decide +kernel
theorem dX5_unsentBy_30 : decode cX5_unsentBy 30 = .ok (.iload_n 3, 1) := by decide +kernel
theorem dX5_unsentBy_31 : decode cX5_unsentBy 31 = .ok (.aaload, 1) := by decide +kernel
theorem dX5_unsentBy_32 : decode cX5_unsentBy 32 = .ok (.invokevirtual 217, 3) := by decide +kernel
theorem dX5_unsentBy_35 : decode cX5_unsentBy 35 = .ok (.iadd, 1) := by decide +kernel
theorem dX5_unsentBy_36 : decode cX5_unsentBy 36 = .ok (.istore_n 2, 1) := by decide +kernel
theorem dX5_unsentBy_37 : decode cX5_unsentBy 37 = .ok (.iinc 3 1, 3) := by decide +kernel
theorem dX5_unsentBy_40 : decode cX5_unsentBy 40 = .ok (.goto (-36), 3) := by decide +kernel
theorem dX5_unsentBy_43 : decode cX5_unsentBy 43 = .ok (.iload_n 2, 1) := by decide +kernel
theorem dX5_unsentBy_44 : decode cX5_unsentBy 44 = .ok (.ireturn, 1) := by decide +kernel
set_option maxRecDepth 20000 in
theorem ggX5_unsentFor_X0_unsent : GoodIn wsX5_unsentFor wsX0_unsent := goodIn_r _ [6, 7, 8, 9, 23, 24, 25, 26, 27, 28, 29, 30, 31, 32, 33, 34, 35] (by decide +kernel) (by decide +kernel)
set_option maxRecDepth 20000 in
theorem gX5_unsentFor_X0_unsent_n217 : GoodIn wsX5_unsentFor (wsX0_unsent) := ggX5_unsentFor_X0_unsent
theorem dX5_unsentFor_0 : decode cX5_unsentFor 0 = .ok (.iconst 0, 1) := by decide +kernel
theorem dX5_unsentFor_1 : decode cX5_unsentFor 1 = .ok (.istore_n 2, 1) := by decide +kernel
theorem dX5_unsentFor_2 : decode cX5_unsentFor 2 = .ok (.iconst 0, 1) := by decide +kernel
theorem dX5_unsentFor_3 : decode cX5_unsentFor 3 = .ok (.istore_n 3, 1) := by decide +kernel
theorem dX5_unsentFor_4 : decode cX5_unsentFor 4 = .ok (.iload_n 3, 1) := by decide +kernel
theorem dX5_unsentFor_5 : decode cX5_unsentFor 5 = .ok (.aload_n 0, 1) := by decide +kernel
theorem dX5_unsentFor_6 : decode cX5_unsentFor 6 = .ok (.getfield 93, 3) := by decide +kernel
theorem dX5_unsentFor_9 : decode cX5_unsentFor 9 = .ok (.if_icmp .ge 34, 3) := by decide +kernel
theorem dX5_unsentFor_12 : decode cX5_unsentFor 12 = .ok (.aload_n 0, 1) := by decide +kernel
theorem dX5_unsentFor_13 : decode cX5_unsentFor 13 = .ok (.getfield 11, 3) := by decide +kernel
theorem dX5_unsentFor_16 : decode cX5_unsentFor 16 = .ok (.iload_n 3, 1) := by decide +kernel
theorem dX5_unsentFor_17 : decode cX5_unsentFor 17 = .ok (.aaload, 1) := by decide +kernel
theorem dX5_unsentFor_18 : decode cX5_unsentFor 18 = .ok (.getfield 220, 3) := by decide +kernel
theorem dX5_unsentFor_21 : decode cX5_unsentFor 21 = .ok (.iload_n 1, 1) := by decide +kernel
theorem dX5_unsentFor_22 : decode cX5_unsentFor 22 = .ok (.if_icmp .ne 15, 3) := by decide +kernel
theorem dX5_unsentFor_25 : decode cX5_unsentFor 25 = .ok (.iload_n 2, 1) := by decide +kernel
theorem dX5_unsentFor_26 : decode cX5_unsentFor 26 = .ok (.aload_n 0, 1) := by decide +kernel
theorem dX5_unsentFor_27 : decode cX5_unsentFor 27 = .ok (.getfield 11, 3) := by decide +kernel
theorem dX5_unsentFor_30 : decode cX5_unsentFor 30 = .ok (.iload_n 3, 1) := by decide +kernel
theorem dX5_unsentFor_31 : decode cX5_unsentFor 31 = .ok (.aaload, 1) := by decide +kernel
theorem dX5_unsentFor_32 : decode cX5_unsentFor 32 = .ok (.invokevirtual 217, 3) := by decide +kernel
theorem dX5_unsentFor_35 : decode cX5_unsentFor 35 = .ok (.iadd, 1) := by decide +kernel
theorem dX5_unsentFor_36 : decode cX5_unsentFor 36 = .ok (.istore_n 2, 1) := by decide +kernel
theorem dX5_unsentFor_37 : decode cX5_unsentFor 37 = .ok (.iinc 3 1, 3) := by decide +kernel
theorem dX5_unsentFor_40 : decode cX5_unsentFor 40 = .ok (.goto (-36), 3) := by decide +kernel
theorem dX5_unsentFor_43 : decode cX5_unsentFor 43 = .ok (.iload_n 2, 1) := by decide +kernel
theorem dX5_unsentFor_44 : decode cX5_unsentFor 44 = .ok (.ireturn, 1) := by decide +kernel
set_option maxRecDepth 20000 in
theorem ggX5_unsentOutOf_X0_crossesLeaves : GoodIn wsX5_unsentOutOf wsX0_crossesLeaves := goodIn_r _ [6, 7, 8, 9, 4, 10, 11, 12, 13, 14, 15, 16, 36, 37, 38, 39, 40, 41, 42, 43, 44, 45, 46, 47, 48] (by decide +kernel) (by decide +kernel)
set_option maxRecDepth 20000 in
theorem gX5_unsentOutOf_X0_crossesLeaves_n223 : GoodIn wsX5_unsentOutOf (wsX0_crossesLeaves) := ggX5_unsentOutOf_X0_crossesLeaves
set_option maxRecDepth 20000 in
theorem ggX5_unsentOutOf_X0_sourceLeaf : GoodIn wsX5_unsentOutOf wsX0_sourceLeaf := goodIn_r _ [10, 11, 36, 37, 38, 39, 40, 41, 42, 43, 44, 45, 46, 47, 48] (by decide +kernel) (by decide +kernel)
set_option maxRecDepth 20000 in
theorem gX5_unsentOutOf_X0_sourceLeaf_n227 : GoodIn wsX5_unsentOutOf (wsX0_sourceLeaf) := ggX5_unsentOutOf_X0_sourceLeaf
set_option maxRecDepth 20000 in
theorem ggX5_unsentOutOf_X0_unsent : GoodIn wsX5_unsentOutOf wsX0_unsent := goodIn_r _ [19, 20, 21, 22, 36, 37, 38, 39, 40, 41, 42, 43, 44, 45, 46, 47, 48] (by decide +kernel) (by decide +kernel)
set_option maxRecDepth 20000 in
theorem gX5_unsentOutOf_X0_unsent_n217 : GoodIn wsX5_unsentOutOf (wsX0_unsent) := ggX5_unsentOutOf_X0_unsent
theorem dX5_unsentOutOf_0 : decode cX5_unsentOutOf 0 = .ok (.iconst 0, 1) := by decide +kernel
theorem dX5_unsentOutOf_1 : decode cX5_unsentOutOf 1 = .ok (.istore_n 2, 1) := by decide +kernel
theorem dX5_unsentOutOf_2 : decode cX5_unsentOutOf 2 = .ok (.iconst 0, 1) := by decide +kernel
theorem dX5_unsentOutOf_3 : decode cX5_unsentOutOf 3 = .ok (.istore_n 3, 1) := by decide +kernel
theorem dX5_unsentOutOf_4 : decode cX5_unsentOutOf 4 = .ok (.iload_n 3, 1) := by decide +kernel
theorem dX5_unsentOutOf_5 : decode cX5_unsentOutOf 5 = .ok (.aload_n 0, 1) := by decide +kernel
theorem dX5_unsentOutOf_6 : decode cX5_unsentOutOf 6 = .ok (.getfield 93, 3) := by decide +kernel
theorem dX5_unsentOutOf_9 : decode cX5_unsentOutOf 9 = .ok (.if_icmp .ge 46, 3) := by decide +kernel
theorem dX5_unsentOutOf_12 : decode cX5_unsentOutOf 12 = .ok (.aload_n 0, 1) := by decide +kernel
theorem dX5_unsentOutOf_13 : decode cX5_unsentOutOf 13 = .ok (.getfield 11, 3) := by decide +kernel
theorem dX5_unsentOutOf_16 : decode cX5_unsentOutOf 16 = .ok (.iload_n 3, 1) := by decide +kernel
theorem dX5_unsentOutOf_17 : decode cX5_unsentOutOf 17 = .ok (.aaload, 1) := by decide +kernel
theorem dX5_unsentOutOf_18 : decode cX5_unsentOutOf 18 = .ok (.invokevirtual 223, 3) := by decide +kernel
theorem dX5_unsentOutOf_21 : decode cX5_unsentOutOf 21 = .ok (.ifCond .eq 28, 3) := by decide +kernel
theorem dX5_unsentOutOf_24 : decode cX5_unsentOutOf 24 = .ok (.aload_n 0, 1) := by decide +kernel
theorem dX5_unsentOutOf_25 : decode cX5_unsentOutOf 25 = .ok (.getfield 11, 3) := by decide +kernel
theorem dX5_unsentOutOf_28 : decode cX5_unsentOutOf 28 = .ok (.iload_n 3, 1) := by decide +kernel
theorem dX5_unsentOutOf_29 : decode cX5_unsentOutOf 29 = .ok (.aaload, 1) := by decide +kernel
theorem dX5_unsentOutOf_30 : decode cX5_unsentOutOf 30 = .ok (.invokevirtual 227, 3) := by decide +kernel
theorem dX5_unsentOutOf_33 : decode cX5_unsentOutOf 33 = .ok (.iload_n 1, 1) := by decide +kernel
theorem dX5_unsentOutOf_34 : decode cX5_unsentOutOf 34 = .ok (.if_icmp .ne 15, 3) := by decide +kernel
theorem dX5_unsentOutOf_37 : decode cX5_unsentOutOf 37 = .ok (.iload_n 2, 1) := by decide +kernel
theorem dX5_unsentOutOf_38 : decode cX5_unsentOutOf 38 = .ok (.aload_n 0, 1) := by decide +kernel
theorem dX5_unsentOutOf_39 : decode cX5_unsentOutOf 39 = .ok (.getfield 11, 3) := by decide +kernel
theorem dX5_unsentOutOf_42 : decode cX5_unsentOutOf 42 = .ok (.iload_n 3, 1) := by decide +kernel
theorem dX5_unsentOutOf_43 : decode cX5_unsentOutOf 43 = .ok (.aaload, 1) := by decide +kernel
theorem dX5_unsentOutOf_44 : decode cX5_unsentOutOf 44 = .ok (.invokevirtual 217, 3) := by decide +kernel
theorem dX5_unsentOutOf_47 : decode cX5_unsentOutOf 47 = .ok (.iadd, 1) := by decide +kernel
theorem dX5_unsentOutOf_48 : decode cX5_unsentOutOf 48 = .ok (.istore_n 2, 1) := by decide +kernel
theorem dX5_unsentOutOf_49 : decode cX5_unsentOutOf 49 = .ok (.iinc 3 1, 3) := by decide +kernel
theorem dX5_unsentOutOf_52 : decode cX5_unsentOutOf 52 = .ok (.goto (-48), 3) := by decide +kernel
theorem dX5_unsentOutOf_55 : decode cX5_unsentOutOf 55 = .ok (.iload_n 2, 1) := by decide +kernel
theorem dX5_unsentOutOf_56 : decode cX5_unsentOutOf 56 = .ok (.ireturn, 1) := by decide +kernel
set_option maxRecDepth 20000 in
theorem ggX5_unsentInto_X0_crossesLeaves : GoodIn wsX5_unsentInto wsX0_crossesLeaves := goodIn_r _ [6, 7, 8, 9, 4, 10, 11, 12, 13, 14, 15, 16, 36, 37, 38, 39, 40, 41, 42, 43, 44, 45, 46, 47, 48] (by decide +kernel) (by decide +kernel)
set_option maxRecDepth 20000 in
theorem gX5_unsentInto_X0_crossesLeaves_n223 : GoodIn wsX5_unsentInto (wsX0_crossesLeaves) := ggX5_unsentInto_X0_crossesLeaves
set_option maxRecDepth 20000 in
theorem ggX5_unsentInto_X0_targetLeaf : GoodIn wsX5_unsentInto wsX0_targetLeaf := goodIn_r _ [15, 16, 36, 37, 38, 39, 40, 41, 42, 43, 44, 45, 46, 47, 48] (by decide +kernel) (by decide +kernel)
set_option maxRecDepth 20000 in
theorem gX5_unsentInto_X0_targetLeaf_n230 : GoodIn wsX5_unsentInto (wsX0_targetLeaf) := ggX5_unsentInto_X0_targetLeaf
set_option maxRecDepth 20000 in
theorem ggX5_unsentInto_X0_unsent : GoodIn wsX5_unsentInto wsX0_unsent := goodIn_r _ [19, 20, 21, 22, 36, 37, 38, 39, 40, 41, 42, 43, 44, 45, 46, 47, 48] (by decide +kernel) (by decide +kernel)
set_option maxRecDepth 20000 in
theorem gX5_unsentInto_X0_unsent_n217 : GoodIn wsX5_unsentInto (wsX0_unsent) := ggX5_unsentInto_X0_unsent
theorem dX5_unsentInto_0 : decode cX5_unsentInto 0 = .ok (.iconst 0, 1) := by decide +kernel
theorem dX5_unsentInto_1 : decode cX5_unsentInto 1 = .ok (.istore_n 2, 1) := by decide +kernel
theorem dX5_unsentInto_2 : decode cX5_unsentInto 2 = .ok (.iconst 0, 1) := by decide +kernel
theorem dX5_unsentInto_3 : decode cX5_unsentInto 3 = .ok (.istore_n 3, 1) := by decide +kernel
theorem dX5_unsentInto_4 : decode cX5_unsentInto 4 = .ok (.iload_n 3, 1) := by decide +kernel
theorem dX5_unsentInto_5 : decode cX5_unsentInto 5 = .ok (.aload_n 0, 1) := by decide +kernel
theorem dX5_unsentInto_6 : decode cX5_unsentInto 6 = .ok (.getfield 93, 3) := by decide +kernel
theorem dX5_unsentInto_9 : decode cX5_unsentInto 9 = .ok (.if_icmp .ge 46, 3) := by decide +kernel
theorem dX5_unsentInto_12 : decode cX5_unsentInto 12 = .ok (.aload_n 0, 1) := by decide +kernel
theorem dX5_unsentInto_13 : decode cX5_unsentInto 13 = .ok (.getfield 11, 3) := by decide +kernel
theorem dX5_unsentInto_16 : decode cX5_unsentInto 16 = .ok (.iload_n 3, 1) := by decide +kernel
theorem dX5_unsentInto_17 : decode cX5_unsentInto 17 = .ok (.aaload, 1) := by decide +kernel
theorem dX5_unsentInto_18 : decode cX5_unsentInto 18 = .ok (.invokevirtual 223, 3) := by decide +kernel
theorem dX5_unsentInto_21 : decode cX5_unsentInto 21 = .ok (.ifCond .eq 28, 3) := by decide +kernel
theorem dX5_unsentInto_24 : decode cX5_unsentInto 24 = .ok (.aload_n 0, 1) := by decide +kernel
theorem dX5_unsentInto_25 : decode cX5_unsentInto 25 = .ok (.getfield 11, 3) := by decide +kernel
theorem dX5_unsentInto_28 : decode cX5_unsentInto 28 = .ok (.iload_n 3, 1) := by decide +kernel
theorem dX5_unsentInto_29 : decode cX5_unsentInto 29 = .ok (.aaload, 1) := by decide +kernel
theorem dX5_unsentInto_30 : decode cX5_unsentInto 30 = .ok (.invokevirtual 230, 3) := by decide +kernel
theorem dX5_unsentInto_33 : decode cX5_unsentInto 33 = .ok (.iload_n 1, 1) := by decide +kernel
theorem dX5_unsentInto_34 : decode cX5_unsentInto 34 = .ok (.if_icmp .ne 15, 3) := by decide +kernel
theorem dX5_unsentInto_37 : decode cX5_unsentInto 37 = .ok (.iload_n 2, 1) := by decide +kernel
theorem dX5_unsentInto_38 : decode cX5_unsentInto 38 = .ok (.aload_n 0, 1) := by decide +kernel
theorem dX5_unsentInto_39 : decode cX5_unsentInto 39 = .ok (.getfield 11, 3) := by decide +kernel
theorem dX5_unsentInto_42 : decode cX5_unsentInto 42 = .ok (.iload_n 3, 1) := by decide +kernel
theorem dX5_unsentInto_43 : decode cX5_unsentInto 43 = .ok (.aaload, 1) := by decide +kernel
theorem dX5_unsentInto_44 : decode cX5_unsentInto 44 = .ok (.invokevirtual 217, 3) := by decide +kernel
theorem dX5_unsentInto_47 : decode cX5_unsentInto 47 = .ok (.iadd, 1) := by decide +kernel
theorem dX5_unsentInto_48 : decode cX5_unsentInto 48 = .ok (.istore_n 2, 1) := by decide +kernel
theorem dX5_unsentInto_49 : decode cX5_unsentInto 49 = .ok (.iinc 3 1, 3) := by decide +kernel
theorem dX5_unsentInto_52 : decode cX5_unsentInto 52 = .ok (.goto (-48), 3) := by decide +kernel
theorem dX5_unsentInto_55 : decode cX5_unsentInto 55 = .ok (.iload_n 2, 1) := by decide +kernel
theorem dX5_unsentInto_56 : decode cX5_unsentInto 56 = .ok (.ireturn, 1) := by decide +kernel
set_option maxRecDepth 20000 in
theorem ggX5_runTick_X5_takeCreditsBack : GoodIn wsX5_runTick wsX5_takeCreditsBack := goodIn_r _ [7, 1, 8, 9, 10, 11, 12, 13, 14, 165, 166, 167, 168, 169, 170, 171, 172, 173, 174, 175, 176, 177, 178, 179, 180, 181, 182, 183, 184] (by decide +kernel) (by decide +kernel)
set_option maxRecDepth 20000 in
theorem gX5_runTick_X5_takeCreditsBack : GoodIn wsX5_runTick (wsV RX5 233 RX5 yX5_takeCreditsBack wsX5_takeCreditsBack) := goodIn_app (goodIn_of _ (by decide +kernel)) ggX5_runTick_X5_takeCreditsBack
set_option maxRecDepth 20000 in
theorem ggX5_runTick_X5_deliverAll : GoodIn wsX5_runTick wsX5_deliverAll := goodIn_r _ [18, 19, 20, 1, 21, 10, 22, 23, 24, 25, 26, 27, 28, 29, 30, 31, 32, 33, 34, 35, 36, 37, 38, 14, 165, 166, 167, 168, 169, 170, 171, 172, 173, 174, 175, 176, 177, 185, 186, 187, 188, 178, 179, 180, 181, 182, 183, 184, 189, 190, 191, 192, 193, 194, 195, 196, 197, 198, 199, 200, 201, 202, 203, 204, 205] (by decide +kernel) (by decide +kernel)
set_option maxRecDepth 20000 in
theorem gX5_runTick_X5_deliverAll : GoodIn wsX5_runTick (wsV RX5 236 RX5 yX5_deliverAll wsX5_deliverAll) := goodIn_app (goodIn_of _ (by decide +kernel)) ggX5_runTick_X5_deliverAll
set_option maxRecDepth 20000 in
theorem ggX5_runTick_X5_loseAtSpines : GoodIn wsX5_runTick wsX5_loseAtSpines := goodIn_r _ [42, 20, 19, 43, 44, 45, 6, 46, 47, 21, 10, 22, 23, 24, 25, 48, 27, 49, 50, 51, 52, 53, 54, 55, 56, 35, 36, 37, 38, 14, 178, 179, 180, 181, 182, 183, 184, 165, 166, 167, 168, 169, 170, 171, 172, 173, 174, 175, 176, 177, 189, 190, 191, 192, 193, 194, 195, 196, 197, 198, 199, 200, 201, 202, 203, 204, 205, 185, 186, 187, 188] (by decide +kernel) (by decide +kernel)
set_option maxRecDepth 20000 in
theorem gX5_runTick_X5_loseAtSpines : GoodIn wsX5_runTick (wsV RX5 239 RX5 yX5_loseAtSpines wsX5_loseAtSpines) := goodIn_app (goodIn_of _ (by decide +kernel)) ggX5_runTick_X5_loseAtSpines
set_option maxRecDepth 20000 in
theorem ggX5_runTick_X5_aimAtLeaves : GoodIn wsX5_runTick wsX5_aimAtLeaves := goodIn_r _ [60, 61, 62, 63, 64, 6, 65, 20, 21, 10, 22, 23, 24, 25, 48, 27, 49, 50, 51, 66, 67, 68, 69, 70, 71, 72, 73, 56, 74, 75, 76, 77, 78, 79, 80, 81, 82, 83, 84, 85, 86, 87, 88, 165, 166, 167, 168, 169, 170, 171, 172, 173, 174, 175, 176, 177, 206, 207, 208, 178, 179, 180, 181, 182, 183, 184, 189, 190, 191, 192, 193, 194, 195, 196, 197, 198, 199, 200, 201, 202, 203, 204, 205] (by decide +kernel) (by decide +kernel)
set_option maxRecDepth 20000 in
theorem gX5_runTick_X5_aimAtLeaves : GoodIn wsX5_runTick (wsV RX5 242 RX5 yX5_aimAtLeaves wsX5_aimAtLeaves) := goodIn_app (goodIn_of _ (by decide +kernel)) ggX5_runTick_X5_aimAtLeaves
set_option maxRecDepth 20000 in
theorem ggX5_runTick_X5_aimAtSpines : GoodIn wsX5_runTick wsX5_aimAtSpines := goodIn_r _ [92, 93, 94, 95, 96, 6, 97, 20, 21, 10, 22, 23, 24, 25, 48, 27, 49, 50, 51, 52, 53, 54, 55, 56, 165, 166, 167, 168, 169, 170, 171, 172, 173, 174, 175, 176, 177, 206, 207, 208, 178, 179, 180, 181, 182, 183, 184, 189, 190, 191, 192, 193, 194, 195, 196, 197, 198, 199, 200, 201, 202, 203, 204, 205] (by decide +kernel) (by decide +kernel)
set_option maxRecDepth 20000 in
theorem gX5_runTick_X5_aimAtSpines : GoodIn wsX5_runTick (wsV RX5 245 RX5 yX5_aimAtSpines wsX5_aimAtSpines) := goodIn_app (goodIn_of _ (by decide +kernel)) ggX5_runTick_X5_aimAtSpines
set_option maxRecDepth 20000 in
theorem ggX5_runTick_X5_pickAll : GoodIn wsX5_runTick wsX5_pickAll := goodIn_r _ [101, 61, 93, 102, 103, 104, 105, 106, 107, 108, 10, 109, 110, 111, 13, 112, 165, 166, 167, 168, 169, 170, 171, 172, 173, 174, 175, 176, 177, 206, 207, 208, 178, 179, 180, 181, 182, 183, 184] (by decide +kernel) (by decide +kernel)
set_option maxRecDepth 20000 in
theorem gX5_runTick_X5_pickAll : GoodIn wsX5_runTick (wsV RX5 248 RX5 yX5_pickAll wsX5_pickAll) := goodIn_app (goodIn_of _ (by decide +kernel)) ggX5_runTick_X5_pickAll
set_option maxRecDepth 20000 in
theorem ggX5_runTick_X5_moveAll : GoodIn wsX5_runTick wsX5_moveAll := goodIn_r _ [116, 61, 93, 117, 103, 118, 119, 106, 120, 21, 10, 22, 23, 24, 25, 121, 122, 123, 13, 38, 124, 125, 126, 127, 128, 129, 130, 131, 35, 36, 37, 14, 165, 166, 167, 168, 169, 170, 171, 172, 173, 174, 175, 176, 177, 206, 207, 208, 178, 179, 180, 181, 182, 183, 184, 189, 190, 191, 192] (by decide +kernel) (by decide +kernel)
set_option maxRecDepth 20000 in
theorem gX5_runTick_X5_moveAll : GoodIn wsX5_runTick (wsV RX5 251 RX5 yX5_moveAll wsX5_moveAll) := goodIn_app (goodIn_of _ (by decide +kernel)) ggX5_runTick_X5_moveAll
set_option maxRecDepth 20000 in
theorem ggX5_runTick_X5_sendAll : GoodIn wsX5_runTick wsX5_sendAll := goodIn_r _ [135, 19, 136, 137, 138, 6, 139, 140, 20, 141, 142, 143, 144, 1, 145, 146, 27, 147, 148, 33, 149, 150, 151, 152, 153, 154, 78, 79, 80, 81, 155, 48, 49, 50, 51, 70, 71, 72, 73, 56, 156, 157, 158, 159, 160, 161, 162, 163, 164, 66, 67, 68, 69, 74, 75, 76, 77, 82, 83, 84, 85, 86, 87, 88, 121, 10, 122, 123, 13, 24, 25, 38, 124, 125, 126, 127, 128, 129, 130, 131, 165, 166, 167, 168, 169, 170, 171, 172, 173, 174, 175, 176, 177, 185, 186, 187, 188, 178, 179, 180, 181, 182, 183, 184, 193, 194, 195, 196, 197, 198, 199, 200, 201, 202, 203, 204, 205, 189, 190, 191, 192] (by decide +kernel) (by decide +kernel)
set_option maxRecDepth 20000 in
theorem gX5_runTick_X5_sendAll : GoodIn wsX5_runTick (wsV RX5 254 RX5 yX5_sendAll wsX5_sendAll) := goodIn_app (goodIn_of _ (by decide +kernel)) ggX5_runTick_X5_sendAll
theorem dX5_runTick_0 : decode cX5_runTick 0 = .ok (.aload_n 0, 1) := by decide +kernel
theorem dX5_runTick_1 : decode cX5_runTick 1 = .ok (.getfield 96, 3) := by decide +kernel
theorem dX5_runTick_4 : decode cX5_runTick 4 = .ok (.iconst 1, 1) := by decide +kernel
theorem dX5_runTick_5 : decode cX5_runTick 5 = .ok (.iadd, 1) := by decide +kernel
theorem dX5_runTick_6 : decode cX5_runTick 6 = .ok (.aload_n 0, 1) := by decide +kernel
theorem dX5_runTick_7 : decode cX5_runTick 7 = .ok (.getfield 83, 3) := by decide +kernel
theorem dX5_runTick_10 : decode cX5_runTick 10 = .ok (.iadd, 1) := by decide +kernel
theorem dX5_runTick_11 : decode cX5_runTick 11 = .ok (.bipush 7, 2) := by decide +kernel
theorem dX5_runTick_13 : decode cX5_runTick 13 = .ok (.irem, 1) := by decide +kernel
theorem dX5_runTick_14 : decode cX5_runTick 14 = .ok (.istore_n 1, 1) := by decide +kernel
theorem dX5_runTick_15 : decode cX5_runTick 15 = .ok (.aload_n 0, 1) := by decide +kernel
theorem dX5_runTick_16 : decode cX5_runTick 16 = .ok (.invokevirtual 233, 3) := by decide +kernel
theorem dX5_runTick_19 : decode cX5_runTick 19 = .ok (.aload_n 0, 1) := by decide +kernel
theorem dX5_runTick_20 : decode cX5_runTick 20 = .ok (.iload_n 1, 1) := by decide +kernel
theorem dX5_runTick_21 : decode cX5_runTick 21 = .ok (.invokevirtual 236, 3) := by decide +kernel
theorem dX5_runTick_24 : decode cX5_runTick 24 = .ok (.istore_n 2, 1) := by decide +kernel
theorem dX5_runTick_25 : decode cX5_runTick 25 = .ok (.aload_n 0, 1) := by decide +kernel
theorem dX5_runTick_26 : decode cX5_runTick 26 = .ok (.iload_n 1, 1) := by decide +kernel
theorem dX5_runTick_27 : decode cX5_runTick 27 = .ok (.invokevirtual 239, 3) := by decide +kernel
theorem dX5_runTick_30 : decode cX5_runTick 30 = .ok (.aload_n 0, 1) := by decide +kernel
theorem dX5_runTick_31 : decode cX5_runTick 31 = .ok (.invokevirtual 242, 3) := by decide +kernel
theorem dX5_runTick_34 : decode cX5_runTick 34 = .ok (.aload_n 0, 1) := by decide +kernel
theorem dX5_runTick_35 : decode cX5_runTick 35 = .ok (.invokevirtual 245, 3) := by decide +kernel
theorem dX5_runTick_38 : decode cX5_runTick 38 = .ok (.aload_n 0, 1) := by decide +kernel
theorem dX5_runTick_39 : decode cX5_runTick 39 = .ok (.invokevirtual 248, 3) := by decide +kernel
theorem dX5_runTick_42 : decode cX5_runTick 42 = .ok (.aload_n 0, 1) := by decide +kernel
theorem dX5_runTick_43 : decode cX5_runTick 43 = .ok (.iload_n 1, 1) := by decide +kernel
theorem dX5_runTick_44 : decode cX5_runTick 44 = .ok (.invokevirtual 251, 3) := by decide +kernel
theorem dX5_runTick_47 : decode cX5_runTick 47 = .ok (.aload_n 0, 1) := by decide +kernel
theorem dX5_runTick_48 : decode cX5_runTick 48 = .ok (.invokevirtual 254, 3) := by decide +kernel
theorem dX5_runTick_51 : decode cX5_runTick 51 = .ok (.aload_n 0, 1) := by decide +kernel
theorem dX5_runTick_52 : decode cX5_runTick 52 = .ok (.dup, 1) := by decide +kernel
theorem dX5_runTick_53 : decode cX5_runTick 53 = .ok (.getfield 96, 3) := by decide +kernel
theorem dX5_runTick_56 : decode cX5_runTick 56 = .ok (.iconst 1, 1) := by decide +kernel
theorem dX5_runTick_57 : decode cX5_runTick 57 = .ok (.iadd, 1) := by decide +kernel
theorem dX5_runTick_58 : decode cX5_runTick 58 = .ok (.putfield 96, 3) := by decide +kernel
theorem dX5_runTick_61 : decode cX5_runTick 61 = .ok (.iload_n 2, 1) := by decide +kernel
theorem dX5_runTick_62 : decode cX5_runTick 62 = .ok (.ireturn, 1) := by decide +kernel
set_option maxRecDepth 20000 in
theorem ggX5_takeCreditsBack_X2_takeBack : GoodIn wsX5_takeCreditsBack wsX2_takeBack := goodIn_r _ [6, 7, 8, 22, 23, 24, 25, 26, 27, 28] (by decide +kernel) (by decide +kernel)
set_option maxRecDepth 20000 in
theorem gX5_takeCreditsBack_X2_takeBack_n257 : GoodIn wsX5_takeCreditsBack (wsX2_takeBack) := ggX5_takeCreditsBack_X2_takeBack
theorem dX5_takeCreditsBack_0 : decode cX5_takeCreditsBack 0 = .ok (.aload_n 0, 1) := by decide +kernel
theorem dX5_takeCreditsBack_1 : decode cX5_takeCreditsBack 1 = .ok (.getfield 96, 3) := by decide +kernel
theorem dX5_takeCreditsBack_4 : decode cX5_takeCreditsBack 4 = .ok (.bipush 7, 2) := by decide +kernel
theorem dX5_takeCreditsBack_6 : decode cX5_takeCreditsBack 6 = .ok (.irem, 1) := by decide +kernel
theorem dX5_takeCreditsBack_7 : decode cX5_takeCreditsBack 7 = .ok (.istore_n 1, 1) := by decide +kernel
theorem dX5_takeCreditsBack_8 : decode cX5_takeCreditsBack 8 = .ok (.iconst 0, 1) := by decide +kernel
theorem dX5_takeCreditsBack_9 : decode cX5_takeCreditsBack 9 = .ok (.istore_n 2, 1) := by decide +kernel
theorem dX5_takeCreditsBack_10 : decode cX5_takeCreditsBack 10 = .ok (.iload_n 2, 1) := by decide +kernel
theorem dX5_takeCreditsBack_11 : decode cX5_takeCreditsBack 11 = .ok (.aload_n 0, 1) := by decide +kernel
theorem dX5_takeCreditsBack_12 : decode cX5_takeCreditsBack 12 = .ok (.getfield 23, 3) := by decide +kernel
theorem dX5_takeCreditsBack_15 : decode cX5_takeCreditsBack 15 = .ok (.arraylength, 1) := by decide +kernel
theorem dX5_takeCreditsBack_16 : decode cX5_takeCreditsBack 16 = .ok (.if_icmp .ge 19, 3) := by decide +kernel
theorem dX5_takeCreditsBack_19 : decode cX5_takeCreditsBack 19 = .ok (.aload_n 0, 1) := by decide +kernel
theorem dX5_takeCreditsBack_20 : decode cX5_takeCreditsBack 20 = .ok (.getfield 23, 3) := by decide +kernel
theorem dX5_takeCreditsBack_23 : decode cX5_takeCreditsBack 23 = .ok (.iload_n 2, 1) := by decide +kernel
theorem dX5_takeCreditsBack_24 : decode cX5_takeCreditsBack 24 = .ok (.aaload, 1) := by decide +kernel
theorem dX5_takeCreditsBack_25 : decode cX5_takeCreditsBack 25 = .ok (.iload_n 1, 1) := by decide +kernel
theorem dX5_takeCreditsBack_26 : decode cX5_takeCreditsBack 26 = .ok (.invokevirtual 257, 3) := by decide +kernel
theorem dX5_takeCreditsBack_29 : decode cX5_takeCreditsBack 29 = .ok (.iinc 2 1, 3) := by decide +kernel
theorem dX5_takeCreditsBack_32 : decode cX5_takeCreditsBack 32 = .ok (.goto (-22), 3) := by decide +kernel
theorem dX5_takeCreditsBack_35 : decode cX5_takeCreditsBack 35 = .ok (.return_, 1) := by decide +kernel
set_option maxRecDepth 20000 in
theorem ggX5_deliverAll_X2_firstPacket : GoodIn wsX5_deliverAll wsX2_firstPacket := goodIn_r _ [7, 8, 9, 41, 42, 43, 44, 45, 46, 47] (by decide +kernel) (by decide +kernel)
set_option maxRecDepth 20000 in
theorem gX5_deliverAll_X2_firstPacket_n260 : GoodIn wsX5_deliverAll (wsX2_firstPacket) := ggX5_deliverAll_X2_firstPacket
set_option maxRecDepth 20000 in
theorem ggX5_deliverAll_X0_countDelivered : GoodIn wsX5_deliverAll wsX0_countDelivered := goodIn_r _ [13, 14, 15, 16, 17, 18, 52, 53, 54, 55, 56, 57, 58, 59, 60, 61, 62, 63, 64] (by decide +kernel) (by decide +kernel)
set_option maxRecDepth 20000 in
theorem gX5_deliverAll_X0_countDelivered_n272 : GoodIn wsX5_deliverAll (wsX0_countDelivered) := ggX5_deliverAll_X0_countDelivered
set_option maxRecDepth 20000 in
theorem ggX5_deliverAll_X2_drop : GoodIn wsX5_deliverAll wsX2_drop := goodIn_r _ [21, 9, 22, 23, 41, 42, 43, 44, 45, 46, 47] (by decide +kernel) (by decide +kernel)
set_option maxRecDepth 20000 in
theorem gX5_deliverAll_X2_drop_n275 : GoodIn wsX5_deliverAll (wsX2_drop) := ggX5_deliverAll_X2_drop
theorem dX5_deliverAll_0 : decode cX5_deliverAll 0 = .ok (.iconst 0, 1) := by decide +kernel
theorem dX5_deliverAll_1 : decode cX5_deliverAll 1 = .ok (.istore_n 2, 1) := by decide +kernel
theorem dX5_deliverAll_2 : decode cX5_deliverAll 2 = .ok (.iconst 0, 1) := by decide +kernel
theorem dX5_deliverAll_3 : decode cX5_deliverAll 3 = .ok (.istore_n 3, 1) := by decide +kernel
theorem dX5_deliverAll_4 : decode cX5_deliverAll 4 = .ok (.iload_n 3, 1) := by decide +kernel
theorem dX5_deliverAll_5 : decode cX5_deliverAll 5 = .ok (.bipush 16, 2) := by decide +kernel
theorem dX5_deliverAll_7 : decode cX5_deliverAll 7 = .ok (.if_icmp .ge 81, 3) := by decide +kernel
theorem dX5_deliverAll_10 : decode cX5_deliverAll 10 = .ok (.aload_n 0, 1) := by decide +kernel
theorem dX5_deliverAll_11 : decode cX5_deliverAll 11 = .ok (.getfield 17, 3) := by decide +kernel
theorem dX5_deliverAll_14 : decode cX5_deliverAll 14 = .ok (.iload_n 3, 1) := by decide +kernel
theorem dX5_deliverAll_15 : decode cX5_deliverAll 15 = .ok (.aaload, 1) := by decide +kernel
theorem dX5_deliverAll_16 : decode cX5_deliverAll 16 = .ok (.getfield 52, 3) := by decide +kernel
theorem dX5_deliverAll_19 : decode cX5_deliverAll 19 = .ok (.astore 4, 2) := by decide +kernel
theorem dX5_deliverAll_21 : decode cX5_deliverAll 21 = .ok (.aload 4, 2) := by decide +kernel
theorem dX5_deliverAll_23 : decode cX5_deliverAll 23 = .ok (.getfield 138, 3) := by decide +kernel
theorem dX5_deliverAll_26 : decode cX5_deliverAll 26 = .ok (.ifCond .le 56, 3) := by decide +kernel
theorem dX5_deliverAll_29 : decode cX5_deliverAll 29 = .ok (.aload 4, 2) := by decide +kernel
theorem dX5_deliverAll_31 : decode cX5_deliverAll 31 = .ok (.invokevirtual 260, 3) := by decide +kernel
theorem dX5_deliverAll_34 : decode cX5_deliverAll 34 = .ok (.astore 5, 2) := by decide +kernel
theorem dX5_deliverAll_36 : decode cX5_deliverAll 36 = .ok (.aload_n 0, 1) := by decide +kernel
theorem dX5_deliverAll_37 : decode cX5_deliverAll 37 = .ok (.getfield 11, 3) := by decide +kernel
theorem dX5_deliverAll_40 : decode cX5_deliverAll 40 = .ok (.aload 5, 2) := by decide +kernel
theorem dX5_deliverAll_42 : decode cX5_deliverAll 42 = .ok (.getfield 264, 3) := by decide +kernel
theorem dX5_deliverAll_45 : decode cX5_deliverAll 45 = .ok (.aaload, 1) := by decide +kernel
theorem dX5_deliverAll_46 : decode cX5_deliverAll 46 = .ok (.aload 5, 2) := by decide +kernel
theorem dX5_deliverAll_48 : decode cX5_deliverAll 48 = .ok (.getfield 269, 3) := by decide +kernel
theorem dX5_deliverAll_51 : decode cX5_deliverAll 51 = .ok (.aload_n 0, 1) := by decide +kernel
theorem dX5_deliverAll_52 : decode cX5_deliverAll 52 = .ok (.getfield 96, 3) := by decide +kernel
theorem dX5_deliverAll_55 : decode cX5_deliverAll 55 = .ok (.invokevirtual 272, 3) := by decide +kernel
theorem dX5_deliverAll_58 : decode cX5_deliverAll 58 = .ok (.aload_n 0, 1) := by decide +kernel
theorem dX5_deliverAll_59 : decode cX5_deliverAll 59 = .ok (.getfield 17, 3) := by decide +kernel
theorem dX5_deliverAll_62 : decode cX5_deliverAll 62 = .ok (.iload_n 3, 1) := by decide +kernel
theorem dX5_deliverAll_63 : decode cX5_deliverAll 63 = .ok (.aaload, 1) := by decide +kernel
theorem dX5_deliverAll_64 : decode cX5_deliverAll 64 = .ok (.dup, 1) := by decide +kernel
theorem dX5_deliverAll_65 : decode cX5_deliverAll 65 = .ok (.getfield 188, 3) := by decide +kernel
theorem dX5_deliverAll_68 : decode cX5_deliverAll 68 = .ok (.iconst 1, 1) := by decide +kernel
theorem dX5_deliverAll_69 : decode cX5_deliverAll 69 = .ok (.isub, 1) := by decide +kernel
theorem dX5_deliverAll_70 : decode cX5_deliverAll 70 = .ok (.putfield 188, 3) := by decide +kernel
theorem dX5_deliverAll_73 : decode cX5_deliverAll 73 = .ok (.aload 4, 2) := by decide +kernel
theorem dX5_deliverAll_75 : decode cX5_deliverAll 75 = .ok (.iload_n 1, 1) := by decide +kernel
theorem dX5_deliverAll_76 : decode cX5_deliverAll 76 = .ok (.invokevirtual 275, 3) := by decide +kernel
theorem dX5_deliverAll_79 : decode cX5_deliverAll 79 = .ok (.iinc 2 1, 3) := by decide +kernel
theorem dX5_deliverAll_82 : decode cX5_deliverAll 82 = .ok (.iinc 3 1, 3) := by decide +kernel
theorem dX5_deliverAll_85 : decode cX5_deliverAll 85 = .ok (.goto (-81), 3) := by decide +kernel
theorem dX5_deliverAll_88 : decode cX5_deliverAll 88 = .ok (.iload_n 2, 1) := by decide +kernel
theorem dX5_deliverAll_89 : decode cX5_deliverAll 89 = .ok (.ireturn, 1) := by decide +kernel
set_option maxRecDepth 20000 in
theorem ggX5_loseAtSpines_X5_northOf : GoodIn wsX5_loseAtSpines wsX5_northOf := goodIn_r _ [7, 8, 37, 38, 39, 40, 41, 42, 43, 44, 45, 46, 47, 48, 49] (by decide +kernel) (by decide +kernel)
set_option maxRecDepth 20000 in
theorem gX5_loseAtSpines_X5_northOf : GoodIn wsX5_loseAtSpines (wsV RX5 80 RX5 yX5_northOf wsX5_northOf) := goodIn_app (goodIn_of _ (by decide +kernel)) ggX5_loseAtSpines_X5_northOf
set_option maxRecDepth 20000 in
theorem ggX5_loseAtSpines_X2_firstPacket : GoodIn wsX5_loseAtSpines wsX2_firstPacket := goodIn_r _ [12, 13, 14, 30, 31, 32, 33, 34, 35, 36] (by decide +kernel) (by decide +kernel)
set_option maxRecDepth 20000 in
theorem gX5_loseAtSpines_X2_firstPacket_n260 : GoodIn wsX5_loseAtSpines (wsX2_firstPacket) := ggX5_loseAtSpines_X2_firstPacket
set_option maxRecDepth 20000 in
theorem ggX5_loseAtSpines_X0_targetLeaf : GoodIn wsX5_loseAtSpines wsX0_targetLeaf := goodIn_r _ [18, 19, 54, 55, 56, 57, 58, 59, 60, 61, 62, 63, 64, 65, 66] (by decide +kernel) (by decide +kernel)
set_option maxRecDepth 20000 in
theorem gX5_loseAtSpines_X0_targetLeaf_n230 : GoodIn wsX5_loseAtSpines (wsX0_targetLeaf) := ggX5_loseAtSpines_X0_targetLeaf
set_option maxRecDepth 20000 in
theorem ggX5_loseAtSpines_X5_isCut : GoodIn wsX5_loseAtSpines wsX5_isCut := goodIn_r _ [23, 24, 37, 38, 39, 40, 41, 42, 43, 44, 45, 46, 47, 48, 49] (by decide +kernel) (by decide +kernel)
set_option maxRecDepth 20000 in
theorem gX5_loseAtSpines_X5_isCut : GoodIn wsX5_loseAtSpines (wsV RX5 132 RX5 yX5_isCut wsX5_isCut) := goodIn_app (goodIn_of _ (by decide +kernel)) ggX5_loseAtSpines_X5_isCut
set_option maxRecDepth 20000 in
theorem ggX5_loseAtSpines_X2_drop : GoodIn wsX5_loseAtSpines wsX2_drop := goodIn_r _ [27, 14, 28, 29, 30, 31, 32, 33, 34, 35, 36] (by decide +kernel) (by decide +kernel)
set_option maxRecDepth 20000 in
theorem gX5_loseAtSpines_X2_drop_n275 : GoodIn wsX5_loseAtSpines (wsX2_drop) := ggX5_loseAtSpines_X2_drop
theorem dX5_loseAtSpines_0 : decode cX5_loseAtSpines 0 = .ok (.iconst 0, 1) := by decide +kernel
theorem dX5_loseAtSpines_1 : decode cX5_loseAtSpines 1 = .ok (.istore_n 2, 1) := by decide +kernel
theorem dX5_loseAtSpines_2 : decode cX5_loseAtSpines 2 = .ok (.iload_n 2, 1) := by decide +kernel
theorem dX5_loseAtSpines_3 : decode cX5_loseAtSpines 3 = .ok (.iconst 4, 1) := by decide +kernel
theorem dX5_loseAtSpines_4 : decode cX5_loseAtSpines 4 = .ok (.if_icmp .ge 102, 3) := by decide +kernel
theorem dX5_loseAtSpines_7 : decode cX5_loseAtSpines 7 = .ok (.iconst 0, 1) := by decide +kernel
theorem dX5_loseAtSpines_8 : decode cX5_loseAtSpines 8 = .ok (.istore_n 3, 1) := by decide +kernel
theorem dX5_loseAtSpines_9 : decode cX5_loseAtSpines 9 = .ok (.iload_n 3, 1) := by decide +kernel
theorem dX5_loseAtSpines_10 : decode cX5_loseAtSpines 10 = .ok (.iconst 4, 1) := by decide +kernel
theorem dX5_loseAtSpines_11 : decode cX5_loseAtSpines 11 = .ok (.if_icmp .ge 89, 3) := by decide +kernel
theorem dX5_loseAtSpines_14 : decode cX5_loseAtSpines 14 = .ok (.aload_n 0, 1) := by decide +kernel
theorem dX5_loseAtSpines_15 : decode cX5_loseAtSpines 15 = .ok (.iload_n 3, 1) := by decide +kernel
theorem dX5_loseAtSpines_16 : decode cX5_loseAtSpines 16 = .ok (.iload_n 2, 1) := by decide +kernel
theorem dX5_loseAtSpines_17 : decode cX5_loseAtSpines 17 = .ok (.invokevirtual 80, 3) := by decide +kernel
theorem dX5_loseAtSpines_20 : decode cX5_loseAtSpines 20 = .ok (.astore 4, 2) := by decide +kernel
theorem dX5_loseAtSpines_22 : decode cX5_loseAtSpines 22 = .ok (.aload 4, 2) := by decide +kernel
theorem dX5_loseAtSpines_24 : decode cX5_loseAtSpines 24 = .ok (.getfield 138, 3) := by decide +kernel
theorem dX5_loseAtSpines_27 : decode cX5_loseAtSpines 27 = .ok (.ifCond .le 67, 3) := by decide +kernel
theorem dX5_loseAtSpines_30 : decode cX5_loseAtSpines 30 = .ok (.aload_n 0, 1) := by decide +kernel
theorem dX5_loseAtSpines_31 : decode cX5_loseAtSpines 31 = .ok (.getfield 11, 3) := by decide +kernel
theorem dX5_loseAtSpines_34 : decode cX5_loseAtSpines 34 = .ok (.aload 4, 2) := by decide +kernel
theorem dX5_loseAtSpines_36 : decode cX5_loseAtSpines 36 = .ok (.invokevirtual 260, 3) := by decide +kernel
theorem dX5_loseAtSpines_39 : decode cX5_loseAtSpines 39 = .ok (.getfield 264, 3) := by decide +kernel
theorem dX5_loseAtSpines_42 : decode cX5_loseAtSpines 42 = .ok (.aaload, 1) := by decide +kernel
theorem dX5_loseAtSpines_43 : decode cX5_loseAtSpines 43 = .ok (.astore 5, 2) := by decide +kernel
theorem dX5_loseAtSpines_45 : decode cX5_loseAtSpines 45 = .ok (.aload_n 0, 1) := by decide +kernel
theorem dX5_loseAtSpines_46 : decode cX5_loseAtSpines 46 = .ok (.aload 5, 2) := by decide +kernel
theorem dX5_loseAtSpines_48 : decode cX5_loseAtSpines 48 = .ok (.invokevirtual 230, 3) := by decide +kernel
theorem dX5_loseAtSpines_51 : decode cX5_loseAtSpines 51 = .ok (.iload_n 2, 1) := by decide +kernel
theorem dX5_loseAtSpines_52 : decode cX5_loseAtSpines 52 = .ok (.invokevirtual 132, 3) := by decide +kernel
theorem dX5_loseAtSpines_55 : decode cX5_loseAtSpines 55 = .ok (.ifCond .eq 39, 3) := by decide +kernel
theorem dX5_loseAtSpines_58 : decode cX5_loseAtSpines 58 = .ok (.aload 5, 2) := by decide +kernel
theorem dX5_loseAtSpines_60 : decode cX5_loseAtSpines 60 = .ok (.dup, 1) := by decide +kernel
theorem dX5_loseAtSpines_61 : decode cX5_loseAtSpines 61 = .ok (.getfield 167, 3) := by decide +kernel
theorem dX5_loseAtSpines_64 : decode cX5_loseAtSpines 64 = .ok (.iconst 1, 1) := by decide +kernel
theorem dX5_loseAtSpines_65 : decode cX5_loseAtSpines 65 = .ok (.iadd, 1) := by decide +kernel
theorem dX5_loseAtSpines_66 : decode cX5_loseAtSpines 66 = .ok (.putfield 167, 3) := by decide +kernel
theorem dX5_loseAtSpines_69 : decode cX5_loseAtSpines 69 = .ok (.aload_n 0, 1) := by decide +kernel
theorem dX5_loseAtSpines_70 : decode cX5_loseAtSpines 70 = .ok (.getfield 17, 3) := by decide +kernel
theorem dX5_loseAtSpines_73 : decode cX5_loseAtSpines 73 = .ok (.aload 5, 2) := by decide +kernel
theorem dX5_loseAtSpines_75 : decode cX5_loseAtSpines 75 = .ok (.getfield 220, 3) := by decide +kernel
theorem dX5_loseAtSpines_78 : decode cX5_loseAtSpines 78 = .ok (.aaload, 1) := by decide +kernel
theorem dX5_loseAtSpines_79 : decode cX5_loseAtSpines 79 = .ok (.dup, 1) := by decide +kernel
theorem dX5_loseAtSpines_80 : decode cX5_loseAtSpines 80 = .ok (.getfield 188, 3) := by decide +kernel
theorem dX5_loseAtSpines_83 : decode cX5_loseAtSpines 83 = .ok (.iconst 1, 1) := by decide +kernel
theorem dX5_loseAtSpines_84 : decode cX5_loseAtSpines 84 = .ok (.isub, 1) := by decide +kernel
theorem dX5_loseAtSpines_85 : decode cX5_loseAtSpines 85 = .ok (.putfield 188, 3) := by decide +kernel
theorem dX5_loseAtSpines_88 : decode cX5_loseAtSpines 88 = .ok (.aload 4, 2) := by decide +kernel
theorem dX5_loseAtSpines_90 : decode cX5_loseAtSpines 90 = .ok (.iload_n 1, 1) := by decide +kernel
theorem dX5_loseAtSpines_91 : decode cX5_loseAtSpines 91 = .ok (.invokevirtual 275, 3) := by decide +kernel
theorem dX5_loseAtSpines_94 : decode cX5_loseAtSpines 94 = .ok (.iinc 3 1, 3) := by decide +kernel
theorem dX5_loseAtSpines_97 : decode cX5_loseAtSpines 97 = .ok (.goto (-88), 3) := by decide +kernel
theorem dX5_loseAtSpines_100 : decode cX5_loseAtSpines 100 = .ok (.iinc 2 1, 3) := by decide +kernel
theorem dX5_loseAtSpines_103 : decode cX5_loseAtSpines 103 = .ok (.goto (-101), 3) := by decide +kernel
theorem dX5_loseAtSpines_106 : decode cX5_loseAtSpines 106 = .ok (.return_, 1) := by decide +kernel
set_option maxRecDepth 20000 in
theorem ggX5_aimAtLeaves_X5_wantedAtLeaf : GoodIn wsX5_aimAtLeaves wsX5_wantedAtLeaf := goodIn_r _ [6, 7, 8, 9, 10, 11, 12, 13, 14, 15, 16, 17, 18, 19, 20, 21, 5, 22, 23, 24, 25, 26, 27, 28, 29, 30, 31, 32, 33, 34, 35, 36, 37, 38, 39, 40, 41, 42, 59, 60, 61, 62, 63, 64, 65, 43, 44, 45, 46, 47, 48, 49, 50, 51, 52, 53, 54, 55, 66, 67, 68, 69, 70, 71, 72, 73, 74, 75, 76, 77, 78, 79, 80, 81, 82] (by decide +kernel) (by decide +kernel)
set_option maxRecDepth 20000 in
theorem gX5_aimAtLeaves_X5_wantedAtLeaf : GoodIn wsX5_aimAtLeaves (wsV RX5 281 RX5 yX5_wantedAtLeaf wsX5_wantedAtLeaf) := goodIn_app (goodIn_of _ (by decide +kernel)) ggX5_aimAtLeaves_X5_wantedAtLeaf
theorem dX5_aimAtLeaves_0 : decode cX5_aimAtLeaves 0 = .ok (.iconst 0, 1) := by decide +kernel
theorem dX5_aimAtLeaves_1 : decode cX5_aimAtLeaves 1 = .ok (.istore_n 1, 1) := by decide +kernel
theorem dX5_aimAtLeaves_2 : decode cX5_aimAtLeaves 2 = .ok (.iload_n 1, 1) := by decide +kernel
theorem dX5_aimAtLeaves_3 : decode cX5_aimAtLeaves 3 = .ok (.iconst 4, 1) := by decide +kernel
theorem dX5_aimAtLeaves_4 : decode cX5_aimAtLeaves 4 = .ok (.if_icmp .ge 50, 3) := by decide +kernel
theorem dX5_aimAtLeaves_7 : decode cX5_aimAtLeaves 7 = .ok (.aload_n 0, 1) := by decide +kernel
theorem dX5_aimAtLeaves_8 : decode cX5_aimAtLeaves 8 = .ok (.getfield 35, 3) := by decide +kernel
theorem dX5_aimAtLeaves_11 : decode cX5_aimAtLeaves 11 = .ok (.iload_n 1, 1) := by decide +kernel
theorem dX5_aimAtLeaves_12 : decode cX5_aimAtLeaves 12 = .ok (.aaload, 1) := by decide +kernel
theorem dX5_aimAtLeaves_13 : decode cX5_aimAtLeaves 13 = .ok (.astore_n 2, 1) := by decide +kernel
theorem dX5_aimAtLeaves_14 : decode cX5_aimAtLeaves 14 = .ok (.iconst 0, 1) := by decide +kernel
theorem dX5_aimAtLeaves_15 : decode cX5_aimAtLeaves 15 = .ok (.istore_n 3, 1) := by decide +kernel
theorem dX5_aimAtLeaves_16 : decode cX5_aimAtLeaves 16 = .ok (.iload_n 3, 1) := by decide +kernel
theorem dX5_aimAtLeaves_17 : decode cX5_aimAtLeaves 17 = .ok (.aload_n 2, 1) := by decide +kernel
theorem dX5_aimAtLeaves_18 : decode cX5_aimAtLeaves 18 = .ok (.getfield 70, 3) := by decide +kernel
theorem dX5_aimAtLeaves_21 : decode cX5_aimAtLeaves 21 = .ok (.arraylength, 1) := by decide +kernel
theorem dX5_aimAtLeaves_22 : decode cX5_aimAtLeaves 22 = .ok (.if_icmp .ge 26, 3) := by decide +kernel
theorem dX5_aimAtLeaves_25 : decode cX5_aimAtLeaves 25 = .ok (.aload_n 2, 1) := by decide +kernel
theorem dX5_aimAtLeaves_26 : decode cX5_aimAtLeaves 26 = .ok (.getfield 278, 3) := by decide +kernel
theorem dX5_aimAtLeaves_29 : decode cX5_aimAtLeaves 29 = .ok (.iload_n 3, 1) := by decide +kernel
theorem dX5_aimAtLeaves_30 : decode cX5_aimAtLeaves 30 = .ok (.aload_n 0, 1) := by decide +kernel
theorem dX5_aimAtLeaves_31 : decode cX5_aimAtLeaves 31 = .ok (.iload_n 1, 1) := by decide +kernel
theorem dX5_aimAtLeaves_32 : decode cX5_aimAtLeaves 32 = .ok (.aload_n 2, 1) := by decide +kernel
theorem dX5_aimAtLeaves_33 : decode cX5_aimAtLeaves 33 = .ok (.getfield 70, 3) := by decide +kernel
theorem dX5_aimAtLeaves_36 : decode cX5_aimAtLeaves 36 = .ok (.iload_n 3, 1) := by decide +kernel
theorem dX5_aimAtLeaves_37 : decode cX5_aimAtLeaves 37 = .ok (.aaload, 1) := by decide +kernel
theorem dX5_aimAtLeaves_38 : decode cX5_aimAtLeaves 38 = .ok (.invokevirtual 281, 3) := by decide +kernel
theorem dX5_aimAtLeaves_41 : decode cX5_aimAtLeaves 41 = .ok (.iastore, 1) := by decide +kernel
theorem dX5_aimAtLeaves_42 : decode cX5_aimAtLeaves 42 = .ok (.iinc 3 1, 3) := by decide +kernel
theorem dX5_aimAtLeaves_45 : decode cX5_aimAtLeaves 45 = .ok (.goto (-29), 3) := by decide +kernel
theorem dX5_aimAtLeaves_48 : decode cX5_aimAtLeaves 48 = .ok (.iinc 1 1, 3) := by decide +kernel
theorem dX5_aimAtLeaves_51 : decode cX5_aimAtLeaves 51 = .ok (.goto (-49), 3) := by decide +kernel
theorem dX5_aimAtLeaves_54 : decode cX5_aimAtLeaves 54 = .ok (.return_, 1) := by decide +kernel
set_option maxRecDepth 20000 in
theorem ggX5_wantedAtLeaf_X2_firstPacket : GoodIn wsX5_wantedAtLeaf wsX2_firstPacket := goodIn_r _ [5, 6, 7, 38, 39, 40, 41, 42, 43, 44] (by decide +kernel) (by decide +kernel)
set_option maxRecDepth 20000 in
theorem gX5_wantedAtLeaf_X2_firstPacket_n260 : GoodIn wsX5_wantedAtLeaf (wsX2_firstPacket) := ggX5_wantedAtLeaf_X2_firstPacket
set_option maxRecDepth 20000 in
theorem ggX5_wantedAtLeaf_X0_targetLeaf : GoodIn wsX5_wantedAtLeaf wsX0_targetLeaf := goodIn_r _ [11, 12, 62, 63, 64, 65, 66, 67, 68, 69, 70, 71, 72, 73, 74] (by decide +kernel) (by decide +kernel)
set_option maxRecDepth 20000 in
theorem gX5_wantedAtLeaf_X0_targetLeaf_n230 : GoodIn wsX5_wantedAtLeaf (wsX0_targetLeaf) := ggX5_wantedAtLeaf_X0_targetLeaf
set_option maxRecDepth 20000 in
theorem ggX5_wantedAtLeaf_X5_isUsable : GoodIn wsX5_wantedAtLeaf wsX5_isUsable := goodIn_r _ [17, 18, 19, 20, 16, 21, 22, 45, 46, 47, 48, 49, 50, 51, 52, 53, 54, 55, 56, 57] (by decide +kernel) (by decide +kernel)
set_option maxRecDepth 20000 in
theorem gX5_wantedAtLeaf_X5_isUsable : GoodIn wsX5_wantedAtLeaf (wsV RX5 286 RX5 yX5_isUsable wsX5_isUsable) := goodIn_app (goodIn_of _ (by decide +kernel)) ggX5_wantedAtLeaf_X5_isUsable
set_option maxRecDepth 20000 in
theorem ggX5_wantedAtLeaf_X5_chosenSpine : GoodIn wsX5_wantedAtLeaf wsX5_chosenSpine := goodIn_r _ [26, 1, 27, 9, 28, 29, 30, 8, 10, 11, 12, 18, 19, 20, 16, 21, 22, 31, 32, 33, 34, 35, 36, 37, 45, 46, 47, 48, 49, 50, 51, 52, 53, 54, 55, 56, 57, 62, 63, 64, 65, 66, 67, 68, 69, 70, 71, 72, 73, 74] (by decide +kernel) (by decide +kernel)
set_option maxRecDepth 20000 in
theorem gX5_wantedAtLeaf_X5_chosenSpine : GoodIn wsX5_wantedAtLeaf (wsV RX5 292 RX5 yX5_chosenSpine wsX5_chosenSpine) := goodIn_app (goodIn_of _ (by decide +kernel)) ggX5_wantedAtLeaf_X5_chosenSpine
theorem dX5_wantedAtLeaf_0 : decode cX5_wantedAtLeaf 0 = .ok (.aload_n 2, 1) := by decide +kernel
theorem dX5_wantedAtLeaf_1 : decode cX5_wantedAtLeaf 1 = .ok (.getfield 138, 3) := by decide +kernel
theorem dX5_wantedAtLeaf_4 : decode cX5_wantedAtLeaf 4 = .ok (.ifCond .ne 5, 3) := by decide +kernel
theorem dX5_wantedAtLeaf_7 : decode cX5_wantedAtLeaf 7 = .ok (.iconst (-1), 1) := by decide +kernel
theorem dX5_wantedAtLeaf_8 : decode cX5_wantedAtLeaf 8 = .ok (.ireturn, 1) := by decide +kernel
theorem dX5_wantedAtLeaf_9 : decode cX5_wantedAtLeaf 9 = .ok (.aload_n 2, 1) := by decide +kernel
theorem dX5_wantedAtLeaf_10 : decode cX5_wantedAtLeaf 10 = .ok (.invokevirtual 260, 3) := by decide +kernel
theorem dX5_wantedAtLeaf_13 : decode cX5_wantedAtLeaf 13 = .ok (.astore_n 3, 1) := by decide +kernel
theorem dX5_wantedAtLeaf_14 : decode cX5_wantedAtLeaf 14 = .ok (.aload_n 0, 1) := by decide +kernel
theorem dX5_wantedAtLeaf_15 : decode cX5_wantedAtLeaf 15 = .ok (.getfield 11, 3) := by decide +kernel
theorem dX5_wantedAtLeaf_18 : decode cX5_wantedAtLeaf 18 = .ok (.aload_n 3, 1) := by decide +kernel
theorem dX5_wantedAtLeaf_19 : decode cX5_wantedAtLeaf 19 = .ok (.getfield 264, 3) := by decide +kernel
theorem dX5_wantedAtLeaf_22 : decode cX5_wantedAtLeaf 22 = .ok (.aaload, 1) := by decide +kernel
theorem dX5_wantedAtLeaf_23 : decode cX5_wantedAtLeaf 23 = .ok (.astore 4, 2) := by decide +kernel
theorem dX5_wantedAtLeaf_25 : decode cX5_wantedAtLeaf 25 = .ok (.aload 4, 2) := by decide +kernel
theorem dX5_wantedAtLeaf_27 : decode cX5_wantedAtLeaf 27 = .ok (.invokevirtual 230, 3) := by decide +kernel
theorem dX5_wantedAtLeaf_30 : decode cX5_wantedAtLeaf 30 = .ok (.iload_n 1, 1) := by decide +kernel
theorem dX5_wantedAtLeaf_31 : decode cX5_wantedAtLeaf 31 = .ok (.if_icmp .ne 11, 3) := by decide +kernel
theorem dX5_wantedAtLeaf_34 : decode cX5_wantedAtLeaf 34 = .ok (.aload 4, 2) := by decide +kernel
theorem dX5_wantedAtLeaf_36 : decode cX5_wantedAtLeaf 36 = .ok (.getfield 220, 3) := by decide +kernel
theorem dX5_wantedAtLeaf_39 : decode cX5_wantedAtLeaf 39 = .ok (.iconst 4, 1) := by decide +kernel
theorem dX5_wantedAtLeaf_40 : decode cX5_wantedAtLeaf 40 = .ok (.irem, 1) := by decide +kernel
theorem dX5_wantedAtLeaf_41 : decode cX5_wantedAtLeaf 41 = .ok (.ireturn, 1) := by decide +kernel
theorem dX5_wantedAtLeaf_42 : decode cX5_wantedAtLeaf 42 = .ok (.aload_n 0, 1) := by decide +kernel
theorem dX5_wantedAtLeaf_43 : decode cX5_wantedAtLeaf 43 = .ok (.aload_n 3, 1) := by decide +kernel
theorem dX5_wantedAtLeaf_44 : decode cX5_wantedAtLeaf 44 = .ok (.getfield 285, 3) := by decide +kernel
theorem dX5_wantedAtLeaf_47 : decode cX5_wantedAtLeaf 47 = .ok (.iload_n 1, 1) := by decide +kernel
theorem dX5_wantedAtLeaf_48 : decode cX5_wantedAtLeaf 48 = .ok (.aload 4, 2) := by decide +kernel
theorem dX5_wantedAtLeaf_50 : decode cX5_wantedAtLeaf 50 = .ok (.invokevirtual 230, 3) := by decide +kernel
theorem dX5_wantedAtLeaf_53 : decode cX5_wantedAtLeaf 53 = .ok (.invokevirtual 286, 3) := by decide +kernel
theorem dX5_wantedAtLeaf_56 : decode cX5_wantedAtLeaf 56 = .ok (.ifCond .ne 31, 3) := by decide +kernel
theorem dX5_wantedAtLeaf_59 : decode cX5_wantedAtLeaf 59 = .ok (.aload_n 0, 1) := by decide +kernel
theorem dX5_wantedAtLeaf_60 : decode cX5_wantedAtLeaf 60 = .ok (.aload_n 3, 1) := by decide +kernel
theorem dX5_wantedAtLeaf_61 : decode cX5_wantedAtLeaf 61 = .ok (.getfield 264, 3) := by decide +kernel
theorem dX5_wantedAtLeaf_64 : decode cX5_wantedAtLeaf 64 = .ok (.aload_n 3, 1) := by decide +kernel
theorem dX5_wantedAtLeaf_65 : decode cX5_wantedAtLeaf 65 = .ok (.getfield 289, 3) := by decide +kernel
theorem dX5_wantedAtLeaf_68 : decode cX5_wantedAtLeaf 68 = .ok (.invokevirtual 292, 3) := by decide +kernel
theorem dX5_wantedAtLeaf_71 : decode cX5_wantedAtLeaf 71 = .ok (.istore 5, 2) := by decide +kernel
theorem dX5_wantedAtLeaf_73 : decode cX5_wantedAtLeaf 73 = .ok (.iload 5, 2) := by decide +kernel
theorem dX5_wantedAtLeaf_75 : decode cX5_wantedAtLeaf 75 = .ok (.iconst (-1), 1) := by decide +kernel
theorem dX5_wantedAtLeaf_76 : decode cX5_wantedAtLeaf 76 = .ok (.if_icmp .ne 5, 3) := by decide +kernel
theorem dX5_wantedAtLeaf_79 : decode cX5_wantedAtLeaf 79 = .ok (.iconst (-1), 1) := by decide +kernel
theorem dX5_wantedAtLeaf_80 : decode cX5_wantedAtLeaf 80 = .ok (.ireturn, 1) := by decide +kernel
theorem dX5_wantedAtLeaf_81 : decode cX5_wantedAtLeaf 81 = .ok (.aload_n 3, 1) := by decide +kernel
theorem dX5_wantedAtLeaf_82 : decode cX5_wantedAtLeaf 82 = .ok (.iload 5, 2) := by decide +kernel
theorem dX5_wantedAtLeaf_84 : decode cX5_wantedAtLeaf 84 = .ok (.putfield 285, 3) := by decide +kernel
theorem dX5_wantedAtLeaf_87 : decode cX5_wantedAtLeaf 87 = .ok (.iconst 4, 1) := by decide +kernel
theorem dX5_wantedAtLeaf_88 : decode cX5_wantedAtLeaf 88 = .ok (.aload_n 3, 1) := by decide +kernel
theorem dX5_wantedAtLeaf_89 : decode cX5_wantedAtLeaf 89 = .ok (.getfield 285, 3) := by decide +kernel
theorem dX5_wantedAtLeaf_92 : decode cX5_wantedAtLeaf 92 = .ok (.iadd, 1) := by decide +kernel
theorem dX5_wantedAtLeaf_93 : decode cX5_wantedAtLeaf 93 = .ok (.ireturn, 1) := by decide +kernel
set_option maxRecDepth 20000 in
theorem ggX5_aimAtSpines_X5_wantedAtSpine : GoodIn wsX5_aimAtSpines wsX5_wantedAtSpine := goodIn_r _ [6, 7, 8, 9, 10, 11, 12, 13, 14, 15, 16, 17, 18, 19, 20, 21, 5, 22, 23, 40, 41, 42, 43, 44, 45, 46, 24, 25, 26, 27, 28, 29, 30, 31, 32, 33, 34, 35, 36, 47, 48, 49, 50, 51, 52, 53, 54, 55, 56, 57, 58, 59, 60, 61, 62, 63] (by decide +kernel) (by decide +kernel)
set_option maxRecDepth 20000 in
theorem gX5_aimAtSpines_X5_wantedAtSpine : GoodIn wsX5_aimAtSpines (wsV RX5 295 RX5 yX5_wantedAtSpine wsX5_wantedAtSpine) := goodIn_app (goodIn_of _ (by decide +kernel)) ggX5_aimAtSpines_X5_wantedAtSpine
theorem dX5_aimAtSpines_0 : decode cX5_aimAtSpines 0 = .ok (.iconst 0, 1) := by decide +kernel
theorem dX5_aimAtSpines_1 : decode cX5_aimAtSpines 1 = .ok (.istore_n 1, 1) := by decide +kernel
theorem dX5_aimAtSpines_2 : decode cX5_aimAtSpines 2 = .ok (.iload_n 1, 1) := by decide +kernel
theorem dX5_aimAtSpines_3 : decode cX5_aimAtSpines 3 = .ok (.iconst 4, 1) := by decide +kernel
theorem dX5_aimAtSpines_4 : decode cX5_aimAtSpines 4 = .ok (.if_icmp .ge 50, 3) := by decide +kernel
theorem dX5_aimAtSpines_7 : decode cX5_aimAtSpines 7 = .ok (.aload_n 0, 1) := by decide +kernel
theorem dX5_aimAtSpines_8 : decode cX5_aimAtSpines 8 = .ok (.getfield 39, 3) := by decide +kernel
theorem dX5_aimAtSpines_11 : decode cX5_aimAtSpines 11 = .ok (.iload_n 1, 1) := by decide +kernel
theorem dX5_aimAtSpines_12 : decode cX5_aimAtSpines 12 = .ok (.aaload, 1) := by decide +kernel
theorem dX5_aimAtSpines_13 : decode cX5_aimAtSpines 13 = .ok (.astore_n 2, 1) := by decide +kernel
theorem dX5_aimAtSpines_14 : decode cX5_aimAtSpines 14 = .ok (.iconst 0, 1) := by decide +kernel
theorem dX5_aimAtSpines_15 : decode cX5_aimAtSpines 15 = .ok (.istore_n 3, 1) := by decide +kernel
theorem dX5_aimAtSpines_16 : decode cX5_aimAtSpines 16 = .ok (.iload_n 3, 1) := by decide +kernel
theorem dX5_aimAtSpines_17 : decode cX5_aimAtSpines 17 = .ok (.aload_n 2, 1) := by decide +kernel
theorem dX5_aimAtSpines_18 : decode cX5_aimAtSpines 18 = .ok (.getfield 70, 3) := by decide +kernel
theorem dX5_aimAtSpines_21 : decode cX5_aimAtSpines 21 = .ok (.arraylength, 1) := by decide +kernel
theorem dX5_aimAtSpines_22 : decode cX5_aimAtSpines 22 = .ok (.if_icmp .ge 26, 3) := by decide +kernel
theorem dX5_aimAtSpines_25 : decode cX5_aimAtSpines 25 = .ok (.aload_n 2, 1) := by decide +kernel
theorem dX5_aimAtSpines_26 : decode cX5_aimAtSpines 26 = .ok (.getfield 278, 3) := by decide +kernel
theorem dX5_aimAtSpines_29 : decode cX5_aimAtSpines 29 = .ok (.iload_n 3, 1) := by decide +kernel
theorem dX5_aimAtSpines_30 : decode cX5_aimAtSpines 30 = .ok (.aload_n 0, 1) := by decide +kernel
theorem dX5_aimAtSpines_31 : decode cX5_aimAtSpines 31 = .ok (.iload_n 1, 1) := by decide +kernel
theorem dX5_aimAtSpines_32 : decode cX5_aimAtSpines 32 = .ok (.aload_n 2, 1) := by decide +kernel
theorem dX5_aimAtSpines_33 : decode cX5_aimAtSpines 33 = .ok (.getfield 70, 3) := by decide +kernel
theorem dX5_aimAtSpines_36 : decode cX5_aimAtSpines 36 = .ok (.iload_n 3, 1) := by decide +kernel
theorem dX5_aimAtSpines_37 : decode cX5_aimAtSpines 37 = .ok (.aaload, 1) := by decide +kernel
theorem dX5_aimAtSpines_38 : decode cX5_aimAtSpines 38 = .ok (.invokevirtual 295, 3) := by decide +kernel
theorem dX5_aimAtSpines_41 : decode cX5_aimAtSpines 41 = .ok (.iastore, 1) := by decide +kernel
theorem dX5_aimAtSpines_42 : decode cX5_aimAtSpines 42 = .ok (.iinc 3 1, 3) := by decide +kernel
theorem dX5_aimAtSpines_45 : decode cX5_aimAtSpines 45 = .ok (.goto (-29), 3) := by decide +kernel
theorem dX5_aimAtSpines_48 : decode cX5_aimAtSpines 48 = .ok (.iinc 1 1, 3) := by decide +kernel
theorem dX5_aimAtSpines_51 : decode cX5_aimAtSpines 51 = .ok (.goto (-49), 3) := by decide +kernel
theorem dX5_aimAtSpines_54 : decode cX5_aimAtSpines 54 = .ok (.return_, 1) := by decide +kernel
set_option maxRecDepth 20000 in
theorem ggX5_wantedAtSpine_X2_firstPacket : GoodIn wsX5_wantedAtSpine wsX2_firstPacket := goodIn_r _ [5, 6, 7, 19, 20, 21, 22, 23, 24, 25] (by decide +kernel) (by decide +kernel)
set_option maxRecDepth 20000 in
theorem gX5_wantedAtSpine_X2_firstPacket_n260 : GoodIn wsX5_wantedAtSpine (wsX2_firstPacket) := ggX5_wantedAtSpine_X2_firstPacket
set_option maxRecDepth 20000 in
theorem ggX5_wantedAtSpine_X0_targetLeaf : GoodIn wsX5_wantedAtSpine wsX0_targetLeaf := goodIn_r _ [11, 12, 43, 44, 45, 46, 47, 48, 49, 50, 51, 52, 53, 54, 55] (by decide +kernel) (by decide +kernel)
set_option maxRecDepth 20000 in
theorem gX5_wantedAtSpine_X0_targetLeaf_n230 : GoodIn wsX5_wantedAtSpine (wsX0_targetLeaf) := ggX5_wantedAtSpine_X0_targetLeaf
set_option maxRecDepth 20000 in
theorem ggX5_wantedAtSpine_X5_isCut : GoodIn wsX5_wantedAtSpine wsX5_isCut := goodIn_r _ [17, 18, 26, 27, 28, 29, 30, 31, 32, 33, 34, 35, 36, 37, 38] (by decide +kernel) (by decide +kernel)
set_option maxRecDepth 20000 in
theorem gX5_wantedAtSpine_X5_isCut : GoodIn wsX5_wantedAtSpine (wsV RX5 132 RX5 yX5_isCut wsX5_isCut) := goodIn_app (goodIn_of _ (by decide +kernel)) ggX5_wantedAtSpine_X5_isCut
theorem dX5_wantedAtSpine_0 : decode cX5_wantedAtSpine 0 = .ok (.aload_n 2, 1) := by decide +kernel
theorem dX5_wantedAtSpine_1 : decode cX5_wantedAtSpine 1 = .ok (.getfield 138, 3) := by decide +kernel
theorem dX5_wantedAtSpine_4 : decode cX5_wantedAtSpine 4 = .ok (.ifCond .ne 5, 3) := by decide +kernel
theorem dX5_wantedAtSpine_7 : decode cX5_wantedAtSpine 7 = .ok (.iconst (-1), 1) := by decide +kernel
theorem dX5_wantedAtSpine_8 : decode cX5_wantedAtSpine 8 = .ok (.ireturn, 1) := by decide +kernel
theorem dX5_wantedAtSpine_9 : decode cX5_wantedAtSpine 9 = .ok (.aload_n 0, 1) := by decide +kernel
theorem dX5_wantedAtSpine_10 : decode cX5_wantedAtSpine 10 = .ok (.getfield 11, 3) := by decide +kernel
theorem dX5_wantedAtSpine_13 : decode cX5_wantedAtSpine 13 = .ok (.aload_n 2, 1) := by decide +kernel
theorem dX5_wantedAtSpine_14 : decode cX5_wantedAtSpine 14 = .ok (.invokevirtual 260, 3) := by decide +kernel
theorem dX5_wantedAtSpine_17 : decode cX5_wantedAtSpine 17 = .ok (.getfield 264, 3) := by decide +kernel
theorem dX5_wantedAtSpine_20 : decode cX5_wantedAtSpine 20 = .ok (.aaload, 1) := by decide +kernel
theorem dX5_wantedAtSpine_21 : decode cX5_wantedAtSpine 21 = .ok (.invokevirtual 230, 3) := by decide +kernel
theorem dX5_wantedAtSpine_24 : decode cX5_wantedAtSpine 24 = .ok (.istore_n 3, 1) := by decide +kernel
theorem dX5_wantedAtSpine_25 : decode cX5_wantedAtSpine 25 = .ok (.aload_n 0, 1) := by decide +kernel
theorem dX5_wantedAtSpine_26 : decode cX5_wantedAtSpine 26 = .ok (.iload_n 3, 1) := by decide +kernel
theorem dX5_wantedAtSpine_27 : decode cX5_wantedAtSpine 27 = .ok (.iload_n 1, 1) := by decide +kernel
theorem dX5_wantedAtSpine_28 : decode cX5_wantedAtSpine 28 = .ok (.invokevirtual 132, 3) := by decide +kernel
theorem dX5_wantedAtSpine_31 : decode cX5_wantedAtSpine 31 = .ok (.ifCond .eq 7, 3) := by decide +kernel
theorem dX5_wantedAtSpine_34 : decode cX5_wantedAtSpine 34 = .ok (.iconst (-1), 1) := by decide +kernel
theorem dX5_wantedAtSpine_35 : decode cX5_wantedAtSpine 35 = .ok (.goto 4, 3) := by decide +kernel
theorem dX5_wantedAtSpine_38 : decode cX5_wantedAtSpine 38 = .ok (.iload_n 3, 1) := by decide +kernel
theorem dX5_wantedAtSpine_39 : decode cX5_wantedAtSpine 39 = .ok (.ireturn, 1) := by decide +kernel
set_option maxRecDepth 20000 in
theorem ggX5_pickAll_X3_pick : GoodIn wsX5_pickAll wsX3_pick := goodIn_r _ [6, 7, 8, 9, 10, 11, 12, 13, 14, 15, 29, 30, 31, 32, 33, 34, 35, 36, 37, 38] (by decide +kernel) (by decide +kernel)
set_option maxRecDepth 20000 in
theorem gX5_pickAll_X3_pick_n298 : GoodIn wsX5_pickAll (wsX3_pick) := ggX5_pickAll_X3_pick
theorem dX5_pickAll_0 : decode cX5_pickAll 0 = .ok (.iconst 0, 1) := by decide +kernel
theorem dX5_pickAll_1 : decode cX5_pickAll 1 = .ok (.istore_n 1, 1) := by decide +kernel
theorem dX5_pickAll_2 : decode cX5_pickAll 2 = .ok (.iload_n 1, 1) := by decide +kernel
theorem dX5_pickAll_3 : decode cX5_pickAll 3 = .ok (.iconst 4, 1) := by decide +kernel
theorem dX5_pickAll_4 : decode cX5_pickAll 4 = .ok (.if_icmp .ge 18, 3) := by decide +kernel
theorem dX5_pickAll_7 : decode cX5_pickAll 7 = .ok (.aload_n 0, 1) := by decide +kernel
theorem dX5_pickAll_8 : decode cX5_pickAll 8 = .ok (.getfield 35, 3) := by decide +kernel
theorem dX5_pickAll_11 : decode cX5_pickAll 11 = .ok (.iload_n 1, 1) := by decide +kernel
theorem dX5_pickAll_12 : decode cX5_pickAll 12 = .ok (.aaload, 1) := by decide +kernel
theorem dX5_pickAll_13 : decode cX5_pickAll 13 = .ok (.invokevirtual 298, 3) := by decide +kernel
theorem dX5_pickAll_16 : decode cX5_pickAll 16 = .ok (.iinc 1 1, 3) := by decide +kernel
theorem dX5_pickAll_19 : decode cX5_pickAll 19 = .ok (.goto (-17), 3) := by decide +kernel
theorem dX5_pickAll_22 : decode cX5_pickAll 22 = .ok (.iconst 0, 1) := by decide +kernel
theorem dX5_pickAll_23 : decode cX5_pickAll 23 = .ok (.istore_n 1, 1) := by decide +kernel
theorem dX5_pickAll_24 : decode cX5_pickAll 24 = .ok (.iload_n 1, 1) := by decide +kernel
theorem dX5_pickAll_25 : decode cX5_pickAll 25 = .ok (.iconst 4, 1) := by decide +kernel
theorem dX5_pickAll_26 : decode cX5_pickAll 26 = .ok (.if_icmp .ge 18, 3) := by decide +kernel
theorem dX5_pickAll_29 : decode cX5_pickAll 29 = .ok (.aload_n 0, 1) := by decide +kernel
theorem dX5_pickAll_30 : decode cX5_pickAll 30 = .ok (.getfield 39, 3) := by decide +kernel
theorem dX5_pickAll_33 : decode cX5_pickAll 33 = .ok (.iload_n 1, 1) := by decide +kernel
theorem dX5_pickAll_34 : decode cX5_pickAll 34 = .ok (.aaload, 1) := by decide +kernel
theorem dX5_pickAll_35 : decode cX5_pickAll 35 = .ok (.invokevirtual 298, 3) := by decide +kernel
theorem dX5_pickAll_38 : decode cX5_pickAll 38 = .ok (.iinc 1 1, 3) := by decide +kernel
theorem dX5_pickAll_41 : decode cX5_pickAll 41 = .ok (.goto (-17), 3) := by decide +kernel
theorem dX5_pickAll_44 : decode cX5_pickAll 44 = .ok (.return_, 1) := by decide +kernel
set_option maxRecDepth 20000 in
theorem ggX5_moveAll_X3_move : GoodIn wsX5_moveAll wsX3_move := goodIn_r _ [6, 7, 8, 9, 10, 11, 12, 13, 14, 15, 16, 17, 18, 19, 20, 21, 22, 23, 24, 25, 26, 27, 28, 29, 30, 31, 45, 46, 47, 48, 49, 50, 51, 52, 53, 54, 55, 56, 57, 58] (by decide +kernel) (by decide +kernel)
set_option maxRecDepth 20000 in
theorem gX5_moveAll_X3_move_n301 : GoodIn wsX5_moveAll (wsX3_move) := ggX5_moveAll_X3_move
theorem dX5_moveAll_0 : decode cX5_moveAll 0 = .ok (.iconst 0, 1) := by decide +kernel
theorem dX5_moveAll_1 : decode cX5_moveAll 1 = .ok (.istore_n 2, 1) := by decide +kernel
theorem dX5_moveAll_2 : decode cX5_moveAll 2 = .ok (.iload_n 2, 1) := by decide +kernel
theorem dX5_moveAll_3 : decode cX5_moveAll 3 = .ok (.iconst 4, 1) := by decide +kernel
theorem dX5_moveAll_4 : decode cX5_moveAll 4 = .ok (.if_icmp .ge 19, 3) := by decide +kernel
theorem dX5_moveAll_7 : decode cX5_moveAll 7 = .ok (.aload_n 0, 1) := by decide +kernel
theorem dX5_moveAll_8 : decode cX5_moveAll 8 = .ok (.getfield 35, 3) := by decide +kernel
theorem dX5_moveAll_11 : decode cX5_moveAll 11 = .ok (.iload_n 2, 1) := by decide +kernel
theorem dX5_moveAll_12 : decode cX5_moveAll 12 = .ok (.aaload, 1) := by decide +kernel
theorem dX5_moveAll_13 : decode cX5_moveAll 13 = .ok (.iload_n 1, 1) := by decide +kernel
theorem dX5_moveAll_14 : decode cX5_moveAll 14 = .ok (.invokevirtual 301, 3) := by decide +kernel
theorem dX5_moveAll_17 : decode cX5_moveAll 17 = .ok (.iinc 2 1, 3) := by decide +kernel
theorem dX5_moveAll_20 : decode cX5_moveAll 20 = .ok (.goto (-18), 3) := by decide +kernel
theorem dX5_moveAll_23 : decode cX5_moveAll 23 = .ok (.iconst 0, 1) := by decide +kernel
theorem dX5_moveAll_24 : decode cX5_moveAll 24 = .ok (.istore_n 2, 1) := by decide +kernel
theorem dX5_moveAll_25 : decode cX5_moveAll 25 = .ok (.iload_n 2, 1) := by decide +kernel
theorem dX5_moveAll_26 : decode cX5_moveAll 26 = .ok (.iconst 4, 1) := by decide +kernel
theorem dX5_moveAll_27 : decode cX5_moveAll 27 = .ok (.if_icmp .ge 19, 3) := by decide +kernel
theorem dX5_moveAll_30 : decode cX5_moveAll 30 = .ok (.aload_n 0, 1) := by decide +kernel
theorem dX5_moveAll_31 : decode cX5_moveAll 31 = .ok (.getfield 39, 3) := by decide +kernel
theorem dX5_moveAll_34 : decode cX5_moveAll 34 = .ok (.iload_n 2, 1) := by decide +kernel
theorem dX5_moveAll_35 : decode cX5_moveAll 35 = .ok (.aaload, 1) := by decide +kernel
theorem dX5_moveAll_36 : decode cX5_moveAll 36 = .ok (.iload_n 1, 1) := by decide +kernel
theorem dX5_moveAll_37 : decode cX5_moveAll 37 = .ok (.invokevirtual 301, 3) := by decide +kernel
theorem dX5_moveAll_40 : decode cX5_moveAll 40 = .ok (.iinc 2 1, 3) := by decide +kernel
theorem dX5_moveAll_43 : decode cX5_moveAll 43 = .ok (.goto (-18), 3) := by decide +kernel
theorem dX5_moveAll_46 : decode cX5_moveAll 46 = .ok (.return_, 1) := by decide +kernel
set_option maxRecDepth 20000 in
theorem ggX5_sendAll_X5_pickedFlow : GoodIn wsX5_sendAll wsX5_pickedFlow := goodIn_r _ [6, 7, 8, 9, 10, 11, 5, 12, 13, 1, 14, 15, 16, 17, 18, 19, 20, 21, 22, 23, 24, 25, 26, 27, 28, 29, 30, 31, 32, 33, 34, 35, 36, 37, 38, 39, 80, 81, 82, 83, 84, 85, 86, 87, 88, 89, 90, 91, 92, 104, 105, 106, 107, 108, 109, 110, 111, 112, 113, 114, 115, 116, 93, 94, 95, 96] (by decide +kernel) (by decide +kernel)
set_option maxRecDepth 20000 in
theorem gX5_sendAll_X5_pickedFlow : GoodIn wsX5_sendAll (wsV RX5 307 RX5 yX5_pickedFlow wsX5_pickedFlow) := goodIn_app (goodIn_of _ (by decide +kernel)) ggX5_sendAll_X5_pickedFlow
set_option maxRecDepth 20000 in
theorem ggX5_sendAll_X5_send : GoodIn wsX5_sendAll wsX5_send := goodIn_r _ [43, 8, 13, 1, 22, 16, 23, 24, 25, 26, 27, 28, 29, 30, 31, 32, 33, 34, 44, 45, 46, 5, 47, 48, 49, 50, 51, 52, 35, 36, 37, 38, 39, 53, 54, 55, 56, 57, 58, 59, 60, 61, 62, 63, 64, 65, 66, 67, 68, 69, 70, 71, 72, 73, 74, 75, 76, 77, 78, 79, 80, 81, 82, 83, 84, 85, 86, 87, 88, 89, 90, 91, 92, 104, 105, 106, 107, 108, 109, 110, 111, 112, 113, 114, 115, 116, 93, 94, 95, 96, 97, 98, 99, 100, 101, 102, 103, 117, 118, 119, 120] (by decide +kernel) (by decide +kernel)
set_option maxRecDepth 20000 in
theorem gX5_sendAll_X5_send : GoodIn wsX5_sendAll (wsV RX5 310 RX5 yX5_send wsX5_send) := goodIn_app (goodIn_of _ (by decide +kernel)) ggX5_sendAll_X5_send
theorem dX5_sendAll_0 : decode cX5_sendAll 0 = .ok (.iconst 0, 1) := by decide +kernel
theorem dX5_sendAll_1 : decode cX5_sendAll 1 = .ok (.istore_n 1, 1) := by decide +kernel
theorem dX5_sendAll_2 : decode cX5_sendAll 2 = .ok (.iload_n 1, 1) := by decide +kernel
theorem dX5_sendAll_3 : decode cX5_sendAll 3 = .ok (.bipush 16, 2) := by decide +kernel
theorem dX5_sendAll_5 : decode cX5_sendAll 5 = .ok (.if_icmp .ge 55, 3) := by decide +kernel
theorem dX5_sendAll_8 : decode cX5_sendAll 8 = .ok (.aload_n 0, 1) := by decide +kernel
theorem dX5_sendAll_9 : decode cX5_sendAll 9 = .ok (.getfield 17, 3) := by decide +kernel
theorem dX5_sendAll_12 : decode cX5_sendAll 12 = .ok (.iload_n 1, 1) := by decide +kernel
theorem dX5_sendAll_13 : decode cX5_sendAll 13 = .ok (.aaload, 1) := by decide +kernel
theorem dX5_sendAll_14 : decode cX5_sendAll 14 = .ok (.astore_n 2, 1) := by decide +kernel
theorem dX5_sendAll_15 : decode cX5_sendAll 15 = .ok (.aload_n 2, 1) := by decide +kernel
theorem dX5_sendAll_16 : decode cX5_sendAll 16 = .ok (.getfield 48, 3) := by decide +kernel
theorem dX5_sendAll_19 : decode cX5_sendAll 19 = .ok (.getfield 182, 3) := by decide +kernel
theorem dX5_sendAll_22 : decode cX5_sendAll 22 = .ok (.ifCond .le 32, 3) := by decide +kernel
theorem dX5_sendAll_25 : decode cX5_sendAll 25 = .ok (.aload_n 0, 1) := by decide +kernel
theorem dX5_sendAll_26 : decode cX5_sendAll 26 = .ok (.iload_n 1, 1) := by decide +kernel
theorem dX5_sendAll_27 : decode cX5_sendAll 27 = .ok (.aload_n 2, 1) := by decide +kernel
theorem dX5_sendAll_28 : decode cX5_sendAll 28 = .ok (.getfield 304, 3) := by decide +kernel
theorem dX5_sendAll_31 : decode cX5_sendAll 31 = .ok (.invokevirtual 307, 3) := by decide +kernel
theorem dX5_sendAll_34 : decode cX5_sendAll 34 = .ok (.istore_n 3, 1) := by decide +kernel
theorem dX5_sendAll_35 : decode cX5_sendAll 35 = .ok (.iload_n 3, 1) := by decide +kernel
theorem dX5_sendAll_36 : decode cX5_sendAll 36 = .ok (.iconst (-1), 1) := by decide +kernel
theorem dX5_sendAll_37 : decode cX5_sendAll 37 = .ok (.if_icmp .eq 17, 3) := by decide +kernel
theorem dX5_sendAll_40 : decode cX5_sendAll 40 = .ok (.aload_n 2, 1) := by decide +kernel
theorem dX5_sendAll_41 : decode cX5_sendAll 41 = .ok (.iload_n 3, 1) := by decide +kernel
theorem dX5_sendAll_42 : decode cX5_sendAll 42 = .ok (.putfield 304, 3) := by decide +kernel
theorem dX5_sendAll_45 : decode cX5_sendAll 45 = .ok (.aload_n 0, 1) := by decide +kernel
theorem dX5_sendAll_46 : decode cX5_sendAll 46 = .ok (.iload_n 3, 1) := by decide +kernel
theorem dX5_sendAll_47 : decode cX5_sendAll 47 = .ok (.aload_n 2, 1) := by decide +kernel
theorem dX5_sendAll_48 : decode cX5_sendAll 48 = .ok (.getfield 48, 3) := by decide +kernel
theorem dX5_sendAll_51 : decode cX5_sendAll 51 = .ok (.invokevirtual 310, 3) := by decide +kernel
theorem dX5_sendAll_54 : decode cX5_sendAll 54 = .ok (.iinc 1 1, 3) := by decide +kernel
theorem dX5_sendAll_57 : decode cX5_sendAll 57 = .ok (.goto (-55), 3) := by decide +kernel
theorem dX5_sendAll_60 : decode cX5_sendAll 60 = .ok (.return_, 1) := by decide +kernel
set_option maxRecDepth 20000 in
theorem ggX5_pickedFlow_X5_canSend : GoodIn wsX5_pickedFlow wsX5_canSend := goodIn_r _ [7, 8, 9, 10, 11, 12, 13, 14, 15, 16, 17, 18, 19, 20, 21, 22, 23, 24, 25, 26, 27, 28, 29, 30, 31, 32, 33, 6, 34, 35, 49, 50, 51, 52, 53, 54, 55, 56, 57, 58, 59, 60, 61, 36, 37, 38, 39, 40, 41, 42, 43, 44, 45, 46, 47, 48, 62, 63, 64, 65] (by decide +kernel) (by decide +kernel)
set_option maxRecDepth 20000 in
theorem gX5_pickedFlow_X5_canSend : GoodIn wsX5_pickedFlow (wsV RX5 314 RX5 yX5_canSend wsX5_canSend) := goodIn_app (goodIn_of _ (by decide +kernel)) ggX5_pickedFlow_X5_canSend
theorem dX5_pickedFlow_0 : decode cX5_pickedFlow 0 = .ok (.iconst 1, 1) := by decide +kernel
theorem dX5_pickedFlow_1 : decode cX5_pickedFlow 1 = .ok (.istore_n 3, 1) := by decide +kernel
theorem dX5_pickedFlow_2 : decode cX5_pickedFlow 2 = .ok (.iload_n 3, 1) := by decide +kernel
theorem dX5_pickedFlow_3 : decode cX5_pickedFlow 3 = .ok (.aload_n 0, 1) := by decide +kernel
theorem dX5_pickedFlow_4 : decode cX5_pickedFlow 4 = .ok (.getfield 93, 3) := by decide +kernel
theorem dX5_pickedFlow_7 : decode cX5_pickedFlow 7 = .ok (.if_icmp .gt 50, 3) := by decide +kernel
theorem dX5_pickedFlow_10 : decode cX5_pickedFlow 10 = .ok (.iload_n 2, 1) := by decide +kernel
theorem dX5_pickedFlow_11 : decode cX5_pickedFlow 11 = .ok (.iload_n 3, 1) := by decide +kernel
theorem dX5_pickedFlow_12 : decode cX5_pickedFlow 12 = .ok (.iadd, 1) := by decide +kernel
theorem dX5_pickedFlow_13 : decode cX5_pickedFlow 13 = .ok (.aload_n 0, 1) := by decide +kernel
theorem dX5_pickedFlow_14 : decode cX5_pickedFlow 14 = .ok (.getfield 93, 3) := by decide +kernel
theorem dX5_pickedFlow_17 : decode cX5_pickedFlow 17 = .ok (.irem, 1) := by decide +kernel
theorem dX5_pickedFlow_18 : decode cX5_pickedFlow 18 = .ok (.istore 4, 2) := by decide +kernel
theorem dX5_pickedFlow_20 : decode cX5_pickedFlow 20 = .ok (.aload_n 0, 1) := by decide +kernel
theorem dX5_pickedFlow_21 : decode cX5_pickedFlow 21 = .ok (.getfield 11, 3) := by decide +kernel
theorem dX5_pickedFlow_24 : decode cX5_pickedFlow 24 = .ok (.iload 4, 2) := by decide +kernel
theorem dX5_pickedFlow_26 : decode cX5_pickedFlow 26 = .ok (.aaload, 1) := by decide +kernel
theorem dX5_pickedFlow_27 : decode cX5_pickedFlow 27 = .ok (.getfield 214, 3) := by decide +kernel
theorem dX5_pickedFlow_30 : decode cX5_pickedFlow 30 = .ok (.iload_n 1, 1) := by decide +kernel
theorem dX5_pickedFlow_31 : decode cX5_pickedFlow 31 = .ok (.if_icmp .ne 20, 3) := by decide +kernel
theorem dX5_pickedFlow_34 : decode cX5_pickedFlow 34 = .ok (.aload_n 0, 1) := by decide +kernel
theorem dX5_pickedFlow_35 : decode cX5_pickedFlow 35 = .ok (.aload_n 0, 1) := by decide +kernel
theorem dX5_pickedFlow_36 : decode cX5_pickedFlow 36 = .ok (.getfield 11, 3) := by decide +kernel
theorem dX5_pickedFlow_39 : decode cX5_pickedFlow 39 = .ok (.iload 4, 2) := by decide +kernel
theorem dX5_pickedFlow_41 : decode cX5_pickedFlow 41 = .ok (.aaload, 1) := by decide +kernel
theorem dX5_pickedFlow_42 : decode cX5_pickedFlow 42 = .ok (.invokevirtual 314, 3) := by decide +kernel
theorem dX5_pickedFlow_45 : decode cX5_pickedFlow 45 = .ok (.ifCond .eq 6, 3) := by decide +kernel
theorem dX5_pickedFlow_48 : decode cX5_pickedFlow 48 = .ok (.iload 4, 2) := by decide +kernel
theorem dX5_pickedFlow_50 : decode cX5_pickedFlow 50 = .ok (.ireturn, 1) := by decide +kernel
theorem dX5_pickedFlow_51 : decode cX5_pickedFlow 51 = .ok (.iinc 3 1, 3) := by decide +kernel
theorem dX5_pickedFlow_54 : decode cX5_pickedFlow 54 = .ok (.goto (-52), 3) := by decide +kernel
theorem dX5_pickedFlow_57 : decode cX5_pickedFlow 57 = .ok (.iconst (-1), 1) := by decide +kernel
theorem dX5_pickedFlow_58 : decode cX5_pickedFlow 58 = .ok (.ireturn, 1) := by decide +kernel
set_option maxRecDepth 20000 in
theorem ggX5_canSend_X0_unsent : GoodIn wsX5_canSend wsX0_unsent := goodIn_r _ [7, 8, 9, 10, 30, 31, 32, 33, 34, 35, 36, 37, 38, 39, 40, 41, 42] (by decide +kernel) (by decide +kernel)
set_option maxRecDepth 20000 in
theorem gX5_canSend_X0_unsent_n217 : GoodIn wsX5_canSend (wsX0_unsent) := ggX5_canSend_X0_unsent
set_option maxRecDepth 20000 in
theorem ggX5_canSend_X0_crossesLeaves : GoodIn wsX5_canSend wsX0_crossesLeaves := goodIn_r _ [13, 14, 15, 16, 5, 17, 18, 19, 20, 21, 22, 23, 30, 31, 32, 33, 34, 35, 36, 37, 38, 39, 40, 41, 42] (by decide +kernel) (by decide +kernel)
set_option maxRecDepth 20000 in
theorem gX5_canSend_X0_crossesLeaves_n223 : GoodIn wsX5_canSend (wsX0_crossesLeaves) := ggX5_canSend_X0_crossesLeaves
set_option maxRecDepth 20000 in
theorem ggX5_canSend_X0_sourceLeaf : GoodIn wsX5_canSend wsX0_sourceLeaf := goodIn_r _ [17, 18, 30, 31, 32, 33, 34, 35, 36, 37, 38, 39, 40, 41, 42] (by decide +kernel) (by decide +kernel)
set_option maxRecDepth 20000 in
theorem gX5_canSend_X0_sourceLeaf_n227 : GoodIn wsX5_canSend (wsX0_sourceLeaf) := ggX5_canSend_X0_sourceLeaf
set_option maxRecDepth 20000 in
theorem ggX5_canSend_X0_targetLeaf : GoodIn wsX5_canSend wsX0_targetLeaf := goodIn_r _ [22, 23, 30, 31, 32, 33, 34, 35, 36, 37, 38, 39, 40, 41, 42] (by decide +kernel) (by decide +kernel)
set_option maxRecDepth 20000 in
theorem gX5_canSend_X0_targetLeaf_n230 : GoodIn wsX5_canSend (wsX0_targetLeaf) := ggX5_canSend_X0_targetLeaf
set_option maxRecDepth 20000 in
theorem ggX5_canSend_X5_usableSpines : GoodIn wsX5_canSend wsX5_usableSpines := goodIn_r _ [28, 29, 43, 44, 45, 46, 47, 48, 49, 50, 51, 52, 53, 54, 55] (by decide +kernel) (by decide +kernel)
set_option maxRecDepth 20000 in
theorem gX5_canSend_X5_usableSpines : GoodIn wsX5_canSend (wsV RX5 193 RX5 yX5_usableSpines wsX5_usableSpines) := goodIn_app (goodIn_of _ (by decide +kernel)) ggX5_canSend_X5_usableSpines
theorem dX5_canSend_0 : decode cX5_canSend 0 = .ok (.aload_n 1, 1) := by decide +kernel
theorem dX5_canSend_1 : decode cX5_canSend 1 = .ok (.getfield 318, 3) := by decide +kernel
theorem dX5_canSend_4 : decode cX5_canSend 4 = .ok (.aload_n 0, 1) := by decide +kernel
theorem dX5_canSend_5 : decode cX5_canSend 5 = .ok (.getfield 96, 3) := by decide +kernel
theorem dX5_canSend_8 : decode cX5_canSend 8 = .ok (.if_icmp .gt 10, 3) := by decide +kernel
theorem dX5_canSend_11 : decode cX5_canSend 11 = .ok (.aload_n 1, 1) := by decide +kernel
theorem dX5_canSend_12 : decode cX5_canSend 12 = .ok (.invokevirtual 217, 3) := by decide +kernel
theorem dX5_canSend_15 : decode cX5_canSend 15 = .ok (.ifCond .gt 5, 3) := by decide +kernel
theorem dX5_canSend_18 : decode cX5_canSend 18 = .ok (.iconst 0, 1) := by decide +kernel
theorem dX5_canSend_19 : decode cX5_canSend 19 = .ok (.ireturn, 1) := by decide +kernel
theorem dX5_canSend_20 : decode cX5_canSend 20 = .ok (.aload_n 0, 1) := by decide +kernel
theorem dX5_canSend_21 : decode cX5_canSend 21 = .ok (.getfield 17, 3) := by decide +kernel
theorem dX5_canSend_24 : decode cX5_canSend 24 = .ok (.aload_n 1, 1) := by decide +kernel
theorem dX5_canSend_25 : decode cX5_canSend 25 = .ok (.getfield 220, 3) := by decide +kernel
theorem dX5_canSend_28 : decode cX5_canSend 28 = .ok (.aaload, 1) := by decide +kernel
theorem dX5_canSend_29 : decode cX5_canSend 29 = .ok (.getfield 188, 3) := by decide +kernel
theorem dX5_canSend_32 : decode cX5_canSend 32 = .ok (.aload_n 0, 1) := by decide +kernel
theorem dX5_canSend_33 : decode cX5_canSend 33 = .ok (.getfield 90, 3) := by decide +kernel
theorem dX5_canSend_36 : decode cX5_canSend 36 = .ok (.if_icmp .lt 5, 3) := by decide +kernel
theorem dX5_canSend_39 : decode cX5_canSend 39 = .ok (.iconst 0, 1) := by decide +kernel
theorem dX5_canSend_40 : decode cX5_canSend 40 = .ok (.ireturn, 1) := by decide +kernel
theorem dX5_canSend_41 : decode cX5_canSend 41 = .ok (.aload_n 1, 1) := by decide +kernel
theorem dX5_canSend_42 : decode cX5_canSend 42 = .ok (.invokevirtual 223, 3) := by decide +kernel
theorem dX5_canSend_45 : decode cX5_canSend 45 = .ok (.ifCond .eq 18, 3) := by decide +kernel
theorem dX5_canSend_48 : decode cX5_canSend 48 = .ok (.aload_n 0, 1) := by decide +kernel
theorem dX5_canSend_49 : decode cX5_canSend 49 = .ok (.aload_n 1, 1) := by decide +kernel
theorem dX5_canSend_50 : decode cX5_canSend 50 = .ok (.invokevirtual 227, 3) := by decide +kernel
theorem dX5_canSend_53 : decode cX5_canSend 53 = .ok (.aload_n 1, 1) := by decide +kernel
theorem dX5_canSend_54 : decode cX5_canSend 54 = .ok (.invokevirtual 230, 3) := by decide +kernel
theorem dX5_canSend_57 : decode cX5_canSend 57 = .ok (.invokevirtual 193, 3) := by decide +kernel
theorem dX5_canSend_60 : decode cX5_canSend 60 = .ok (.ifCond .eq 7, 3) := by decide +kernel
theorem dX5_canSend_63 : decode cX5_canSend 63 = .ok (.iconst 1, 1) := by decide +kernel
theorem dX5_canSend_64 : decode cX5_canSend 64 = .ok (.goto 4, 3) := by decide +kernel
theorem dX5_canSend_67 : decode cX5_canSend 67 = .ok (.iconst 0, 1) := by decide +kernel
theorem dX5_canSend_68 : decode cX5_canSend 68 = .ok (.ireturn, 1) := by decide +kernel
set_option maxRecDepth 20000 in
theorem ggX5_send_X0_crossesLeaves : GoodIn wsX5_send wsX0_crossesLeaves := goodIn_r _ [7, 8, 9, 10, 5, 11, 12, 13, 14, 15, 16, 17, 73, 74, 75, 76, 77, 78, 79, 80, 81, 82, 83, 84, 85] (by decide +kernel) (by decide +kernel)
set_option maxRecDepth 20000 in
theorem gX5_send_X0_crossesLeaves_n223 : GoodIn wsX5_send (wsX0_crossesLeaves) := ggX5_send_X0_crossesLeaves
set_option maxRecDepth 20000 in
theorem ggX5_send_X5_needsFlowlet : GoodIn wsX5_send wsX5_needsFlowlet := goodIn_r _ [22, 2, 23, 9, 5, 10, 11, 12, 14, 15, 16, 17, 24, 25, 26, 21, 27, 28, 29, 30, 31, 32, 73, 74, 75, 76, 77, 78, 79, 80, 81, 82, 83, 84, 85, 60, 61, 62, 63, 64, 65, 66, 67, 68, 69, 70, 71, 72] (by decide +kernel) (by decide +kernel)
set_option maxRecDepth 20000 in
theorem gX5_send_X5_needsFlowlet : GoodIn wsX5_send (wsV RX5 321 RX5 yX5_needsFlowlet wsX5_needsFlowlet) := goodIn_app (goodIn_of _ (by decide +kernel)) ggX5_send_X5_needsFlowlet
set_option maxRecDepth 20000 in
theorem ggX5_send_X5_chosenSpine : GoodIn wsX5_send wsX5_chosenSpine := goodIn_r _ [36, 1, 9, 5, 10, 11, 12, 14, 15, 16, 17, 28, 29, 30, 21, 31, 32, 37, 38, 39, 40, 41, 42, 43, 60, 61, 62, 63, 64, 65, 66, 67, 68, 69, 70, 71, 72, 73, 74, 75, 76, 77, 78, 79, 80, 81, 82, 83, 84, 85] (by decide +kernel) (by decide +kernel)
set_option maxRecDepth 20000 in
theorem gX5_send_X5_chosenSpine : GoodIn wsX5_send (wsV RX5 292 RX5 yX5_chosenSpine wsX5_chosenSpine) := goodIn_app (goodIn_of _ (by decide +kernel)) ggX5_send_X5_chosenSpine
set_option maxRecDepth 20000 in
theorem ggX5_send_X2_put : GoodIn wsX5_send wsX2_put := goodIn_r _ [47, 48, 49, 50, 51, 52, 53, 54, 55, 56, 57, 58, 59, 90, 91, 92, 93, 94, 95, 96, 97, 98, 99, 100] (by decide +kernel) (by decide +kernel)
set_option maxRecDepth 20000 in
theorem gX5_send_X2_put_n324 : GoodIn wsX5_send (wsX2_put) := ggX5_send_X2_put
theorem dX5_send_0 : decode cX5_send 0 = .ok (.aload_n 0, 1) := by decide +kernel
theorem dX5_send_1 : decode cX5_send 1 = .ok (.getfield 11, 3) := by decide +kernel
theorem dX5_send_4 : decode cX5_send 4 = .ok (.iload_n 1, 1) := by decide +kernel
theorem dX5_send_5 : decode cX5_send 5 = .ok (.aaload, 1) := by decide +kernel
theorem dX5_send_6 : decode cX5_send 6 = .ok (.astore_n 3, 1) := by decide +kernel
theorem dX5_send_7 : decode cX5_send 7 = .ok (.aload_n 3, 1) := by decide +kernel
theorem dX5_send_8 : decode cX5_send 8 = .ok (.invokevirtual 223, 3) := by decide +kernel
theorem dX5_send_11 : decode cX5_send 11 = .ok (.ifCond .eq 34, 3) := by decide +kernel
theorem dX5_send_14 : decode cX5_send 14 = .ok (.aload_n 0, 1) := by decide +kernel
theorem dX5_send_15 : decode cX5_send 15 = .ok (.aload_n 3, 1) := by decide +kernel
theorem dX5_send_16 : decode cX5_send 16 = .ok (.invokevirtual 321, 3) := by decide +kernel
theorem dX5_send_19 : decode cX5_send 19 = .ok (.ifCond .eq 26, 3) := by decide +kernel
theorem dX5_send_22 : decode cX5_send 22 = .ok (.aload_n 3, 1) := by decide +kernel
theorem dX5_send_23 : decode cX5_send 23 = .ok (.aload_n 0, 1) := by decide +kernel
theorem dX5_send_24 : decode cX5_send 24 = .ok (.iload_n 1, 1) := by decide +kernel
theorem dX5_send_25 : decode cX5_send 25 = .ok (.aload_n 3, 1) := by decide +kernel
theorem dX5_send_26 : decode cX5_send 26 = .ok (.getfield 176, 3) := by decide +kernel
theorem dX5_send_29 : decode cX5_send 29 = .ok (.invokevirtual 292, 3) := by decide +kernel
theorem dX5_send_32 : decode cX5_send 32 = .ok (.putfield 179, 3) := by decide +kernel
theorem dX5_send_35 : decode cX5_send 35 = .ok (.aload_n 3, 1) := by decide +kernel
theorem dX5_send_36 : decode cX5_send 36 = .ok (.dup, 1) := by decide +kernel
theorem dX5_send_37 : decode cX5_send 37 = .ok (.getfield 176, 3) := by decide +kernel
theorem dX5_send_40 : decode cX5_send 40 = .ok (.iconst 1, 1) := by decide +kernel
theorem dX5_send_41 : decode cX5_send 41 = .ok (.iadd, 1) := by decide +kernel
theorem dX5_send_42 : decode cX5_send 42 = .ok (.putfield 176, 3) := by decide +kernel
theorem dX5_send_45 : decode cX5_send 45 = .ok (.aload_n 2, 1) := by decide +kernel
theorem dX5_send_46 : decode cX5_send 46 = .ok (.iload_n 1, 1) := by decide +kernel
theorem dX5_send_47 : decode cX5_send 47 = .ok (.aload_n 3, 1) := by decide +kernel
theorem dX5_send_48 : decode cX5_send 48 = .ok (.getfield 161, 3) := by decide +kernel
theorem dX5_send_51 : decode cX5_send 51 = .ok (.aload_n 3, 1) := by decide +kernel
theorem dX5_send_52 : decode cX5_send 52 = .ok (.getfield 176, 3) := by decide +kernel
theorem dX5_send_55 : decode cX5_send 55 = .ok (.iconst 1, 1) := by decide +kernel
theorem dX5_send_56 : decode cX5_send 56 = .ok (.isub, 1) := by decide +kernel
theorem dX5_send_57 : decode cX5_send 57 = .ok (.aload_n 3, 1) := by decide +kernel
theorem dX5_send_58 : decode cX5_send 58 = .ok (.getfield 179, 3) := by decide +kernel
theorem dX5_send_61 : decode cX5_send 61 = .ok (.invokevirtual 324, 3) := by decide +kernel
theorem dX5_send_64 : decode cX5_send 64 = .ok (.aload_n 3, 1) := by decide +kernel
theorem dX5_send_65 : decode cX5_send 65 = .ok (.dup, 1) := by decide +kernel
theorem dX5_send_66 : decode cX5_send 66 = .ok (.getfield 161, 3) := by decide +kernel
theorem dX5_send_69 : decode cX5_send 69 = .ok (.iconst 1, 1) := by decide +kernel
theorem dX5_send_70 : decode cX5_send 70 = .ok (.iadd, 1) := by decide +kernel
theorem dX5_send_71 : decode cX5_send 71 = .ok (.putfield 161, 3) := by decide +kernel
theorem dX5_send_74 : decode cX5_send 74 = .ok (.aload_n 3, 1) := by decide +kernel
theorem dX5_send_75 : decode cX5_send 75 = .ok (.aload_n 0, 1) := by decide +kernel
theorem dX5_send_76 : decode cX5_send 76 = .ok (.getfield 96, 3) := by decide +kernel
theorem dX5_send_79 : decode cX5_send 79 = .ok (.putfield 327, 3) := by decide +kernel
theorem dX5_send_82 : decode cX5_send 82 = .ok (.aload_n 0, 1) := by decide +kernel
theorem dX5_send_83 : decode cX5_send 83 = .ok (.getfield 17, 3) := by decide +kernel
theorem dX5_send_86 : decode cX5_send 86 = .ok (.aload_n 3, 1) := by decide +kernel
theorem dX5_send_87 : decode cX5_send 87 = .ok (.getfield 220, 3) := by decide +kernel
theorem dX5_send_90 : decode cX5_send 90 = .ok (.aaload, 1) := by decide +kernel
theorem dX5_send_91 : decode cX5_send 91 = .ok (.dup, 1) := by decide +kernel
theorem dX5_send_92 : decode cX5_send 92 = .ok (.getfield 188, 3) := by decide +kernel
theorem dX5_send_95 : decode cX5_send 95 = .ok (.iconst 1, 1) := by decide +kernel
theorem dX5_send_96 : decode cX5_send 96 = .ok (.iadd, 1) := by decide +kernel
theorem dX5_send_97 : decode cX5_send 97 = .ok (.putfield 188, 3) := by decide +kernel
theorem dX5_send_100 : decode cX5_send 100 = .ok (.return_, 1) := by decide +kernel
set_option maxRecDepth 20000 in
theorem ggX5_needsFlowlet_X0_sourceLeaf : GoodIn wsX5_needsFlowlet wsX0_sourceLeaf := goodIn_r _ [6, 7, 22, 23, 24, 25, 26, 27, 28, 29, 30, 31, 32, 33, 34] (by decide +kernel) (by decide +kernel)
set_option maxRecDepth 20000 in
theorem gX5_needsFlowlet_X0_sourceLeaf_n227 : GoodIn wsX5_needsFlowlet (wsX0_sourceLeaf) := ggX5_needsFlowlet_X0_sourceLeaf
set_option maxRecDepth 20000 in
theorem ggX5_needsFlowlet_X0_targetLeaf : GoodIn wsX5_needsFlowlet wsX0_targetLeaf := goodIn_r _ [10, 11, 22, 23, 24, 25, 26, 27, 28, 29, 30, 31, 32, 33, 34] (by decide +kernel) (by decide +kernel)
set_option maxRecDepth 20000 in
theorem gX5_needsFlowlet_X0_targetLeaf_n230 : GoodIn wsX5_needsFlowlet (wsX0_targetLeaf) := ggX5_needsFlowlet_X0_targetLeaf
set_option maxRecDepth 20000 in
theorem ggX5_needsFlowlet_X5_isUsable : GoodIn wsX5_needsFlowlet wsX5_isUsable := goodIn_r _ [16, 17, 18, 19, 15, 20, 21, 35, 36, 37, 38, 39, 40, 41, 42, 43, 44, 45, 46, 47] (by decide +kernel) (by decide +kernel)
set_option maxRecDepth 20000 in
theorem gX5_needsFlowlet_X5_isUsable : GoodIn wsX5_needsFlowlet (wsV RX5 286 RX5 yX5_isUsable wsX5_isUsable) := goodIn_app (goodIn_of _ (by decide +kernel)) ggX5_needsFlowlet_X5_isUsable
theorem dX5_needsFlowlet_0 : decode cX5_needsFlowlet 0 = .ok (.aload_n 1, 1) := by decide +kernel
theorem dX5_needsFlowlet_1 : decode cX5_needsFlowlet 1 = .ok (.getfield 176, 3) := by decide +kernel
theorem dX5_needsFlowlet_4 : decode cX5_needsFlowlet 4 = .ok (.ifCond .eq 38, 3) := by decide +kernel
theorem dX5_needsFlowlet_7 : decode cX5_needsFlowlet 7 = .ok (.aload_n 0, 1) := by decide +kernel
theorem dX5_needsFlowlet_8 : decode cX5_needsFlowlet 8 = .ok (.getfield 96, 3) := by decide +kernel
theorem dX5_needsFlowlet_11 : decode cX5_needsFlowlet 11 = .ok (.aload_n 1, 1) := by decide +kernel
theorem dX5_needsFlowlet_12 : decode cX5_needsFlowlet 12 = .ok (.getfield 327, 3) := by decide +kernel
theorem dX5_needsFlowlet_15 : decode cX5_needsFlowlet 15 = .ok (.isub, 1) := by decide +kernel
theorem dX5_needsFlowlet_16 : decode cX5_needsFlowlet 16 = .ok (.aload_n 0, 1) := by decide +kernel
theorem dX5_needsFlowlet_17 : decode cX5_needsFlowlet 17 = .ok (.getfield 87, 3) := by decide +kernel
theorem dX5_needsFlowlet_20 : decode cX5_needsFlowlet 20 = .ok (.if_icmp .gt 22, 3) := by decide +kernel
theorem dX5_needsFlowlet_23 : decode cX5_needsFlowlet 23 = .ok (.aload_n 0, 1) := by decide +kernel
theorem dX5_needsFlowlet_24 : decode cX5_needsFlowlet 24 = .ok (.aload_n 1, 1) := by decide +kernel
theorem dX5_needsFlowlet_25 : decode cX5_needsFlowlet 25 = .ok (.getfield 179, 3) := by decide +kernel
theorem dX5_needsFlowlet_28 : decode cX5_needsFlowlet 28 = .ok (.aload_n 1, 1) := by decide +kernel
theorem dX5_needsFlowlet_29 : decode cX5_needsFlowlet 29 = .ok (.invokevirtual 227, 3) := by decide +kernel
theorem dX5_needsFlowlet_32 : decode cX5_needsFlowlet 32 = .ok (.aload_n 1, 1) := by decide +kernel
theorem dX5_needsFlowlet_33 : decode cX5_needsFlowlet 33 = .ok (.invokevirtual 230, 3) := by decide +kernel
theorem dX5_needsFlowlet_36 : decode cX5_needsFlowlet 36 = .ok (.invokevirtual 286, 3) := by decide +kernel
theorem dX5_needsFlowlet_39 : decode cX5_needsFlowlet 39 = .ok (.ifCond .ne 7, 3) := by decide +kernel
theorem dX5_needsFlowlet_42 : decode cX5_needsFlowlet 42 = .ok (.iconst 1, 1) := by decide +kernel
theorem dX5_needsFlowlet_43 : decode cX5_needsFlowlet 43 = .ok (.goto 4, 3) := by decide +kernel
theorem dX5_needsFlowlet_46 : decode cX5_needsFlowlet 46 = .ok (.iconst 0, 1) := by decide +kernel
theorem dX5_needsFlowlet_47 : decode cX5_needsFlowlet 47 = .ok (.ireturn, 1) := by decide +kernel
set_option maxRecDepth 20000 in
theorem ggX5_chosenSpine_X0_sourceLeaf : GoodIn wsX5_chosenSpine wsX0_sourceLeaf := goodIn_r _ [5, 6, 37, 38, 39, 40, 41, 42, 43, 44, 45, 46, 47, 48, 49] (by decide +kernel) (by decide +kernel)
set_option maxRecDepth 20000 in
theorem gX5_chosenSpine_X0_sourceLeaf_n227 : GoodIn wsX5_chosenSpine (wsX0_sourceLeaf) := ggX5_chosenSpine_X0_sourceLeaf
set_option maxRecDepth 20000 in
theorem ggX5_chosenSpine_X0_targetLeaf : GoodIn wsX5_chosenSpine wsX0_targetLeaf := goodIn_r _ [9, 10, 37, 38, 39, 40, 41, 42, 43, 44, 45, 46, 47, 48, 49] (by decide +kernel) (by decide +kernel)
set_option maxRecDepth 20000 in
theorem gX5_chosenSpine_X0_targetLeaf_n230 : GoodIn wsX5_chosenSpine (wsX0_targetLeaf) := ggX5_chosenSpine_X0_targetLeaf
set_option maxRecDepth 20000 in
theorem ggX5_chosenSpine_X5_usableSpines : GoodIn wsX5_chosenSpine wsX5_usableSpines := goodIn_r _ [15, 16, 24, 25, 26, 27, 28, 29, 30, 31, 32, 33, 34, 35, 36] (by decide +kernel) (by decide +kernel)
set_option maxRecDepth 20000 in
theorem gX5_chosenSpine_X5_usableSpines : GoodIn wsX5_chosenSpine (wsV RX5 193 RX5 yX5_usableSpines wsX5_usableSpines) := goodIn_app (goodIn_of _ (by decide +kernel)) ggX5_chosenSpine_X5_usableSpines
set_option maxRecDepth 20000 in
theorem ggX5_chosenSpine_J6_bitCount_0f7a4 : GoodIn wsX5_chosenSpine wsJ6_bitCount_0f7a4 := goodIn_r _ [20, 21, 22, 23] (by decide +kernel) (by decide +kernel)
set_option maxRecDepth 20000 in
theorem gX5_chosenSpine_J6_bitCount_0f7a4 : GoodIn wsX5_chosenSpine (va_wsS RX5 143 yJ6_bitCount_0f7a4 wsJ6_bitCount_0f7a4) := goodIn_app (goodIn_of _ (by decide +kernel)) ggX5_chosenSpine_J6_bitCount_0f7a4
theorem dX5_chosenSpine_0 : decode cX5_chosenSpine 0 = .ok (.aload_n 0, 1) := by decide +kernel
theorem dX5_chosenSpine_1 : decode cX5_chosenSpine 1 = .ok (.getfield 11, 3) := by decide +kernel
theorem dX5_chosenSpine_4 : decode cX5_chosenSpine 4 = .ok (.iload_n 1, 1) := by decide +kernel
theorem dX5_chosenSpine_5 : decode cX5_chosenSpine 5 = .ok (.aaload, 1) := by decide +kernel
theorem dX5_chosenSpine_6 : decode cX5_chosenSpine 6 = .ok (.astore_n 3, 1) := by decide +kernel
theorem dX5_chosenSpine_7 : decode cX5_chosenSpine 7 = .ok (.aload_n 0, 1) := by decide +kernel
theorem dX5_chosenSpine_8 : decode cX5_chosenSpine 8 = .ok (.aload_n 3, 1) := by decide +kernel
theorem dX5_chosenSpine_9 : decode cX5_chosenSpine 9 = .ok (.invokevirtual 227, 3) := by decide +kernel
theorem dX5_chosenSpine_12 : decode cX5_chosenSpine 12 = .ok (.aload_n 3, 1) := by decide +kernel
theorem dX5_chosenSpine_13 : decode cX5_chosenSpine 13 = .ok (.invokevirtual 230, 3) := by decide +kernel
theorem dX5_chosenSpine_16 : decode cX5_chosenSpine 16 = .ok (.invokevirtual 193, 3) := by decide +kernel
theorem dX5_chosenSpine_19 : decode cX5_chosenSpine 19 = .ok (.istore 4, 2) := by decide +kernel
theorem dX5_chosenSpine_21 : decode cX5_chosenSpine 21 = .ok (.iload 4, 2) := by decide +kernel
theorem dX5_chosenSpine_23 : decode cX5_chosenSpine 23 = .ok (.invokestatic 143, 3) := by decide +kernel
theorem dX5_chosenSpine_26 : decode cX5_chosenSpine 26 = .ok (.istore 5, 2) := by decide +kernel
theorem dX5_chosenSpine_28 : decode cX5_chosenSpine 28 = .ok (.iload 5, 2) := by decide +kernel
theorem dX5_chosenSpine_30 : decode cX5_chosenSpine 30 = .ok (.ifCond .ne 5, 3) := by decide +kernel
theorem dX5_chosenSpine_33 : decode cX5_chosenSpine 33 = .ok (.iconst (-1), 1) := by decide +kernel
theorem dX5_chosenSpine_34 : decode cX5_chosenSpine 34 = .ok (.ireturn, 1) := by decide +kernel
theorem dX5_chosenSpine_35 : decode cX5_chosenSpine 35 = .ok (.bipush 7, 2) := by decide +kernel
theorem dX5_chosenSpine_37 : decode cX5_chosenSpine 37 = .ok (.iload_n 1, 1) := by decide +kernel
theorem dX5_chosenSpine_38 : decode cX5_chosenSpine 38 = .ok (.imul, 1) := by decide +kernel
theorem dX5_chosenSpine_39 : decode cX5_chosenSpine 39 = .ok (.bipush 13, 2) := by decide +kernel
theorem dX5_chosenSpine_41 : decode cX5_chosenSpine 41 = .ok (.iload_n 2, 1) := by decide +kernel
theorem dX5_chosenSpine_42 : decode cX5_chosenSpine 42 = .ok (.imul, 1) := by decide +kernel
theorem dX5_chosenSpine_43 : decode cX5_chosenSpine 43 = .ok (.iadd, 1) := by decide +kernel
theorem dX5_chosenSpine_44 : decode cX5_chosenSpine 44 = .ok (.iconst 3, 1) := by decide +kernel
theorem dX5_chosenSpine_45 : decode cX5_chosenSpine 45 = .ok (.aload_n 3, 1) := by decide +kernel
theorem dX5_chosenSpine_46 : decode cX5_chosenSpine 46 = .ok (.getfield 214, 3) := by decide +kernel
theorem dX5_chosenSpine_49 : decode cX5_chosenSpine 49 = .ok (.imul, 1) := by decide +kernel
theorem dX5_chosenSpine_50 : decode cX5_chosenSpine 50 = .ok (.iadd, 1) := by decide +kernel
theorem dX5_chosenSpine_51 : decode cX5_chosenSpine 51 = .ok (.iconst 5, 1) := by decide +kernel
theorem dX5_chosenSpine_52 : decode cX5_chosenSpine 52 = .ok (.aload_n 3, 1) := by decide +kernel
theorem dX5_chosenSpine_53 : decode cX5_chosenSpine 53 = .ok (.getfield 220, 3) := by decide +kernel
theorem dX5_chosenSpine_56 : decode cX5_chosenSpine 56 = .ok (.imul, 1) := by decide +kernel
theorem dX5_chosenSpine_57 : decode cX5_chosenSpine 57 = .ok (.iadd, 1) := by decide +kernel
theorem dX5_chosenSpine_58 : decode cX5_chosenSpine 58 = .ok (.iload 5, 2) := by decide +kernel
theorem dX5_chosenSpine_60 : decode cX5_chosenSpine 60 = .ok (.irem, 1) := by decide +kernel
theorem dX5_chosenSpine_61 : decode cX5_chosenSpine 61 = .ok (.istore 6, 2) := by decide +kernel
theorem dX5_chosenSpine_63 : decode cX5_chosenSpine 63 = .ok (.iconst 0, 1) := by decide +kernel
theorem dX5_chosenSpine_64 : decode cX5_chosenSpine 64 = .ok (.istore 7, 2) := by decide +kernel
theorem dX5_chosenSpine_66 : decode cX5_chosenSpine 66 = .ok (.iload 7, 2) := by decide +kernel
theorem dX5_chosenSpine_68 : decode cX5_chosenSpine 68 = .ok (.iconst 4, 1) := by decide +kernel
theorem dX5_chosenSpine_69 : decode cX5_chosenSpine 69 = .ok (.if_icmp .ge 31, 3) := by decide +kernel
theorem dX5_chosenSpine_72 : decode cX5_chosenSpine 72 = .ok (.iload 4, 2) := by decide +kernel
theorem dX5_chosenSpine_74 : decode cX5_chosenSpine 74 = .ok (.iload 7, 2) := by decide +kernel
theorem dX5_chosenSpine_76 : decode cX5_chosenSpine 76 = .ok (.ishr, 1) := by decide +kernel
theorem dX5_chosenSpine_77 : decode cX5_chosenSpine 77 = .ok (.iconst 1, 1) := by decide +kernel
theorem dX5_chosenSpine_78 : decode cX5_chosenSpine 78 = .ok (.iand, 1) := by decide +kernel
theorem dX5_chosenSpine_79 : decode cX5_chosenSpine 79 = .ok (.iconst 1, 1) := by decide +kernel
theorem dX5_chosenSpine_80 : decode cX5_chosenSpine 80 = .ok (.if_icmp .ne 14, 3) := by decide +kernel
theorem dX5_chosenSpine_83 : decode cX5_chosenSpine 83 = .ok (.iload 6, 2) := by decide +kernel
theorem dX5_chosenSpine_85 : decode cX5_chosenSpine 85 = .ok (.ifCond .ne 6, 3) := by decide +kernel
theorem dX5_chosenSpine_88 : decode cX5_chosenSpine 88 = .ok (.iload 7, 2) := by decide +kernel
theorem dX5_chosenSpine_90 : decode cX5_chosenSpine 90 = .ok (.ireturn, 1) := by decide +kernel
theorem dX5_chosenSpine_91 : decode cX5_chosenSpine 91 = .ok (.iinc 6 (-1), 3) := by decide +kernel
theorem dX5_chosenSpine_94 : decode cX5_chosenSpine 94 = .ok (.iinc 7 1, 3) := by decide +kernel
theorem dX5_chosenSpine_97 : decode cX5_chosenSpine 97 = .ok (.goto (-31), 3) := by decide +kernel
theorem dX5_chosenSpine_100 : decode cX5_chosenSpine 100 = .ok (.iconst (-1), 1) := by decide +kernel
theorem dX5_chosenSpine_101 : decode cX5_chosenSpine 101 = .ok (.ireturn, 1) := by decide +kernel
theorem dX5_isCut_0 : decode cX5_isCut 0 = .ok (.aload_n 0, 1) := by decide +kernel
theorem dX5_isCut_1 : decode cX5_isCut 1 = .ok (.getfield 42, 3) := by decide +kernel
theorem dX5_isCut_4 : decode cX5_isCut 4 = .ok (.iload_n 1, 1) := by decide +kernel
theorem dX5_isCut_5 : decode cX5_isCut 5 = .ok (.iaload, 1) := by decide +kernel
theorem dX5_isCut_6 : decode cX5_isCut 6 = .ok (.iload_n 2, 1) := by decide +kernel
theorem dX5_isCut_7 : decode cX5_isCut 7 = .ok (.ishr, 1) := by decide +kernel
theorem dX5_isCut_8 : decode cX5_isCut 8 = .ok (.iconst 1, 1) := by decide +kernel
theorem dX5_isCut_9 : decode cX5_isCut 9 = .ok (.iand, 1) := by decide +kernel
theorem dX5_isCut_10 : decode cX5_isCut 10 = .ok (.ifCond .ne 7, 3) := by decide +kernel
theorem dX5_isCut_13 : decode cX5_isCut 13 = .ok (.iconst 1, 1) := by decide +kernel
theorem dX5_isCut_14 : decode cX5_isCut 14 = .ok (.goto 4, 3) := by decide +kernel
theorem dX5_isCut_17 : decode cX5_isCut 17 = .ok (.iconst 0, 1) := by decide +kernel
theorem dX5_isCut_18 : decode cX5_isCut 18 = .ok (.ireturn, 1) := by decide +kernel
set_option maxRecDepth 20000 in
theorem ggX5_isUsable_X5_usableSpines : GoodIn wsX5_isUsable wsX5_usableSpines := goodIn_r _ [5, 6, 7, 8, 9, 10, 11, 12, 13, 14, 15, 16, 17, 18, 19] (by decide +kernel) (by decide +kernel)
set_option maxRecDepth 20000 in
theorem gX5_isUsable_X5_usableSpines : GoodIn wsX5_isUsable (wsV RX5 193 RX5 yX5_usableSpines wsX5_usableSpines) := goodIn_app (goodIn_of _ (by decide +kernel)) ggX5_isUsable_X5_usableSpines
theorem dX5_isUsable_0 : decode cX5_isUsable 0 = .ok (.aload_n 0, 1) := by decide +kernel
theorem dX5_isUsable_1 : decode cX5_isUsable 1 = .ok (.iload_n 2, 1) := by decide +kernel
theorem dX5_isUsable_2 : decode cX5_isUsable 2 = .ok (.iload_n 3, 1) := by decide +kernel
theorem dX5_isUsable_3 : decode cX5_isUsable 3 = .ok (.invokevirtual 193, 3) := by decide +kernel
theorem dX5_isUsable_6 : decode cX5_isUsable 6 = .ok (.iload_n 1, 1) := by decide +kernel
theorem dX5_isUsable_7 : decode cX5_isUsable 7 = .ok (.ishr, 1) := by decide +kernel
theorem dX5_isUsable_8 : decode cX5_isUsable 8 = .ok (.iconst 1, 1) := by decide +kernel
theorem dX5_isUsable_9 : decode cX5_isUsable 9 = .ok (.iand, 1) := by decide +kernel
theorem dX5_isUsable_10 : decode cX5_isUsable 10 = .ok (.iconst 1, 1) := by decide +kernel
theorem dX5_isUsable_11 : decode cX5_isUsable 11 = .ok (.if_icmp .ne 7, 3) := by decide +kernel
theorem dX5_isUsable_14 : decode cX5_isUsable 14 = .ok (.iconst 1, 1) := by decide +kernel
theorem dX5_isUsable_15 : decode cX5_isUsable 15 = .ok (.goto 4, 3) := by decide +kernel
theorem dX5_isUsable_18 : decode cX5_isUsable 18 = .ok (.iconst 0, 1) := by decide +kernel
theorem dX5_isUsable_19 : decode cX5_isUsable 19 = .ok (.ireturn, 1) := by decide +kernel
theorem dX5_usableSpines_0 : decode cX5_usableSpines 0 = .ok (.aload_n 0, 1) := by decide +kernel
theorem dX5_usableSpines_1 : decode cX5_usableSpines 1 = .ok (.getfield 42, 3) := by decide +kernel
theorem dX5_usableSpines_4 : decode cX5_usableSpines 4 = .ok (.iload_n 1, 1) := by decide +kernel
theorem dX5_usableSpines_5 : decode cX5_usableSpines 5 = .ok (.iaload, 1) := by decide +kernel
theorem dX5_usableSpines_6 : decode cX5_usableSpines 6 = .ok (.aload_n 0, 1) := by decide +kernel
theorem dX5_usableSpines_7 : decode cX5_usableSpines 7 = .ok (.getfield 42, 3) := by decide +kernel
theorem dX5_usableSpines_10 : decode cX5_usableSpines 10 = .ok (.iload_n 2, 1) := by decide +kernel
theorem dX5_usableSpines_11 : decode cX5_usableSpines 11 = .ok (.iaload, 1) := by decide +kernel
theorem dX5_usableSpines_12 : decode cX5_usableSpines 12 = .ok (.iand, 1) := by decide +kernel
theorem dX5_usableSpines_13 : decode cX5_usableSpines 13 = .ok (.ireturn, 1) := by decide +kernel
theorem dX5_northOf_0 : decode cX5_northOf 0 = .ok (.aload_n 0, 1) := by decide +kernel
theorem dX5_northOf_1 : decode cX5_northOf 1 = .ok (.getfield 27, 3) := by decide +kernel
theorem dX5_northOf_4 : decode cX5_northOf 4 = .ok (.iload_n 1, 1) := by decide +kernel
theorem dX5_northOf_5 : decode cX5_northOf 5 = .ok (.iconst 4, 1) := by decide +kernel
theorem dX5_northOf_6 : decode cX5_northOf 6 = .ok (.imul, 1) := by decide +kernel
theorem dX5_northOf_7 : decode cX5_northOf 7 = .ok (.iload_n 2, 1) := by decide +kernel
theorem dX5_northOf_8 : decode cX5_northOf 8 = .ok (.iadd, 1) := by decide +kernel
theorem dX5_northOf_9 : decode cX5_northOf 9 = .ok (.aaload, 1) := by decide +kernel
theorem dX5_northOf_10 : decode cX5_northOf 10 = .ok (.areturn, 1) := by decide +kernel
theorem dX5_southOf_0 : decode cX5_southOf 0 = .ok (.aload_n 0, 1) := by decide +kernel
theorem dX5_southOf_1 : decode cX5_southOf 1 = .ok (.getfield 30, 3) := by decide +kernel
theorem dX5_southOf_4 : decode cX5_southOf 4 = .ok (.iload_n 1, 1) := by decide +kernel
theorem dX5_southOf_5 : decode cX5_southOf 5 = .ok (.iconst 4, 1) := by decide +kernel
theorem dX5_southOf_6 : decode cX5_southOf 6 = .ok (.imul, 1) := by decide +kernel
theorem dX5_southOf_7 : decode cX5_southOf 7 = .ok (.iload_n 2, 1) := by decide +kernel
theorem dX5_southOf_8 : decode cX5_southOf 8 = .ok (.iadd, 1) := by decide +kernel
theorem dX5_southOf_9 : decode cX5_southOf 9 = .ok (.aaload, 1) := by decide +kernel
theorem dX5_southOf_10 : decode cX5_southOf 10 = .ok (.areturn, 1) := by decide +kernel
theorem dX5_isOutside_0 : decode cX5_isOutside 0 = .ok (.iload_n 0, 1) := by decide +kernel
theorem dX5_isOutside_1 : decode cX5_isOutside 1 = .ok (.iload_n 1, 1) := by decide +kernel
theorem dX5_isOutside_2 : decode cX5_isOutside 2 = .ok (.if_icmp .lt 8, 3) := by decide +kernel
theorem dX5_isOutside_5 : decode cX5_isOutside 5 = .ok (.iload_n 0, 1) := by decide +kernel
theorem dX5_isOutside_6 : decode cX5_isOutside 6 = .ok (.iload_n 2, 1) := by decide +kernel
theorem dX5_isOutside_7 : decode cX5_isOutside 7 = .ok (.if_icmp .le 7, 3) := by decide +kernel
theorem dX5_isOutside_10 : decode cX5_isOutside 10 = .ok (.iconst 1, 1) := by decide +kernel
theorem dX5_isOutside_11 : decode cX5_isOutside 11 = .ok (.goto 4, 3) := by decide +kernel
theorem dX5_isOutside_14 : decode cX5_isOutside 14 = .ok (.iconst 0, 1) := by decide +kernel
theorem dX5_isOutside_15 : decode cX5_isOutside 15 = .ok (.ireturn, 1) := by decide +kernel
set_option maxRecDepth 20000 in
theorem ggX5_checkHost_X5_isOutside : GoodIn wsX5_checkHost wsX5_isOutside := goodIn_r _ [6] (by decide +kernel) (by decide +kernel)
set_option maxRecDepth 20000 in
theorem gX5_checkHost_X5_isOutside : GoodIn wsX5_checkHost (va_wsS RX5 103 yX5_isOutside wsX5_isOutside) := goodIn_app (goodIn_of _ (by decide +kernel)) ggX5_checkHost_X5_isOutside
theorem dX5_checkHost_0 : decode cX5_checkHost 0 = .ok (.iload_n 0, 1) := by decide +kernel
theorem dX5_checkHost_1 : decode cX5_checkHost 1 = .ok (.iconst 0, 1) := by decide +kernel
theorem dX5_checkHost_2 : decode cX5_checkHost 2 = .ok (.bipush 15, 2) := by decide +kernel
theorem dX5_checkHost_4 : decode cX5_checkHost 4 = .ok (.invokestatic 103, 3) := by decide +kernel
theorem dX5_checkHost_7 : decode cX5_checkHost 7 = .ok (.ifCond .eq 14, 3) := by decide +kernel
theorem dX5_checkHost_10 : decode cX5_checkHost 10 = .ok (.new 107, 3) := by decide +kernel
theorem dX5_checkHost_13 : decode cX5_checkHost 13 = .ok (.dup, 1) := by decide +kernel
theorem dX5_checkHost_14 : decode cX5_checkHost 14 = .ok (.ldc_w 330, 3) := by decide +kernel
theorem dX5_checkHost_17 : decode cX5_checkHost 17 = .ok (.invokespecial 111, 3) := by decide +kernel
theorem dX5_checkHost_20 : decode cX5_checkHost 20 = .ok (.athrow, 1) := by decide +kernel
theorem dX5_checkHost_21 : decode cX5_checkHost 21 = .ok (.return_, 1) := by decide +kernel
set_option maxRecDepth 20000 in
theorem ggX5_checkConnection_X5_isOutside : GoodIn wsX5_checkConnection wsX5_isOutside := goodIn_r _ [6] (by decide +kernel) (by decide +kernel)
set_option maxRecDepth 20000 in
theorem gX5_checkConnection_X5_isOutside : GoodIn wsX5_checkConnection (va_wsS RX5 103 yX5_isOutside wsX5_isOutside) := goodIn_app (goodIn_of _ (by decide +kernel)) ggX5_checkConnection_X5_isOutside
theorem dX5_checkConnection_0 : decode cX5_checkConnection 0 = .ok (.iload_n 0, 1) := by decide +kernel
theorem dX5_checkConnection_1 : decode cX5_checkConnection 1 = .ok (.iconst 0, 1) := by decide +kernel
theorem dX5_checkConnection_2 : decode cX5_checkConnection 2 = .ok (.iconst 3, 1) := by decide +kernel
theorem dX5_checkConnection_3 : decode cX5_checkConnection 3 = .ok (.invokestatic 103, 3) := by decide +kernel
theorem dX5_checkConnection_6 : decode cX5_checkConnection 6 = .ok (.ifCond .ne 12, 3) := by decide +kernel
theorem dX5_checkConnection_9 : decode cX5_checkConnection 9 = .ok (.iload_n 1, 1) := by decide +kernel
theorem dX5_checkConnection_10 : decode cX5_checkConnection 10 = .ok (.iconst 0, 1) := by decide +kernel
theorem dX5_checkConnection_11 : decode cX5_checkConnection 11 = .ok (.iconst 3, 1) := by decide +kernel
theorem dX5_checkConnection_12 : decode cX5_checkConnection 12 = .ok (.invokestatic 103, 3) := by decide +kernel
theorem dX5_checkConnection_15 : decode cX5_checkConnection 15 = .ok (.ifCond .eq 14, 3) := by decide +kernel
theorem dX5_checkConnection_18 : decode cX5_checkConnection 18 = .ok (.new 107, 3) := by decide +kernel
theorem dX5_checkConnection_21 : decode cX5_checkConnection 21 = .ok (.dup, 1) := by decide +kernel
theorem dX5_checkConnection_22 : decode cX5_checkConnection 22 = .ok (.ldc_w 332, 3) := by decide +kernel
theorem dX5_checkConnection_25 : decode cX5_checkConnection 25 = .ok (.invokespecial 111, 3) := by decide +kernel
theorem dX5_checkConnection_28 : decode cX5_checkConnection 28 = .ok (.athrow, 1) := by decide +kernel
theorem dX5_checkConnection_29 : decode cX5_checkConnection 29 = .ok (.return_, 1) := by decide +kernel
set_option maxRecDepth 20000 in
theorem ggX5_checkFlow_X5_isOutside : GoodIn wsX5_checkFlow wsX5_isOutside := goodIn_r _ [7] (by decide +kernel) (by decide +kernel)
set_option maxRecDepth 20000 in
theorem gX5_checkFlow_X5_isOutside : GoodIn wsX5_checkFlow (va_wsS RX5 103 yX5_isOutside wsX5_isOutside) := goodIn_app (goodIn_of _ (by decide +kernel)) ggX5_checkFlow_X5_isOutside
theorem dX5_checkFlow_0 : decode cX5_checkFlow 0 = .ok (.iload_n 1, 1) := by decide +kernel
theorem dX5_checkFlow_1 : decode cX5_checkFlow 1 = .ok (.iconst 0, 1) := by decide +kernel
theorem dX5_checkFlow_2 : decode cX5_checkFlow 2 = .ok (.aload_n 0, 1) := by decide +kernel
theorem dX5_checkFlow_3 : decode cX5_checkFlow 3 = .ok (.getfield 93, 3) := by decide +kernel
theorem dX5_checkFlow_6 : decode cX5_checkFlow 6 = .ok (.iconst 1, 1) := by decide +kernel
theorem dX5_checkFlow_7 : decode cX5_checkFlow 7 = .ok (.isub, 1) := by decide +kernel
theorem dX5_checkFlow_8 : decode cX5_checkFlow 8 = .ok (.invokestatic 103, 3) := by decide +kernel
theorem dX5_checkFlow_11 : decode cX5_checkFlow 11 = .ok (.ifCond .eq 14, 3) := by decide +kernel
theorem dX5_checkFlow_14 : decode cX5_checkFlow 14 = .ok (.new 334, 3) := by decide +kernel
theorem dX5_checkFlow_17 : decode cX5_checkFlow 17 = .ok (.dup, 1) := by decide +kernel
theorem dX5_checkFlow_18 : decode cX5_checkFlow 18 = .ok (.ldc_w 336, 3) := by decide +kernel
theorem dX5_checkFlow_21 : decode cX5_checkFlow 21 = .ok (.invokespecial 338, 3) := by decide +kernel
theorem dX5_checkFlow_24 : decode cX5_checkFlow 24 = .ok (.athrow, 1) := by decide +kernel
theorem dX5_checkFlow_25 : decode cX5_checkFlow 25 = .ok (.return_, 1) := by decide +kernel
